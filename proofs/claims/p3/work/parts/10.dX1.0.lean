theorem dX1_init_0 : decode cX1_init 0 = .ok (.aload_n 0, 1) := by decide +kernel
theorem dX1_init_1 : decode cX1_init 1 = .ok (.invokespecial 3, 3) := by decide +kernel
theorem dX1_init_4 : decode cX1_init 4 = .ok (.aload_n 0, 1) := by decide +kernel
theorem dX1_init_5 : decode cX1_init 5 = .ok (.bipush 6, 2) := by decide +kernel
theorem dX1_init_7 : decode cX1_init 7 = .ok (.newarray .int, 2) := by decide +kernel
theorem dX1_init_9 : decode cX1_init 9 = .ok (.putfield 11, 3) := by decide +kernel
theorem dX1_init_12 : decode cX1_init 12 = .ok (.aload_n 0, 1) := by decide +kernel
theorem dX1_init_13 : decode cX1_init 13 = .ok (.bipush 48, 2) := by decide +kernel
theorem dX1_init_15 : decode cX1_init 15 = .ok (.newarray .int, 2) := by decide +kernel
theorem dX1_init_17 : decode cX1_init 17 = .ok (.putfield 15, 3) := by decide +kernel
theorem dX1_init_20 : decode cX1_init 20 = .ok (.aload_n 0, 1) := by decide +kernel
theorem dX1_init_21 : decode cX1_init 21 = .ok (.bipush 40, 2) := by decide +kernel
theorem dX1_init_23 : decode cX1_init 23 = .ok (.newarray .int, 2) := by decide +kernel
theorem dX1_init_25 : decode cX1_init 25 = .ok (.putfield 18, 3) := by decide +kernel
theorem dX1_init_28 : decode cX1_init 28 = .ok (.aload_n 0, 1) := by decide +kernel
theorem dX1_init_29 : decode cX1_init 29 = .ok (.aload_n 1, 1) := by decide +kernel
theorem dX1_init_30 : decode cX1_init 30 = .ok (.putfield 21, 3) := by decide +kernel
theorem dX1_init_33 : decode cX1_init 33 = .ok (.return_, 1) := by decide +kernel
theorem dX1_become_0 : decode cX1_become 0 = .ok (.aload_n 0, 1) := by decide +kernel
theorem dX1_become_1 : decode cX1_become 1 = .ok (.iload_n 2, 1) := by decide +kernel
theorem dX1_become_2 : decode cX1_become 2 = .ok (.putfield 25, 3) := by decide +kernel
theorem dX1_become_5 : decode cX1_become 5 = .ok (.aload_n 0, 1) := by decide +kernel
theorem dX1_become_6 : decode cX1_become 6 = .ok (.getfield 11, 3) := by decide +kernel
theorem dX1_become_9 : decode cX1_become 9 = .ok (.iconst 1, 1) := by decide +kernel
theorem dX1_become_10 : decode cX1_become 10 = .ok (.iload_n 1, 1) := by decide +kernel
theorem dX1_become_11 : decode cX1_become 11 = .ok (.iastore, 1) := by decide +kernel
theorem dX1_become_12 : decode cX1_become 12 = .ok (.aload_n 0, 1) := by decide +kernel
theorem dX1_become_13 : decode cX1_become 13 = .ok (.getfield 11, 3) := by decide +kernel
theorem dX1_become_16 : decode cX1_become 16 = .ok (.iconst 0, 1) := by decide +kernel
theorem dX1_become_17 : decode cX1_become 17 = .ok (.iload_n 3, 1) := by decide +kernel
theorem dX1_become_18 : decode cX1_become 18 = .ok (.iastore, 1) := by decide +kernel
theorem dX1_become_19 : decode cX1_become 19 = .ok (.return_, 1) := by decide +kernel
theorem dX1_liveBy_0 : decode cX1_liveBy 0 = .ok (.aload_n 0, 1) := by decide +kernel
theorem dX1_liveBy_1 : decode cX1_liveBy 1 = .ok (.getfield 11, 3) := by decide +kernel
theorem dX1_liveBy_4 : decode cX1_liveBy 4 = .ok (.iconst 4, 1) := by decide +kernel
theorem dX1_liveBy_5 : decode cX1_liveBy 5 = .ok (.iload_n 1, 1) := by decide +kernel
theorem dX1_liveBy_6 : decode cX1_liveBy 6 = .ok (.iastore, 1) := by decide +kernel
theorem dX1_liveBy_7 : decode cX1_liveBy 7 = .ok (.aload_n 0, 1) := by decide +kernel
theorem dX1_liveBy_8 : decode cX1_liveBy 8 = .ok (.getfield 11, 3) := by decide +kernel
theorem dX1_liveBy_11 : decode cX1_liveBy 11 = .ok (.iconst 5, 1) := by decide +kernel
theorem dX1_liveBy_12 : decode cX1_liveBy 12 = .ok (.iload_n 2, 1) := by decide +kernel
theorem dX1_liveBy_13 : decode cX1_liveBy 13 = .ok (.iastore, 1) := by decide +kernel
theorem dX1_liveBy_14 : decode cX1_liveBy 14 = .ok (.aload_n 0, 1) := by decide +kernel
theorem dX1_liveBy_15 : decode cX1_liveBy 15 = .ok (.aload_n 3, 1) := by decide +kernel
theorem dX1_liveBy_16 : decode cX1_liveBy 16 = .ok (.putfield 21, 3) := by decide +kernel
theorem dX1_liveBy_19 : decode cX1_liveBy 19 = .ok (.return_, 1) := by decide +kernel
theorem dX1_figures_0 : decode cX1_figures 0 = .ok (.aload_n 0, 1) := by decide +kernel
theorem dX1_figures_1 : decode cX1_figures 1 = .ok (.getfield 11, 3) := by decide +kernel
theorem dX1_figures_4 : decode cX1_figures 4 = .ok (.iconst 4, 1) := by decide +kernel
theorem dX1_figures_5 : decode cX1_figures 5 = .ok (.iaload, 1) := by decide +kernel
theorem dX1_figures_6 : decode cX1_figures 6 = .ok (.istore_n 1, 1) := by decide +kernel
theorem dX1_figures_7 : decode cX1_figures 7 = .ok (.aload_n 0, 1) := by decide +kernel
theorem dX1_figures_8 : decode cX1_figures 8 = .ok (.getfield 25, 3) := by decide +kernel
theorem dX1_figures_11 : decode cX1_figures 11 = .ok (.iconst 3, 1) := by decide +kernel
theorem dX1_figures_12 : decode cX1_figures 12 = .ok (.if_icmp .ne 18, 3) := by decide +kernel
theorem dX1_figures_15 : decode cX1_figures 15 = .ok (.iconst 2, 1) := by decide +kernel
theorem dX1_figures_16 : decode cX1_figures 16 = .ok (.iload_n 1, 1) := by decide +kernel
theorem dX1_figures_17 : decode cX1_figures 17 = .ok (.aload_n 0, 1) := by decide +kernel
theorem dX1_figures_18 : decode cX1_figures 18 = .ok (.getfield 11, 3) := by decide +kernel
theorem dX1_figures_21 : decode cX1_figures 21 = .ok (.iconst 0, 1) := by decide +kernel
theorem dX1_figures_22 : decode cX1_figures 22 = .ok (.iaload, 1) := by decide +kernel
theorem dX1_figures_23 : decode cX1_figures 23 = .ok (.iconst 3, 1) := by decide +kernel
theorem dX1_figures_24 : decode cX1_figures 24 = .ok (.idiv, 1) := by decide +kernel
theorem dX1_figures_25 : decode cX1_figures 25 = .ok (.isub, 1) := by decide +kernel
theorem dX1_figures_26 : decode cX1_figures 26 = .ok (.invokestatic 29, 3) := by decide +kernel
theorem dX1_figures_29 : decode cX1_figures 29 = .ok (.ireturn, 1) := by decide +kernel
theorem dX1_figures_30 : decode cX1_figures 30 = .ok (.aload_n 0, 1) := by decide +kernel
theorem dX1_figures_31 : decode cX1_figures 31 = .ok (.getfield 25, 3) := by decide +kernel
theorem dX1_figures_34 : decode cX1_figures 34 = .ok (.iconst 5, 1) := by decide +kernel
theorem dX1_figures_35 : decode cX1_figures 35 = .ok (.if_icmp .ne 13, 3) := by decide +kernel
theorem dX1_figures_38 : decode cX1_figures 38 = .ok (.iconst 2, 1) := by decide +kernel
theorem dX1_figures_39 : decode cX1_figures 39 = .ok (.iload_n 1, 1) := by decide +kernel
theorem dX1_figures_40 : decode cX1_figures 40 = .ok (.iconst 1, 1) := by decide +kernel
theorem dX1_figures_41 : decode cX1_figures 41 = .ok (.isub, 1) := by decide +kernel
theorem dX1_figures_42 : decode cX1_figures 42 = .ok (.invokestatic 29, 3) := by decide +kernel
theorem dX1_figures_45 : decode cX1_figures 45 = .ok (.goto 4, 3) := by decide +kernel
theorem dX1_figures_48 : decode cX1_figures 48 = .ok (.iload_n 1, 1) := by decide +kernel
theorem dX1_figures_49 : decode cX1_figures 49 = .ok (.ireturn, 1) := by decide +kernel
theorem dX1_isTurned_0 : decode cX1_isTurned 0 = .ok (.aload_n 0, 1) := by decide +kernel
theorem dX1_isTurned_1 : decode cX1_isTurned 1 = .ok (.getfield 25, 3) := by decide +kernel
theorem dX1_isTurned_4 : decode cX1_isTurned 4 = .ok (.iconst 1, 1) := by decide +kernel
theorem dX1_isTurned_5 : decode cX1_isTurned 5 = .ok (.invokestatic 35, 3) := by decide +kernel
theorem dX1_isTurned_8 : decode cX1_isTurned 8 = .ok (.ireturn, 1) := by decide +kernel
theorem dX1_says_0 : decode cX1_says 0 = .ok (.aload_n 0, 1) := by decide +kernel
theorem dX1_says_1 : decode cX1_says 1 = .ok (.getfield 11, 3) := by decide +kernel
theorem dX1_says_4 : decode cX1_says 4 = .ok (.iconst 2, 1) := by decide +kernel
theorem dX1_says_5 : decode cX1_says 5 = .ok (.iload_n 2, 1) := by decide +kernel
theorem dX1_says_6 : decode cX1_says 6 = .ok (.iastore, 1) := by decide +kernel
theorem dX1_says_7 : decode cX1_says 7 = .ok (.aload_n 0, 1) := by decide +kernel
theorem dX1_says_8 : decode cX1_says 8 = .ok (.getfield 11, 3) := by decide +kernel
theorem dX1_says_11 : decode cX1_says 11 = .ok (.iconst 3, 1) := by decide +kernel
theorem dX1_says_12 : decode cX1_says 12 = .ok (.iload_n 1, 1) := by decide +kernel
theorem dX1_says_13 : decode cX1_says 13 = .ok (.iconst 2, 1) := by decide +kernel
theorem dX1_says_14 : decode cX1_says 14 = .ok (.if_icmp .ne 7, 3) := by decide +kernel
theorem dX1_says_17 : decode cX1_says 17 = .ok (.iload_n 3, 1) := by decide +kernel
theorem dX1_says_18 : decode cX1_says 18 = .ok (.goto 4, 3) := by decide +kernel
theorem dX1_says_21 : decode cX1_says 21 = .ok (.iconst 0, 1) := by decide +kernel
theorem dX1_says_22 : decode cX1_says 22 = .ok (.iastore, 1) := by decide +kernel
theorem dX1_says_23 : decode cX1_says 23 = .ok (.aload_n 0, 1) := by decide +kernel
theorem dX1_says_24 : decode cX1_says 24 = .ok (.getfield 21, 3) := by decide +kernel
theorem dX1_says_27 : decode cX1_says 27 = .ok (.iload_n 1, 1) := by decide +kernel
theorem dX1_says_28 : decode cX1_says 28 = .ok (.aload_n 0, 1) := by decide +kernel
theorem dX1_says_29 : decode cX1_says 29 = .ok (.getfield 11, 3) := by decide +kernel
theorem dX1_says_32 : decode cX1_says 32 = .ok (.aload_n 0, 1) := by decide +kernel
theorem dX1_says_33 : decode cX1_says 33 = .ok (.getfield 15, 3) := by decide +kernel
theorem dX1_says_36 : decode cX1_says 36 = .ok (.invokevirtual 39, 3) := by decide +kernel
theorem dX1_says_39 : decode cX1_says 39 = .ok (.istore 4, 2) := by decide +kernel
theorem dX1_says_41 : decode cX1_says 41 = .ok (.iconst 0, 1) := by decide +kernel
theorem dX1_says_42 : decode cX1_says 42 = .ok (.iload 4, 2) := by decide +kernel
theorem dX1_says_44 : decode cX1_says 44 = .ok (.iload_n 1, 1) := by decide +kernel
theorem dX1_says_45 : decode cX1_says 45 = .ok (.iconst 1, 1) := by decide +kernel
theorem dX1_says_46 : decode cX1_says 46 = .ok (.if_icmp .ne 8, 3) := by decide +kernel
theorem dX1_says_49 : decode cX1_says 49 = .ok (.bipush 100, 2) := by decide +kernel
theorem dX1_says_51 : decode cX1_says 51 = .ok (.goto 5, 3) := by decide +kernel
theorem dX1_says_54 : decode cX1_says 54 = .ok (.ldc 45, 2) := by decide +kernel
theorem dX1_says_56 : decode cX1_says 56 = .ok (.invokestatic 46, 3) := by decide +kernel
theorem dX1_says_59 : decode cX1_says 59 = .ok (.invokestatic 29, 3) := by decide +kernel
theorem dX1_says_62 : decode cX1_says 62 = .ok (.ireturn, 1) := by decide +kernel
theorem dX1_makes_0 : decode cX1_makes 0 = .ok (.iload_n 1, 1) := by decide +kernel
theorem dX1_makes_1 : decode cX1_makes 1 = .ok (.ifCond .ne 13, 3) := by decide +kernel
theorem dX1_makes_4 : decode cX1_makes 4 = .ok (.aload_n 0, 1) := by decide +kernel
theorem dX1_makes_5 : decode cX1_makes 5 = .ok (.getfield 25, 3) := by decide +kernel
theorem dX1_makes_8 : decode cX1_makes 8 = .ok (.iconst 5, 1) := by decide +kernel
theorem dX1_makes_9 : decode cX1_makes 9 = .ok (.if_icmp .ne 5, 3) := by decide +kernel
theorem dX1_makes_12 : decode cX1_makes 12 = .ok (.iconst 0, 1) := by decide +kernel
theorem dX1_makes_13 : decode cX1_makes 13 = .ok (.ireturn, 1) := by decide +kernel
theorem dX1_makes_14 : decode cX1_makes 14 = .ok (.iload_n 1, 1) := by decide +kernel
theorem dX1_makes_15 : decode cX1_makes 15 = .ok (.ifCond .ne 13, 3) := by decide +kernel
theorem dX1_makes_18 : decode cX1_makes 18 = .ok (.aload_n 0, 1) := by decide +kernel
theorem dX1_makes_19 : decode cX1_makes 19 = .ok (.iconst 0, 1) := by decide +kernel
theorem dX1_makes_20 : decode cX1_makes 20 = .ok (.iconst 0, 1) := by decide +kernel
theorem dX1_makes_21 : decode cX1_makes 21 = .ok (.iconst 0, 1) := by decide +kernel
theorem dX1_makes_22 : decode cX1_makes 22 = .ok (.invokevirtual 49, 3) := by decide +kernel
theorem dX1_makes_25 : decode cX1_makes 25 = .ok (.goto 4, 3) := by decide +kernel
theorem dX1_makes_28 : decode cX1_makes 28 = .ok (.iload_n 1, 1) := by decide +kernel
theorem dX1_makes_29 : decode cX1_makes 29 = .ok (.istore_n 2, 1) := by decide +kernel
theorem dX1_makes_30 : decode cX1_makes 30 = .ok (.iload_n 1, 1) := by decide +kernel
theorem dX1_makes_31 : decode cX1_makes 31 = .ok (.bipush 10, 2) := by decide +kernel
theorem dX1_makes_33 : decode cX1_makes 33 = .ok (.irem, 1) := by decide +kernel
theorem dX1_makes_34 : decode cX1_makes 34 = .ok (.ifCond .ne 17, 3) := by decide +kernel
theorem dX1_makes_37 : decode cX1_makes 37 = .ok (.aload_n 0, 1) := by decide +kernel
theorem dX1_makes_38 : decode cX1_makes 38 = .ok (.getfield 25, 3) := by decide +kernel
theorem dX1_makes_41 : decode cX1_makes 41 = .ok (.iconst 2, 1) := by decide +kernel
theorem dX1_makes_42 : decode cX1_makes 42 = .ok (.invokestatic 35, 3) := by decide +kernel
theorem dX1_makes_45 : decode cX1_makes 45 = .ok (.ifCond .eq 6, 3) := by decide +kernel
theorem dX1_makes_48 : decode cX1_makes 48 = .ok (.iinc 2 1, 3) := by decide +kernel
theorem dX1_makes_51 : decode cX1_makes 51 = .ok (.aload_n 0, 1) := by decide +kernel
theorem dX1_makes_52 : decode cX1_makes 52 = .ok (.getfield 25, 3) := by decide +kernel
theorem dX1_makes_55 : decode cX1_makes 55 = .ok (.iconst 4, 1) := by decide +kernel
theorem dX1_makes_56 : decode cX1_makes 56 = .ok (.if_icmp .ne 14, 3) := by decide +kernel
theorem dX1_makes_59 : decode cX1_makes 59 = .ok (.iload_n 2, 1) := by decide +kernel
theorem dX1_makes_60 : decode cX1_makes 60 = .ok (.aload_n 0, 1) := by decide +kernel
theorem dX1_makes_61 : decode cX1_makes 61 = .ok (.getfield 11, 3) := by decide +kernel
theorem dX1_makes_64 : decode cX1_makes 64 = .ok (.iconst 0, 1) := by decide +kernel
theorem dX1_makes_65 : decode cX1_makes 65 = .ok (.iaload, 1) := by decide +kernel
theorem dX1_makes_66 : decode cX1_makes 66 = .ok (.iadd, 1) := by decide +kernel
theorem dX1_makes_67 : decode cX1_makes 67 = .ok (.goto 4, 3) := by decide +kernel
theorem dX1_makes_70 : decode cX1_makes 70 = .ok (.iload_n 2, 1) := by decide +kernel
theorem dX1_makes_71 : decode cX1_makes 71 = .ok (.ireturn, 1) := by decide +kernel
theorem dX1_write_0 : decode cX1_write 0 = .ok (.iconst 2, 1) := by decide +kernel
theorem dX1_write_1 : decode cX1_write 1 = .ok (.aload_n 0, 1) := by decide +kernel
theorem dX1_write_2 : decode cX1_write 2 = .ok (.invokevirtual 53, 3) := by decide +kernel
theorem dX1_write_5 : decode cX1_write 5 = .ok (.invokestatic 29, 3) := by decide +kernel
theorem dX1_write_8 : decode cX1_write 8 = .ok (.istore_n 2, 1) := by decide +kernel
theorem dX1_write_9 : decode cX1_write 9 = .ok (.aload_n 0, 1) := by decide +kernel
theorem dX1_write_10 : decode cX1_write 10 = .ok (.iload_n 1, 1) := by decide +kernel
theorem dX1_write_11 : decode cX1_write 11 = .ok (.invokevirtual 57, 3) := by decide +kernel
theorem dX1_write_14 : decode cX1_write 14 = .ok (.istore_n 3, 1) := by decide +kernel
theorem dX1_write_15 : decode cX1_write 15 = .ok (.aload_n 0, 1) := by decide +kernel
theorem dX1_write_16 : decode cX1_write 16 = .ok (.iconst 0, 1) := by decide +kernel
theorem dX1_write_17 : decode cX1_write 17 = .ok (.putfield 61, 3) := by decide +kernel
theorem dX1_write_20 : decode cX1_write 20 = .ok (.iload_n 3, 1) := by decide +kernel
theorem dX1_write_21 : decode cX1_write 21 = .ok (.ifCond .le 55, 3) := by decide +kernel
theorem dX1_write_24 : decode cX1_write 24 = .ok (.aload_n 0, 1) := by decide +kernel
theorem dX1_write_25 : decode cX1_write 25 = .ok (.getfield 61, 3) := by decide +kernel
theorem dX1_write_28 : decode cX1_write 28 = .ok (.aload_n 0, 1) := by decide +kernel
theorem dX1_write_29 : decode cX1_write 29 = .ok (.getfield 18, 3) := by decide +kernel
theorem dX1_write_32 : decode cX1_write 32 = .ok (.arraylength, 1) := by decide +kernel
theorem dX1_write_33 : decode cX1_write 33 = .ok (.if_icmp .ge 43, 3) := by decide +kernel
theorem dX1_write_36 : decode cX1_write 36 = .ok (.iload_n 3, 1) := by decide +kernel
theorem dX1_write_37 : decode cX1_write 37 = .ok (.iconst 1, 1) := by decide +kernel
theorem dX1_write_38 : decode cX1_write 38 = .ok (.isub, 1) := by decide +kernel
theorem dX1_write_39 : decode cX1_write 39 = .ok (.iload_n 2, 1) := by decide +kernel
theorem dX1_write_40 : decode cX1_write 40 = .ok (.irem, 1) := by decide +kernel
theorem dX1_write_41 : decode cX1_write 41 = .ok (.iconst 1, 1) := by decide +kernel
theorem dX1_write_42 : decode cX1_write 42 = .ok (.iadd, 1) := by decide +kernel
theorem dX1_write_43 : decode cX1_write 43 = .ok (.istore 4, 2) := by decide +kernel
theorem dX1_write_45 : decode cX1_write 45 = .ok (.aload_n 0, 1) := by decide +kernel
theorem dX1_write_46 : decode cX1_write 46 = .ok (.getfield 18, 3) := by decide +kernel
theorem dX1_write_49 : decode cX1_write 49 = .ok (.aload_n 0, 1) := by decide +kernel
theorem dX1_write_50 : decode cX1_write 50 = .ok (.getfield 61, 3) := by decide +kernel
theorem dX1_write_53 : decode cX1_write 53 = .ok (.iload 4, 2) := by decide +kernel
theorem dX1_write_55 : decode cX1_write 55 = .ok (.iastore, 1) := by decide +kernel
theorem dX1_write_56 : decode cX1_write 56 = .ok (.aload_n 0, 1) := by decide +kernel
theorem dX1_write_57 : decode cX1_write 57 = .ok (.dup, 1) := by decide +kernel
theorem dX1_write_58 : decode cX1_write 58 = .ok (.getfield 61, 3) := by decide +kernel
theorem dX1_write_61 : decode cX1_write 61 = .ok (.iconst 1, 1) := by decide +kernel
theorem dX1_write_62 : decode cX1_write 62 = .ok (.iadd, 1) := by decide +kernel
theorem dX1_write_63 : decode cX1_write 63 = .ok (.putfield 61, 3) := by decide +kernel
theorem dX1_write_66 : decode cX1_write 66 = .ok (.iload_n 3, 1) := by decide +kernel
theorem dX1_write_67 : decode cX1_write 67 = .ok (.iload 4, 2) := by decide +kernel
theorem dX1_write_69 : decode cX1_write 69 = .ok (.isub, 1) := by decide +kernel
theorem dX1_write_70 : decode cX1_write 70 = .ok (.iload_n 2, 1) := by decide +kernel
theorem dX1_write_71 : decode cX1_write 71 = .ok (.idiv, 1) := by decide +kernel
theorem dX1_write_72 : decode cX1_write 72 = .ok (.istore_n 3, 1) := by decide +kernel
theorem dX1_write_73 : decode cX1_write 73 = .ok (.goto (-53), 3) := by decide +kernel
theorem dX1_write_76 : decode cX1_write 76 = .ok (.aload_n 0, 1) := by decide +kernel
theorem dX1_write_77 : decode cX1_write 77 = .ok (.invokevirtual 64, 3) := by decide +kernel
theorem dX1_write_80 : decode cX1_write 80 = .ok (.ifCond .ne 7, 3) := by decide +kernel
theorem dX1_write_83 : decode cX1_write 83 = .ok (.aload_n 0, 1) := by decide +kernel
theorem dX1_write_84 : decode cX1_write 84 = .ok (.invokevirtual 68, 3) := by decide +kernel
theorem dX1_write_87 : decode cX1_write 87 = .ok (.return_, 1) := by decide +kernel
theorem dX1_turnRow_0 : decode cX1_turnRow 0 = .ok (.iconst 0, 1) := by decide +kernel
theorem dX1_turnRow_1 : decode cX1_turnRow 1 = .ok (.istore_n 1, 1) := by decide +kernel
theorem dX1_turnRow_2 : decode cX1_turnRow 2 = .ok (.aload_n 0, 1) := by decide +kernel
theorem dX1_turnRow_3 : decode cX1_turnRow 3 = .ok (.getfield 61, 3) := by decide +kernel
theorem dX1_turnRow_6 : decode cX1_turnRow 6 = .ok (.iconst 1, 1) := by decide +kernel
theorem dX1_turnRow_7 : decode cX1_turnRow 7 = .ok (.isub, 1) := by decide +kernel
theorem dX1_turnRow_8 : decode cX1_turnRow 8 = .ok (.istore_n 2, 1) := by decide +kernel
theorem dX1_turnRow_9 : decode cX1_turnRow 9 = .ok (.iload_n 1, 1) := by decide +kernel
theorem dX1_turnRow_10 : decode cX1_turnRow 10 = .ok (.iload_n 2, 1) := by decide +kernel
theorem dX1_turnRow_11 : decode cX1_turnRow 11 = .ok (.if_icmp .ge 47, 3) := by decide +kernel
theorem dX1_turnRow_14 : decode cX1_turnRow 14 = .ok (.iload_n 2, 1) := by decide +kernel
theorem dX1_turnRow_15 : decode cX1_turnRow 15 = .ok (.aload_n 0, 1) := by decide +kernel
theorem dX1_turnRow_16 : decode cX1_turnRow 16 = .ok (.getfield 18, 3) := by decide +kernel
theorem dX1_turnRow_19 : decode cX1_turnRow 19 = .ok (.arraylength, 1) := by decide +kernel
theorem dX1_turnRow_20 : decode cX1_turnRow 20 = .ok (.if_icmp .ge 38, 3) := by decide +kernel
theorem dX1_turnRow_23 : decode cX1_turnRow 23 = .ok (.aload_n 0, 1) := by decide +kernel
theorem dX1_turnRow_24 : decode cX1_turnRow 24 = .ok (.getfield 18, 3) := by decide +kernel
theorem dX1_turnRow_27 : decode cX1_turnRow 27 = .ok (.iload_n 1, 1) := by decide +kernel
theorem dX1_turnRow_28 : decode cX1_turnRow 28 = .ok (.iaload, 1) := by decide +kernel
theorem dX1_turnRow_29 : decode cX1_turnRow 29 = .ok (.istore_n 3, 1) := by decide +kernel
theorem dX1_turnRow_30 : decode cX1_turnRow 30 = .ok (.aload_n 0, 1) := by decide +kernel
theorem dX1_turnRow_31 : decode cX1_turnRow 31 = .ok (.getfield 18, 3) := by decide +kernel
theorem dX1_turnRow_34 : decode cX1_turnRow 34 = .ok (.iload_n 1, 1) := by decide +kernel
theorem dX1_turnRow_35 : decode cX1_turnRow 35 = .ok (.aload_n 0, 1) := by decide +kernel
theorem dX1_turnRow_36 : decode cX1_turnRow 36 = .ok (.getfield 18, 3) := by decide +kernel
theorem dX1_turnRow_39 : decode cX1_turnRow 39 = .ok (.iload_n 2, 1) := by decide +kernel
theorem dX1_turnRow_40 : decode cX1_turnRow 40 = .ok (.iaload, 1) := by decide +kernel
theorem dX1_turnRow_41 : decode cX1_turnRow 41 = .ok (.iastore, 1) := by decide +kernel
theorem dX1_turnRow_42 : decode cX1_turnRow 42 = .ok (.aload_n 0, 1) := by decide +kernel
theorem dX1_turnRow_43 : decode cX1_turnRow 43 = .ok (.getfield 18, 3) := by decide +kernel
theorem dX1_turnRow_46 : decode cX1_turnRow 46 = .ok (.iload_n 2, 1) := by decide +kernel
theorem dX1_turnRow_47 : decode cX1_turnRow 47 = .ok (.iload_n 3, 1) := by decide +kernel
theorem dX1_turnRow_48 : decode cX1_turnRow 48 = .ok (.iastore, 1) := by decide +kernel
theorem dX1_turnRow_49 : decode cX1_turnRow 49 = .ok (.iinc 1 1, 3) := by decide +kernel
theorem dX1_turnRow_52 : decode cX1_turnRow 52 = .ok (.iinc 2 (-1), 3) := by decide +kernel
theorem dX1_turnRow_55 : decode cX1_turnRow 55 = .ok (.goto (-46), 3) := by decide +kernel
theorem dX1_turnRow_58 : decode cX1_turnRow 58 = .ok (.return_, 1) := by decide +kernel
theorem dX1_many_0 : decode cX1_many 0 = .ok (.aload_n 0, 1) := by decide +kernel
theorem dX1_many_1 : decode cX1_many 1 = .ok (.getfield 61, 3) := by decide +kernel
theorem dX1_many_4 : decode cX1_many 4 = .ok (.ireturn, 1) := by decide +kernel
theorem dX1_written_0 : decode cX1_written 0 = .ok (.iload_n 1, 1) := by decide +kernel
theorem dX1_written_1 : decode cX1_written 1 = .ok (.ifCond .lt 29, 3) := by decide +kernel
theorem dX1_written_4 : decode cX1_written 4 = .ok (.iload_n 1, 1) := by decide +kernel
theorem dX1_written_5 : decode cX1_written 5 = .ok (.aload_n 0, 1) := by decide +kernel
theorem dX1_written_6 : decode cX1_written 6 = .ok (.getfield 61, 3) := by decide +kernel
theorem dX1_written_9 : decode cX1_written 9 = .ok (.if_icmp .ge 21, 3) := by decide +kernel
theorem dX1_written_12 : decode cX1_written 12 = .ok (.iload_n 1, 1) := by decide +kernel
theorem dX1_written_13 : decode cX1_written 13 = .ok (.aload_n 0, 1) := by decide +kernel
theorem dX1_written_14 : decode cX1_written 14 = .ok (.getfield 18, 3) := by decide +kernel
theorem dX1_written_17 : decode cX1_written 17 = .ok (.arraylength, 1) := by decide +kernel
theorem dX1_written_18 : decode cX1_written 18 = .ok (.if_icmp .ge 12, 3) := by decide +kernel
theorem dX1_written_21 : decode cX1_written 21 = .ok (.aload_n 0, 1) := by decide +kernel
theorem dX1_written_22 : decode cX1_written 22 = .ok (.getfield 18, 3) := by decide +kernel
theorem dX1_written_25 : decode cX1_written 25 = .ok (.iload_n 1, 1) := by decide +kernel
theorem dX1_written_26 : decode cX1_written 26 = .ok (.iaload, 1) := by decide +kernel
theorem dX1_written_27 : decode cX1_written 27 = .ok (.goto 4, 3) := by decide +kernel
theorem dX1_written_30 : decode cX1_written 30 = .ok (.iconst 0, 1) := by decide +kernel
theorem dX1_written_31 : decode cX1_written 31 = .ok (.ireturn, 1) := by decide +kernel
theorem dX1_slipAt_0 : decode cX1_slipAt 0 = .ok (.aload_n 0, 1) := by decide +kernel
theorem dX1_slipAt_1 : decode cX1_slipAt 1 = .ok (.iload_n 1, 1) := by decide +kernel
theorem dX1_slipAt_2 : decode cX1_slipAt 2 = .ok (.invokevirtual 71, 3) := by decide +kernel
theorem dX1_slipAt_5 : decode cX1_slipAt 5 = .ok (.istore_n 2, 1) := by decide +kernel
theorem dX1_slipAt_6 : decode cX1_slipAt 6 = .ok (.aload_n 0, 1) := by decide +kernel
theorem dX1_slipAt_7 : decode cX1_slipAt 7 = .ok (.iload_n 1, 1) := by decide +kernel
theorem dX1_slipAt_8 : decode cX1_slipAt 8 = .ok (.iload_n 2, 1) := by decide +kernel
theorem dX1_slipAt_9 : decode cX1_slipAt 9 = .ok (.aload_n 0, 1) := by decide +kernel
theorem dX1_slipAt_10 : decode cX1_slipAt 10 = .ok (.invokevirtual 53, 3) := by decide +kernel
theorem dX1_slipAt_13 : decode cX1_slipAt 13 = .ok (.if_icmp .ge 9, 3) := by decide +kernel
theorem dX1_slipAt_16 : decode cX1_slipAt 16 = .ok (.iload_n 2, 1) := by decide +kernel
theorem dX1_slipAt_17 : decode cX1_slipAt 17 = .ok (.iconst 1, 1) := by decide +kernel
theorem dX1_slipAt_18 : decode cX1_slipAt 18 = .ok (.iadd, 1) := by decide +kernel
theorem dX1_slipAt_19 : decode cX1_slipAt 19 = .ok (.goto 6, 3) := by decide +kernel
theorem dX1_slipAt_22 : decode cX1_slipAt 22 = .ok (.iload_n 2, 1) := by decide +kernel
theorem dX1_slipAt_23 : decode cX1_slipAt 23 = .ok (.iconst 1, 1) := by decide +kernel
theorem dX1_slipAt_24 : decode cX1_slipAt 24 = .ok (.isub, 1) := by decide +kernel
theorem dX1_slipAt_25 : decode cX1_slipAt 25 = .ok (.invokevirtual 74, 3) := by decide +kernel
theorem dX1_slipAt_28 : decode cX1_slipAt 28 = .ok (.return_, 1) := by decide +kernel
theorem dX1_putBack_0 : decode cX1_putBack 0 = .ok (.iload_n 1, 1) := by decide +kernel
theorem dX1_putBack_1 : decode cX1_putBack 1 = .ok (.ifCond .lt 27, 3) := by decide +kernel
theorem dX1_putBack_4 : decode cX1_putBack 4 = .ok (.iload_n 1, 1) := by decide +kernel
theorem dX1_putBack_5 : decode cX1_putBack 5 = .ok (.aload_n 0, 1) := by decide +kernel
theorem dX1_putBack_6 : decode cX1_putBack 6 = .ok (.getfield 61, 3) := by decide +kernel
theorem dX1_putBack_9 : decode cX1_putBack 9 = .ok (.if_icmp .ge 19, 3) := by decide +kernel
theorem dX1_putBack_12 : decode cX1_putBack 12 = .ok (.iload_n 1, 1) := by decide +kernel
theorem dX1_putBack_13 : decode cX1_putBack 13 = .ok (.aload_n 0, 1) := by decide +kernel
theorem dX1_putBack_14 : decode cX1_putBack 14 = .ok (.getfield 18, 3) := by decide +kernel
theorem dX1_putBack_17 : decode cX1_putBack 17 = .ok (.arraylength, 1) := by decide +kernel
theorem dX1_putBack_18 : decode cX1_putBack 18 = .ok (.if_icmp .ge 10, 3) := by decide +kernel
theorem dX1_putBack_21 : decode cX1_putBack 21 = .ok (.aload_n 0, 1) := by decide +kernel
theorem dX1_putBack_22 : decode cX1_putBack 22 = .ok (.getfield 18, 3) := by decide +kernel
theorem dX1_putBack_25 : decode cX1_putBack 25 = .ok (.iload_n 1, 1) := by decide +kernel
theorem dX1_putBack_26 : decode cX1_putBack 26 = .ok (.iload_n 2, 1) := by decide +kernel
theorem dX1_putBack_27 : decode cX1_putBack 27 = .ok (.iastore, 1) := by decide +kernel
theorem dX1_putBack_28 : decode cX1_putBack 28 = .ok (.return_, 1) := by decide +kernel
theorem dX1_slipByLots_0 : decode cX1_slipByLots 0 = .ok (.iload_n 1, 1) := by decide +kernel
theorem dX1_slipByLots_1 : decode cX1_slipByLots 1 = .ok (.i2l, 1) := by decide +kernel
theorem dX1_slipByLots_2 : decode cX1_slipByLots 2 = .ok (.lconst 1, 1) := by decide +kernel
theorem dX1_slipByLots_3 : decode cX1_slipByLots 3 = .ok (.ladd, 1) := by decide +kernel
theorem dX1_slipByLots_4 : decode cX1_slipByLots 4 = .ok (.lstore_n 3, 1) := by decide +kernel
theorem dX1_slipByLots_5 : decode cX1_slipByLots 5 = .ok (.iconst 0, 1) := by decide +kernel
theorem dX1_slipByLots_6 : decode cX1_slipByLots 6 = .ok (.istore 5, 2) := by decide +kernel
theorem dX1_slipByLots_8 : decode cX1_slipByLots 8 = .ok (.iload 5, 2) := by decide +kernel
theorem dX1_slipByLots_10 : decode cX1_slipByLots 10 = .ok (.aload_n 0, 1) := by decide +kernel
theorem dX1_slipByLots_11 : decode cX1_slipByLots 11 = .ok (.getfield 61, 3) := by decide +kernel
theorem dX1_slipByLots_14 : decode cX1_slipByLots 14 = .ok (.if_icmp .ge 36, 3) := by decide +kernel
theorem dX1_slipByLots_17 : decode cX1_slipByLots 17 = .ok (.lload_n 3, 1) := by decide +kernel
theorem dX1_slipByLots_18 : decode cX1_slipByLots 18 = .ok (.ldc2_w 78, 3) := by decide +kernel
theorem dX1_slipByLots_21 : decode cX1_slipByLots 21 = .ok (.lmul, 1) := by decide +kernel
theorem dX1_slipByLots_22 : decode cX1_slipByLots 22 = .ok (.ldc2_w 80, 3) := by decide +kernel
theorem dX1_slipByLots_25 : decode cX1_slipByLots 25 = .ok (.lrem, 1) := by decide +kernel
theorem dX1_slipByLots_26 : decode cX1_slipByLots 26 = .ok (.lstore_n 3, 1) := by decide +kernel
theorem dX1_slipByLots_27 : decode cX1_slipByLots 27 = .ok (.lload_n 3, 1) := by decide +kernel
theorem dX1_slipByLots_28 : decode cX1_slipByLots 28 = .ok (.ldc2_w 82, 3) := by decide +kernel
theorem dX1_slipByLots_31 : decode cX1_slipByLots 31 = .ok (.lrem, 1) := by decide +kernel
theorem dX1_slipByLots_32 : decode cX1_slipByLots 32 = .ok (.iload_n 2, 1) := by decide +kernel
theorem dX1_slipByLots_33 : decode cX1_slipByLots 33 = .ok (.i2l, 1) := by decide +kernel
theorem dX1_slipByLots_34 : decode cX1_slipByLots 34 = .ok (.lcmp, 1) := by decide +kernel
theorem dX1_slipByLots_35 : decode cX1_slipByLots 35 = .ok (.ifCond .ge 9, 3) := by decide +kernel
theorem dX1_slipByLots_38 : decode cX1_slipByLots 38 = .ok (.aload_n 0, 1) := by decide +kernel
theorem dX1_slipByLots_39 : decode cX1_slipByLots 39 = .ok (.iload 5, 2) := by decide +kernel
theorem dX1_slipByLots_41 : decode cX1_slipByLots 41 = .ok (.invokevirtual 84, 3) := by decide +kernel
theorem dX1_slipByLots_44 : decode cX1_slipByLots 44 = .ok (.iinc 5 1, 3) := by decide +kernel
theorem dX1_slipByLots_47 : decode cX1_slipByLots 47 = .ok (.goto (-39), 3) := by decide +kernel
theorem dX1_slipByLots_50 : decode cX1_slipByLots 50 = .ok (.return_, 1) := by decide +kernel
theorem dX1_readWith_0 : decode cX1_readWith 0 = .ok (.lconst 0, 1) := by decide +kernel
theorem dX1_readWith_1 : decode cX1_readWith 1 = .ok (.lstore_n 3, 1) := by decide +kernel
theorem dX1_readWith_2 : decode cX1_readWith 2 = .ok (.iconst 0, 1) := by decide +kernel
theorem dX1_readWith_3 : decode cX1_readWith 3 = .ok (.istore 5, 2) := by decide +kernel
theorem dX1_readWith_5 : decode cX1_readWith 5 = .ok (.iload 5, 2) := by decide +kernel
theorem dX1_readWith_7 : decode cX1_readWith 7 = .ok (.aload_n 0, 1) := by decide +kernel
theorem dX1_readWith_8 : decode cX1_readWith 8 = .ok (.getfield 61, 3) := by decide +kernel
theorem dX1_readWith_11 : decode cX1_readWith 11 = .ok (.if_icmp .ge 44, 3) := by decide +kernel
theorem dX1_readWith_14 : decode cX1_readWith 14 = .ok (.lload_n 3, 1) := by decide +kernel
theorem dX1_readWith_15 : decode cX1_readWith 15 = .ok (.iload_n 1, 1) := by decide +kernel
theorem dX1_readWith_16 : decode cX1_readWith 16 = .ok (.i2l, 1) := by decide +kernel
theorem dX1_readWith_17 : decode cX1_readWith 17 = .ok (.lmul, 1) := by decide +kernel
theorem dX1_readWith_18 : decode cX1_readWith 18 = .ok (.aload_n 0, 1) := by decide +kernel
theorem dX1_readWith_19 : decode cX1_readWith 19 = .ok (.iload_n 2, 1) := by decide +kernel
theorem dX1_readWith_20 : decode cX1_readWith 20 = .ok (.ifCond .eq 15, 3) := by decide +kernel
theorem dX1_readWith_23 : decode cX1_readWith 23 = .ok (.aload_n 0, 1) := by decide +kernel
theorem dX1_readWith_24 : decode cX1_readWith 24 = .ok (.getfield 61, 3) := by decide +kernel
theorem dX1_readWith_27 : decode cX1_readWith 27 = .ok (.iconst 1, 1) := by decide +kernel
theorem dX1_readWith_28 : decode cX1_readWith 28 = .ok (.isub, 1) := by decide +kernel
theorem dX1_readWith_29 : decode cX1_readWith 29 = .ok (.iload 5, 2) := by decide +kernel
theorem dX1_readWith_31 : decode cX1_readWith 31 = .ok (.isub, 1) := by decide +kernel
theorem dX1_readWith_32 : decode cX1_readWith 32 = .ok (.goto 5, 3) := by decide +kernel
theorem dX1_readWith_35 : decode cX1_readWith 35 = .ok (.iload 5, 2) := by decide +kernel
theorem dX1_readWith_37 : decode cX1_readWith 37 = .ok (.invokevirtual 71, 3) := by decide +kernel
theorem dX1_readWith_40 : decode cX1_readWith 40 = .ok (.i2l, 1) := by decide +kernel
theorem dX1_readWith_41 : decode cX1_readWith 41 = .ok (.ladd, 1) := by decide +kernel
theorem dX1_readWith_42 : decode cX1_readWith 42 = .ok (.ldc2_w 88, 3) := by decide +kernel
theorem dX1_readWith_45 : decode cX1_readWith 45 = .ok (.invokestatic 90, 3) := by decide +kernel
theorem dX1_readWith_48 : decode cX1_readWith 48 = .ok (.lstore_n 3, 1) := by decide +kernel
theorem dX1_readWith_49 : decode cX1_readWith 49 = .ok (.iinc 5 1, 3) := by decide +kernel
theorem dX1_readWith_52 : decode cX1_readWith 52 = .ok (.goto (-47), 3) := by decide +kernel
theorem dX1_readWith_55 : decode cX1_readWith 55 = .ok (.lload_n 3, 1) := by decide +kernel
theorem dX1_readWith_56 : decode cX1_readWith 56 = .ok (.lreturn, 1) := by decide +kernel
theorem dX1_readHimself_0 : decode cX1_readHimself 0 = .ok (.aload_n 0, 1) := by decide +kernel
theorem dX1_readHimself_1 : decode cX1_readHimself 1 = .ok (.aload_n 0, 1) := by decide +kernel
theorem dX1_readHimself_2 : decode cX1_readHimself 2 = .ok (.invokevirtual 53, 3) := by decide +kernel
theorem dX1_readHimself_5 : decode cX1_readHimself 5 = .ok (.aload_n 0, 1) := by decide +kernel
theorem dX1_readHimself_6 : decode cX1_readHimself 6 = .ok (.invokevirtual 64, 3) := by decide +kernel
theorem dX1_readHimself_9 : decode cX1_readHimself 9 = .ok (.invokevirtual 93, 3) := by decide +kernel
theorem dX1_readHimself_12 : decode cX1_readHimself 12 = .ok (.lreturn, 1) := by decide +kernel
theorem dX1_readPlainly_0 : decode cX1_readPlainly 0 = .ok (.aload_n 0, 1) := by decide +kernel
theorem dX1_readPlainly_1 : decode cX1_readPlainly 1 = .ok (.aload_n 0, 1) := by decide +kernel
theorem dX1_readPlainly_2 : decode cX1_readPlainly 2 = .ok (.getfield 11, 3) := by decide +kernel
theorem dX1_readPlainly_5 : decode cX1_readPlainly 5 = .ok (.iconst 4, 1) := by decide +kernel
theorem dX1_readPlainly_6 : decode cX1_readPlainly 6 = .ok (.iaload, 1) := by decide +kernel
theorem dX1_readPlainly_7 : decode cX1_readPlainly 7 = .ok (.iconst 0, 1) := by decide +kernel
theorem dX1_readPlainly_8 : decode cX1_readPlainly 8 = .ok (.invokevirtual 93, 3) := by decide +kernel
theorem dX1_readPlainly_11 : decode cX1_readPlainly 11 = .ok (.lreturn, 1) := by decide +kernel
