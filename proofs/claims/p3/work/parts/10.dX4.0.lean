theorem dX4_init_0 : decode cX4_init 0 = .ok (.aload_n 0, 1) := by decide +kernel
theorem dX4_init_1 : decode cX4_init 1 = .ok (.invokespecial 3, 3) := by decide +kernel
theorem dX4_init_4 : decode cX4_init 4 = .ok (.aload_n 0, 1) := by decide +kernel
theorem dX4_init_5 : decode cX4_init 5 = .ok (.sipush 160, 3) := by decide +kernel
theorem dX4_init_8 : decode cX4_init 8 = .ok (.newarray .int, 2) := by decide +kernel
theorem dX4_init_10 : decode cX4_init 10 = .ok (.putfield 9, 3) := by decide +kernel
theorem dX4_init_13 : decode cX4_init 13 = .ok (.aload_n 0, 1) := by decide +kernel
theorem dX4_init_14 : decode cX4_init 14 = .ok (.sipush 160, 3) := by decide +kernel
theorem dX4_init_17 : decode cX4_init 17 = .ok (.newarray .int, 2) := by decide +kernel
theorem dX4_init_19 : decode cX4_init 19 = .ok (.putfield 15, 3) := by decide +kernel
theorem dX4_init_22 : decode cX4_init 22 = .ok (.return_, 1) := by decide +kernel
theorem dX4_size_0 : decode cX4_size 0 = .ok (.aload_n 0, 1) := by decide +kernel
theorem dX4_size_1 : decode cX4_size 1 = .ok (.getfield 18, 3) := by decide +kernel
theorem dX4_size_4 : decode cX4_size 4 = .ok (.ireturn, 1) := by decide +kernel
theorem dX4_append_0 : decode cX4_append 0 = .ok (.aload_n 0, 1) := by decide +kernel
theorem dX4_append_1 : decode cX4_append 1 = .ok (.getfield 18, 3) := by decide +kernel
theorem dX4_append_4 : decode cX4_append 4 = .ok (.ifCond .lt 35, 3) := by decide +kernel
theorem dX4_append_7 : decode cX4_append 7 = .ok (.aload_n 0, 1) := by decide +kernel
theorem dX4_append_8 : decode cX4_append 8 = .ok (.getfield 18, 3) := by decide +kernel
theorem dX4_append_11 : decode cX4_append 11 = .ok (.aload_n 0, 1) := by decide +kernel
theorem dX4_append_12 : decode cX4_append 12 = .ok (.getfield 9, 3) := by decide +kernel
theorem dX4_append_15 : decode cX4_append 15 = .ok (.arraylength, 1) := by decide +kernel
theorem dX4_append_16 : decode cX4_append 16 = .ok (.if_icmp .ge 23, 3) := by decide +kernel
theorem dX4_append_19 : decode cX4_append 19 = .ok (.aload_n 0, 1) := by decide +kernel
theorem dX4_append_20 : decode cX4_append 20 = .ok (.getfield 9, 3) := by decide +kernel
theorem dX4_append_23 : decode cX4_append 23 = .ok (.aload_n 0, 1) := by decide +kernel
theorem dX4_append_24 : decode cX4_append 24 = .ok (.getfield 18, 3) := by decide +kernel
theorem dX4_append_27 : decode cX4_append 27 = .ok (.iload_n 1, 1) := by decide +kernel
theorem dX4_append_28 : decode cX4_append 28 = .ok (.iastore, 1) := by decide +kernel
theorem dX4_append_29 : decode cX4_append 29 = .ok (.aload_n 0, 1) := by decide +kernel
theorem dX4_append_30 : decode cX4_append 30 = .ok (.dup, 1) := by decide +kernel
theorem dX4_append_31 : decode cX4_append 31 = .ok (.getfield 18, 3) := by decide +kernel
theorem dX4_append_34 : decode cX4_append 34 = .ok (.iconst 1, 1) := by decide +kernel
theorem dX4_append_35 : decode cX4_append 35 = .ok (.iadd, 1) := by decide +kernel
theorem dX4_append_36 : decode cX4_append 36 = .ok (.putfield 18, 3) := by decide +kernel
theorem dX4_append_39 : decode cX4_append 39 = .ok (.return_, 1) := by decide +kernel
theorem dX4_becomeEmpty_0 : decode cX4_becomeEmpty 0 = .ok (.aload_n 0, 1) := by decide +kernel
theorem dX4_becomeEmpty_1 : decode cX4_becomeEmpty 1 = .ok (.iconst 0, 1) := by decide +kernel
theorem dX4_becomeEmpty_2 : decode cX4_becomeEmpty 2 = .ok (.putfield 18, 3) := by decide +kernel
theorem dX4_becomeEmpty_5 : decode cX4_becomeEmpty 5 = .ok (.return_, 1) := by decide +kernel
theorem dX4_isText_0 : decode cX4_isText 0 = .ok (.aload_n 0, 1) := by decide +kernel
theorem dX4_isText_1 : decode cX4_isText 1 = .ok (.iconst 0, 1) := by decide +kernel
theorem dX4_isText_2 : decode cX4_isText 2 = .ok (.putfield 22, 3) := by decide +kernel
theorem dX4_isText_5 : decode cX4_isText 5 = .ok (.aload_n 0, 1) := by decide +kernel
theorem dX4_isText_6 : decode cX4_isText 6 = .ok (.iconst 0, 1) := by decide +kernel
theorem dX4_isText_7 : decode cX4_isText 7 = .ok (.putfield 25, 3) := by decide +kernel
theorem dX4_isText_10 : decode cX4_isText 10 = .ok (.aload_n 0, 1) := by decide +kernel
theorem dX4_isText_11 : decode cX4_isText 11 = .ok (.invokevirtual 28, 3) := by decide +kernel
theorem dX4_isText_14 : decode cX4_isText 14 = .ok (.aload_n 0, 1) := by decide +kernel
theorem dX4_isText_15 : decode cX4_isText 15 = .ok (.bipush (-23), 2) := by decide +kernel
theorem dX4_isText_17 : decode cX4_isText 17 = .ok (.invokevirtual 31, 3) := by decide +kernel
theorem dX4_isText_20 : decode cX4_isText 20 = .ok (.ifCond .ne 5, 3) := by decide +kernel
theorem dX4_isText_23 : decode cX4_isText 23 = .ok (.iconst 0, 1) := by decide +kernel
theorem dX4_isText_24 : decode cX4_isText 24 = .ok (.ireturn, 1) := by decide +kernel
theorem dX4_isText_25 : decode cX4_isText 25 = .ok (.aload_n 0, 1) := by decide +kernel
theorem dX4_isText_26 : decode cX4_isText 26 = .ok (.aload_n 0, 1) := by decide +kernel
theorem dX4_isText_27 : decode cX4_isText 27 = .ok (.getfield 25, 3) := by decide +kernel
theorem dX4_isText_30 : decode cX4_isText 30 = .ok (.putfield 35, 3) := by decide +kernel
theorem dX4_isText_33 : decode cX4_isText 33 = .ok (.aload_n 0, 1) := by decide +kernel
theorem dX4_isText_34 : decode cX4_isText 34 = .ok (.bipush (-24), 2) := by decide +kernel
theorem dX4_isText_36 : decode cX4_isText 36 = .ok (.invokevirtual 31, 3) := by decide +kernel
theorem dX4_isText_39 : decode cX4_isText 39 = .ok (.ifCond .ne 5, 3) := by decide +kernel
theorem dX4_isText_42 : decode cX4_isText 42 = .ok (.iconst 0, 1) := by decide +kernel
theorem dX4_isText_43 : decode cX4_isText 43 = .ok (.ireturn, 1) := by decide +kernel
theorem dX4_isText_44 : decode cX4_isText 44 = .ok (.aload_n 0, 1) := by decide +kernel
theorem dX4_isText_45 : decode cX4_isText 45 = .ok (.aload_n 0, 1) := by decide +kernel
theorem dX4_isText_46 : decode cX4_isText 46 = .ok (.getfield 25, 3) := by decide +kernel
theorem dX4_isText_49 : decode cX4_isText 49 = .ok (.putfield 38, 3) := by decide +kernel
theorem dX4_isText_52 : decode cX4_isText 52 = .ok (.aload_n 0, 1) := by decide +kernel
theorem dX4_isText_53 : decode cX4_isText 53 = .ok (.bipush (-25), 2) := by decide +kernel
theorem dX4_isText_55 : decode cX4_isText 55 = .ok (.invokevirtual 31, 3) := by decide +kernel
theorem dX4_isText_58 : decode cX4_isText 58 = .ok (.ifCond .eq 16, 3) := by decide +kernel
theorem dX4_isText_61 : decode cX4_isText 61 = .ok (.aload_n 0, 1) := by decide +kernel
theorem dX4_isText_62 : decode cX4_isText 62 = .ok (.getfield 41, 3) := by decide +kernel
theorem dX4_isText_65 : decode cX4_isText 65 = .ok (.bipush (-26), 2) := by decide +kernel
theorem dX4_isText_67 : decode cX4_isText 67 = .ok (.if_icmp .ne 7, 3) := by decide +kernel
theorem dX4_isText_70 : decode cX4_isText 70 = .ok (.iconst 1, 1) := by decide +kernel
theorem dX4_isText_71 : decode cX4_isText 71 = .ok (.goto 4, 3) := by decide +kernel
theorem dX4_isText_74 : decode cX4_isText 74 = .ok (.iconst 0, 1) := by decide +kernel
theorem dX4_isText_75 : decode cX4_isText 75 = .ok (.ireturn, 1) := by decide +kernel
theorem dX4_faultPlace_0 : decode cX4_faultPlace 0 = .ok (.aload_n 0, 1) := by decide +kernel
theorem dX4_faultPlace_1 : decode cX4_faultPlace 1 = .ok (.getfield 44, 3) := by decide +kernel
theorem dX4_faultPlace_4 : decode cX4_faultPlace 4 = .ok (.ireturn, 1) := by decide +kernel
theorem dX4_result_0 : decode cX4_result 0 = .ok (.new 47, 3) := by decide +kernel
theorem dX4_result_3 : decode cX4_result 3 = .ok (.dup, 1) := by decide +kernel
theorem dX4_result_4 : decode cX4_result 4 = .ok (.aload_n 0, 1) := by decide +kernel
theorem dX4_result_5 : decode cX4_result 5 = .ok (.getfield 15, 3) := by decide +kernel
theorem dX4_result_8 : decode cX4_result 8 = .ok (.iconst 0, 1) := by decide +kernel
theorem dX4_result_9 : decode cX4_result 9 = .ok (.aload_n 0, 1) := by decide +kernel
theorem dX4_result_10 : decode cX4_result 10 = .ok (.getfield 25, 3) := by decide +kernel
theorem dX4_result_13 : decode cX4_result 13 = .ok (.aload_n 0, 1) := by decide +kernel
theorem dX4_result_14 : decode cX4_result 14 = .ok (.getfield 15, 3) := by decide +kernel
theorem dX4_result_17 : decode cX4_result 17 = .ok (.arraylength, 1) := by decide +kernel
theorem dX4_result_18 : decode cX4_result 18 = .ok (.invokestatic 49, 3) := by decide +kernel
theorem dX4_result_21 : decode cX4_result 21 = .ok (.invokestatic 55, 3) := by decide +kernel
theorem dX4_result_24 : decode cX4_result 24 = .ok (.invokestatic 58, 3) := by decide +kernel
theorem dX4_result_27 : decode cX4_result 27 = .ok (.aload_n 0, 1) := by decide +kernel
theorem dX4_result_28 : decode cX4_result 28 = .ok (.getfield 35, 3) := by decide +kernel
theorem dX4_result_31 : decode cX4_result 31 = .ok (.aload_n 0, 1) := by decide +kernel
theorem dX4_result_32 : decode cX4_result 32 = .ok (.getfield 38, 3) := by decide +kernel
theorem dX4_result_35 : decode cX4_result 35 = .ok (.invokespecial 64, 3) := by decide +kernel
theorem dX4_result_38 : decode cX4_result 38 = .ok (.areturn, 1) := by decide +kernel
theorem dX4_isPart_0 : decode cX4_isPart 0 = .ok (.aload_n 0, 1) := by decide +kernel
theorem dX4_isPart_1 : decode cX4_isPart 1 = .ok (.iload_n 1, 1) := by decide +kernel
theorem dX4_isPart_2 : decode cX4_isPart 2 = .ok (.invokevirtual 67, 3) := by decide +kernel
theorem dX4_isPart_5 : decode cX4_isPart 5 = .ok (.ifCond .eq 24, 3) := by decide +kernel
theorem dX4_isPart_8 : decode cX4_isPart 8 = .ok (.aload_n 0, 1) := by decide +kernel
theorem dX4_isPart_9 : decode cX4_isPart 9 = .ok (.iconst 0, 1) := by decide +kernel
theorem dX4_isPart_10 : decode cX4_isPart 10 = .ok (.invokevirtual 70, 3) := by decide +kernel
theorem dX4_isPart_13 : decode cX4_isPart 13 = .ok (.ifCond .eq 16, 3) := by decide +kernel
theorem dX4_isPart_16 : decode cX4_isPart 16 = .ok (.aload_n 0, 1) := by decide +kernel
theorem dX4_isPart_17 : decode cX4_isPart 17 = .ok (.bipush (-22), 2) := by decide +kernel
theorem dX4_isPart_19 : decode cX4_isPart 19 = .ok (.invokevirtual 67, 3) := by decide +kernel
theorem dX4_isPart_22 : decode cX4_isPart 22 = .ok (.ifCond .eq 7, 3) := by decide +kernel
theorem dX4_isPart_25 : decode cX4_isPart 25 = .ok (.iconst 1, 1) := by decide +kernel
theorem dX4_isPart_26 : decode cX4_isPart 26 = .ok (.goto 4, 3) := by decide +kernel
theorem dX4_isPart_29 : decode cX4_isPart 29 = .ok (.iconst 0, 1) := by decide +kernel
theorem dX4_isPart_30 : decode cX4_isPart 30 = .ok (.ireturn, 1) := by decide +kernel
theorem dX4_isNext_0 : decode cX4_isNext 0 = .ok (.aload_n 0, 1) := by decide +kernel
theorem dX4_isNext_1 : decode cX4_isNext 1 = .ok (.getfield 41, 3) := by decide +kernel
theorem dX4_isNext_4 : decode cX4_isNext 4 = .ok (.iload_n 1, 1) := by decide +kernel
theorem dX4_isNext_5 : decode cX4_isNext 5 = .ok (.if_icmp .eq 5, 3) := by decide +kernel
theorem dX4_isNext_8 : decode cX4_isNext 8 = .ok (.iconst 0, 1) := by decide +kernel
theorem dX4_isNext_9 : decode cX4_isNext 9 = .ok (.ireturn, 1) := by decide +kernel
theorem dX4_isNext_10 : decode cX4_isNext 10 = .ok (.aload_n 0, 1) := by decide +kernel
theorem dX4_isNext_11 : decode cX4_isNext 11 = .ok (.invokevirtual 28, 3) := by decide +kernel
theorem dX4_isNext_14 : decode cX4_isNext 14 = .ok (.iconst 1, 1) := by decide +kernel
theorem dX4_isNext_15 : decode cX4_isNext 15 = .ok (.ireturn, 1) := by decide +kernel
theorem dX4_isE_0 : decode cX4_isE 0 = .ok (.aload_n 0, 1) := by decide +kernel
theorem dX4_isE_1 : decode cX4_isE 1 = .ok (.iload_n 1, 1) := by decide +kernel
theorem dX4_isE_2 : decode cX4_isE 2 = .ok (.invokevirtual 73, 3) := by decide +kernel
theorem dX4_isE_5 : decode cX4_isE 5 = .ok (.ifCond .ne 5, 3) := by decide +kernel
theorem dX4_isE_8 : decode cX4_isE 8 = .ok (.iconst 0, 1) := by decide +kernel
theorem dX4_isE_9 : decode cX4_isE 9 = .ok (.ireturn, 1) := by decide +kernel
theorem dX4_isE_10 : decode cX4_isE 10 = .ok (.iconst 0, 1) := by decide +kernel
theorem dX4_isE_11 : decode cX4_isE 11 = .ok (.istore_n 2, 1) := by decide +kernel
theorem dX4_isE_12 : decode cX4_isE 12 = .ok (.iload_n 2, 1) := by decide +kernel
theorem dX4_isE_13 : decode cX4_isE 13 = .ok (.sipush 160, 3) := by decide +kernel
theorem dX4_isE_16 : decode cX4_isE 16 = .ok (.if_icmp .ge 38, 3) := by decide +kernel
theorem dX4_isE_19 : decode cX4_isE 19 = .ok (.aload_n 0, 1) := by decide +kernel
theorem dX4_isE_20 : decode cX4_isE 20 = .ok (.getfield 41, 3) := by decide +kernel
theorem dX4_isE_23 : decode cX4_isE 23 = .ok (.bipush (-11), 2) := by decide +kernel
theorem dX4_isE_25 : decode cX4_isE 25 = .ok (.if_icmp .ne 29, 3) := by decide +kernel
theorem dX4_isE_28 : decode cX4_isE 28 = .ok (.aload_n 0, 1) := by decide +kernel
theorem dX4_isE_29 : decode cX4_isE 29 = .ok (.invokevirtual 28, 3) := by decide +kernel
theorem dX4_isE_32 : decode cX4_isE 32 = .ok (.aload_n 0, 1) := by decide +kernel
theorem dX4_isE_33 : decode cX4_isE 33 = .ok (.iload_n 1, 1) := by decide +kernel
theorem dX4_isE_34 : decode cX4_isE 34 = .ok (.invokevirtual 73, 3) := by decide +kernel
theorem dX4_isE_37 : decode cX4_isE 37 = .ok (.ifCond .ne 5, 3) := by decide +kernel
theorem dX4_isE_40 : decode cX4_isE 40 = .ok (.iconst 0, 1) := by decide +kernel
theorem dX4_isE_41 : decode cX4_isE 41 = .ok (.ireturn, 1) := by decide +kernel
theorem dX4_isE_42 : decode cX4_isE 42 = .ok (.aload_n 0, 1) := by decide +kernel
theorem dX4_isE_43 : decode cX4_isE 43 = .ok (.bipush (-11), 2) := by decide +kernel
theorem dX4_isE_45 : decode cX4_isE 45 = .ok (.invokevirtual 76, 3) := by decide +kernel
theorem dX4_isE_48 : decode cX4_isE 48 = .ok (.iinc 2 1, 3) := by decide +kernel
theorem dX4_isE_51 : decode cX4_isE 51 = .ok (.goto (-39), 3) := by decide +kernel
theorem dX4_isE_54 : decode cX4_isE 54 = .ok (.iconst 1, 1) := by decide +kernel
theorem dX4_isE_55 : decode cX4_isE 55 = .ok (.ireturn, 1) := by decide +kernel
theorem dX4_isAnd_0 : decode cX4_isAnd 0 = .ok (.aload_n 0, 1) := by decide +kernel
theorem dX4_isAnd_1 : decode cX4_isAnd 1 = .ok (.iload_n 1, 1) := by decide +kernel
theorem dX4_isAnd_2 : decode cX4_isAnd 2 = .ok (.invokevirtual 80, 3) := by decide +kernel
theorem dX4_isAnd_5 : decode cX4_isAnd 5 = .ok (.ifCond .ne 5, 3) := by decide +kernel
theorem dX4_isAnd_8 : decode cX4_isAnd 8 = .ok (.iconst 0, 1) := by decide +kernel
theorem dX4_isAnd_9 : decode cX4_isAnd 9 = .ok (.ireturn, 1) := by decide +kernel
theorem dX4_isAnd_10 : decode cX4_isAnd 10 = .ok (.iconst 0, 1) := by decide +kernel
theorem dX4_isAnd_11 : decode cX4_isAnd 11 = .ok (.istore_n 2, 1) := by decide +kernel
theorem dX4_isAnd_12 : decode cX4_isAnd 12 = .ok (.iload_n 2, 1) := by decide +kernel
theorem dX4_isAnd_13 : decode cX4_isAnd 13 = .ok (.sipush 160, 3) := by decide +kernel
theorem dX4_isAnd_16 : decode cX4_isAnd 16 = .ok (.if_icmp .ge 38, 3) := by decide +kernel
theorem dX4_isAnd_19 : decode cX4_isAnd 19 = .ok (.aload_n 0, 1) := by decide +kernel
theorem dX4_isAnd_20 : decode cX4_isAnd 20 = .ok (.getfield 41, 3) := by decide +kernel
theorem dX4_isAnd_23 : decode cX4_isAnd 23 = .ok (.bipush (-12), 2) := by decide +kernel
theorem dX4_isAnd_25 : decode cX4_isAnd 25 = .ok (.if_icmp .ne 29, 3) := by decide +kernel
theorem dX4_isAnd_28 : decode cX4_isAnd 28 = .ok (.aload_n 0, 1) := by decide +kernel
theorem dX4_isAnd_29 : decode cX4_isAnd 29 = .ok (.invokevirtual 28, 3) := by decide +kernel
theorem dX4_isAnd_32 : decode cX4_isAnd 32 = .ok (.aload_n 0, 1) := by decide +kernel
theorem dX4_isAnd_33 : decode cX4_isAnd 33 = .ok (.iload_n 1, 1) := by decide +kernel
theorem dX4_isAnd_34 : decode cX4_isAnd 34 = .ok (.invokevirtual 80, 3) := by decide +kernel
theorem dX4_isAnd_37 : decode cX4_isAnd 37 = .ok (.ifCond .ne 5, 3) := by decide +kernel
theorem dX4_isAnd_40 : decode cX4_isAnd 40 = .ok (.iconst 0, 1) := by decide +kernel
theorem dX4_isAnd_41 : decode cX4_isAnd 41 = .ok (.ireturn, 1) := by decide +kernel
theorem dX4_isAnd_42 : decode cX4_isAnd 42 = .ok (.aload_n 0, 1) := by decide +kernel
theorem dX4_isAnd_43 : decode cX4_isAnd 43 = .ok (.bipush (-12), 2) := by decide +kernel
theorem dX4_isAnd_45 : decode cX4_isAnd 45 = .ok (.invokevirtual 76, 3) := by decide +kernel
theorem dX4_isAnd_48 : decode cX4_isAnd 48 = .ok (.iinc 2 1, 3) := by decide +kernel
theorem dX4_isAnd_51 : decode cX4_isAnd 51 = .ok (.goto (-39), 3) := by decide +kernel
theorem dX4_isAnd_54 : decode cX4_isAnd 54 = .ok (.iconst 1, 1) := by decide +kernel
theorem dX4_isAnd_55 : decode cX4_isAnd 55 = .ok (.ireturn, 1) := by decide +kernel
theorem dX4_isNot_0 : decode cX4_isNot 0 = .ok (.aload_n 0, 1) := by decide +kernel
theorem dX4_isNot_1 : decode cX4_isNot 1 = .ok (.getfield 41, 3) := by decide +kernel
theorem dX4_isNot_4 : decode cX4_isNot 4 = .ok (.bipush (-13), 2) := by decide +kernel
theorem dX4_isNot_6 : decode cX4_isNot 6 = .ok (.if_icmp .ne 34, 3) := by decide +kernel
theorem dX4_isNot_9 : decode cX4_isNot 9 = .ok (.iload_n 1, 1) := by decide +kernel
theorem dX4_isNot_10 : decode cX4_isNot 10 = .ok (.iconst 5, 1) := by decide +kernel
theorem dX4_isNot_11 : decode cX4_isNot 11 = .ok (.if_icmp .lt 5, 3) := by decide +kernel
theorem dX4_isNot_14 : decode cX4_isNot 14 = .ok (.iconst 0, 1) := by decide +kernel
theorem dX4_isNot_15 : decode cX4_isNot 15 = .ok (.ireturn, 1) := by decide +kernel
theorem dX4_isNot_16 : decode cX4_isNot 16 = .ok (.aload_n 0, 1) := by decide +kernel
theorem dX4_isNot_17 : decode cX4_isNot 17 = .ok (.invokevirtual 28, 3) := by decide +kernel
theorem dX4_isNot_20 : decode cX4_isNot 20 = .ok (.aload_n 0, 1) := by decide +kernel
theorem dX4_isNot_21 : decode cX4_isNot 21 = .ok (.iload_n 1, 1) := by decide +kernel
theorem dX4_isNot_22 : decode cX4_isNot 22 = .ok (.iconst 1, 1) := by decide +kernel
theorem dX4_isNot_23 : decode cX4_isNot 23 = .ok (.iadd, 1) := by decide +kernel
theorem dX4_isNot_24 : decode cX4_isNot 24 = .ok (.invokevirtual 80, 3) := by decide +kernel
theorem dX4_isNot_27 : decode cX4_isNot 27 = .ok (.ifCond .ne 5, 3) := by decide +kernel
theorem dX4_isNot_30 : decode cX4_isNot 30 = .ok (.iconst 0, 1) := by decide +kernel
theorem dX4_isNot_31 : decode cX4_isNot 31 = .ok (.ireturn, 1) := by decide +kernel
theorem dX4_isNot_32 : decode cX4_isNot 32 = .ok (.aload_n 0, 1) := by decide +kernel
theorem dX4_isNot_33 : decode cX4_isNot 33 = .ok (.bipush (-13), 2) := by decide +kernel
theorem dX4_isNot_35 : decode cX4_isNot 35 = .ok (.invokevirtual 76, 3) := by decide +kernel
theorem dX4_isNot_38 : decode cX4_isNot 38 = .ok (.iconst 1, 1) := by decide +kernel
theorem dX4_isNot_39 : decode cX4_isNot 39 = .ok (.ireturn, 1) := by decide +kernel
theorem dX4_isNot_40 : decode cX4_isNot 40 = .ok (.aload_n 0, 1) := by decide +kernel
theorem dX4_isNot_41 : decode cX4_isNot 41 = .ok (.iload_n 1, 1) := by decide +kernel
theorem dX4_isNot_42 : decode cX4_isNot 42 = .ok (.invokevirtual 83, 3) := by decide +kernel
theorem dX4_isNot_45 : decode cX4_isNot 45 = .ok (.ifCond .ne 5, 3) := by decide +kernel
theorem dX4_isNot_48 : decode cX4_isNot 48 = .ok (.iconst 0, 1) := by decide +kernel
theorem dX4_isNot_49 : decode cX4_isNot 49 = .ok (.ireturn, 1) := by decide +kernel
theorem dX4_isNot_50 : decode cX4_isNot 50 = .ok (.aload_n 0, 1) := by decide +kernel
theorem dX4_isNot_51 : decode cX4_isNot 51 = .ok (.getfield 41, 3) := by decide +kernel
theorem dX4_isNot_54 : decode cX4_isNot 54 = .ok (.istore_n 2, 1) := by decide +kernel
theorem dX4_isNot_55 : decode cX4_isNot 55 = .ok (.iload_n 2, 1) := by decide +kernel
theorem dX4_isNot_56 : decode cX4_isNot 56 = .ok (.bipush (-14), 2) := by decide +kernel
theorem dX4_isNot_58 : decode cX4_isNot 58 = .ok (.if_icmp .eq 9, 3) := by decide +kernel
theorem dX4_isNot_61 : decode cX4_isNot 61 = .ok (.iload_n 2, 1) := by decide +kernel
theorem dX4_isNot_62 : decode cX4_isNot 62 = .ok (.bipush (-15), 2) := by decide +kernel
theorem dX4_isNot_64 : decode cX4_isNot 64 = .ok (.if_icmp .ne 22, 3) := by decide +kernel
theorem dX4_isNot_67 : decode cX4_isNot 67 = .ok (.aload_n 0, 1) := by decide +kernel
theorem dX4_isNot_68 : decode cX4_isNot 68 = .ok (.invokevirtual 28, 3) := by decide +kernel
theorem dX4_isNot_71 : decode cX4_isNot 71 = .ok (.aload_n 0, 1) := by decide +kernel
theorem dX4_isNot_72 : decode cX4_isNot 72 = .ok (.iload_n 1, 1) := by decide +kernel
theorem dX4_isNot_73 : decode cX4_isNot 73 = .ok (.invokevirtual 83, 3) := by decide +kernel
theorem dX4_isNot_76 : decode cX4_isNot 76 = .ok (.ifCond .ne 5, 3) := by decide +kernel
theorem dX4_isNot_79 : decode cX4_isNot 79 = .ok (.iconst 0, 1) := by decide +kernel
theorem dX4_isNot_80 : decode cX4_isNot 80 = .ok (.ireturn, 1) := by decide +kernel
theorem dX4_isNot_81 : decode cX4_isNot 81 = .ok (.aload_n 0, 1) := by decide +kernel
theorem dX4_isNot_82 : decode cX4_isNot 82 = .ok (.iload_n 2, 1) := by decide +kernel
theorem dX4_isNot_83 : decode cX4_isNot 83 = .ok (.invokevirtual 76, 3) := by decide +kernel
theorem dX4_isNot_86 : decode cX4_isNot 86 = .ok (.iconst 1, 1) := by decide +kernel
theorem dX4_isNot_87 : decode cX4_isNot 87 = .ok (.ireturn, 1) := by decide +kernel
theorem dX4_isSum_0 : decode cX4_isSum 0 = .ok (.aload_n 0, 1) := by decide +kernel
theorem dX4_isSum_1 : decode cX4_isSum 1 = .ok (.iload_n 1, 1) := by decide +kernel
theorem dX4_isSum_2 : decode cX4_isSum 2 = .ok (.invokevirtual 86, 3) := by decide +kernel
theorem dX4_isSum_5 : decode cX4_isSum 5 = .ok (.ifCond .ne 5, 3) := by decide +kernel
theorem dX4_isSum_8 : decode cX4_isSum 8 = .ok (.iconst 0, 1) := by decide +kernel
theorem dX4_isSum_9 : decode cX4_isSum 9 = .ok (.ireturn, 1) := by decide +kernel
theorem dX4_isSum_10 : decode cX4_isSum 10 = .ok (.iconst 0, 1) := by decide +kernel
theorem dX4_isSum_11 : decode cX4_isSum 11 = .ok (.istore_n 2, 1) := by decide +kernel
theorem dX4_isSum_12 : decode cX4_isSum 12 = .ok (.iload_n 2, 1) := by decide +kernel
theorem dX4_isSum_13 : decode cX4_isSum 13 = .ok (.sipush 160, 3) := by decide +kernel
theorem dX4_isSum_16 : decode cX4_isSum 16 = .ok (.if_icmp .ge 51, 3) := by decide +kernel
theorem dX4_isSum_19 : decode cX4_isSum 19 = .ok (.aload_n 0, 1) := by decide +kernel
theorem dX4_isSum_20 : decode cX4_isSum 20 = .ok (.getfield 41, 3) := by decide +kernel
theorem dX4_isSum_23 : decode cX4_isSum 23 = .ok (.bipush (-16), 2) := by decide +kernel
theorem dX4_isSum_25 : decode cX4_isSum 25 = .ok (.if_icmp .eq 12, 3) := by decide +kernel
theorem dX4_isSum_28 : decode cX4_isSum 28 = .ok (.aload_n 0, 1) := by decide +kernel
theorem dX4_isSum_29 : decode cX4_isSum 29 = .ok (.getfield 41, 3) := by decide +kernel
theorem dX4_isSum_32 : decode cX4_isSum 32 = .ok (.bipush (-17), 2) := by decide +kernel
theorem dX4_isSum_34 : decode cX4_isSum 34 = .ok (.if_icmp .ne 33, 3) := by decide +kernel
theorem dX4_isSum_37 : decode cX4_isSum 37 = .ok (.aload_n 0, 1) := by decide +kernel
theorem dX4_isSum_38 : decode cX4_isSum 38 = .ok (.getfield 41, 3) := by decide +kernel
theorem dX4_isSum_41 : decode cX4_isSum 41 = .ok (.istore_n 3, 1) := by decide +kernel
theorem dX4_isSum_42 : decode cX4_isSum 42 = .ok (.aload_n 0, 1) := by decide +kernel
theorem dX4_isSum_43 : decode cX4_isSum 43 = .ok (.invokevirtual 28, 3) := by decide +kernel
theorem dX4_isSum_46 : decode cX4_isSum 46 = .ok (.aload_n 0, 1) := by decide +kernel
theorem dX4_isSum_47 : decode cX4_isSum 47 = .ok (.iload_n 1, 1) := by decide +kernel
theorem dX4_isSum_48 : decode cX4_isSum 48 = .ok (.invokevirtual 86, 3) := by decide +kernel
theorem dX4_isSum_51 : decode cX4_isSum 51 = .ok (.ifCond .ne 5, 3) := by decide +kernel
theorem dX4_isSum_54 : decode cX4_isSum 54 = .ok (.iconst 0, 1) := by decide +kernel
theorem dX4_isSum_55 : decode cX4_isSum 55 = .ok (.ireturn, 1) := by decide +kernel
theorem dX4_isSum_56 : decode cX4_isSum 56 = .ok (.aload_n 0, 1) := by decide +kernel
theorem dX4_isSum_57 : decode cX4_isSum 57 = .ok (.iload_n 3, 1) := by decide +kernel
theorem dX4_isSum_58 : decode cX4_isSum 58 = .ok (.invokevirtual 76, 3) := by decide +kernel
theorem dX4_isSum_61 : decode cX4_isSum 61 = .ok (.iinc 2 1, 3) := by decide +kernel
theorem dX4_isSum_64 : decode cX4_isSum 64 = .ok (.goto (-52), 3) := by decide +kernel
theorem dX4_isSum_67 : decode cX4_isSum 67 = .ok (.iconst 1, 1) := by decide +kernel
theorem dX4_isSum_68 : decode cX4_isSum 68 = .ok (.ireturn, 1) := by decide +kernel
theorem dX4_isTerm_0 : decode cX4_isTerm 0 = .ok (.aload_n 0, 1) := by decide +kernel
theorem dX4_isTerm_1 : decode cX4_isTerm 1 = .ok (.iload_n 1, 1) := by decide +kernel
theorem dX4_isTerm_2 : decode cX4_isTerm 2 = .ok (.invokevirtual 89, 3) := by decide +kernel
theorem dX4_isTerm_5 : decode cX4_isTerm 5 = .ok (.ifCond .ne 5, 3) := by decide +kernel
theorem dX4_isTerm_8 : decode cX4_isTerm 8 = .ok (.iconst 0, 1) := by decide +kernel
theorem dX4_isTerm_9 : decode cX4_isTerm 9 = .ok (.ireturn, 1) := by decide +kernel
theorem dX4_isTerm_10 : decode cX4_isTerm 10 = .ok (.iconst 0, 1) := by decide +kernel
theorem dX4_isTerm_11 : decode cX4_isTerm 11 = .ok (.istore_n 2, 1) := by decide +kernel
theorem dX4_isTerm_12 : decode cX4_isTerm 12 = .ok (.iload_n 2, 1) := by decide +kernel
theorem dX4_isTerm_13 : decode cX4_isTerm 13 = .ok (.sipush 160, 3) := by decide +kernel
theorem dX4_isTerm_16 : decode cX4_isTerm 16 = .ok (.if_icmp .ge 38, 3) := by decide +kernel
theorem dX4_isTerm_19 : decode cX4_isTerm 19 = .ok (.aload_n 0, 1) := by decide +kernel
theorem dX4_isTerm_20 : decode cX4_isTerm 20 = .ok (.getfield 41, 3) := by decide +kernel
theorem dX4_isTerm_23 : decode cX4_isTerm 23 = .ok (.bipush (-18), 2) := by decide +kernel
theorem dX4_isTerm_25 : decode cX4_isTerm 25 = .ok (.if_icmp .ne 29, 3) := by decide +kernel
theorem dX4_isTerm_28 : decode cX4_isTerm 28 = .ok (.aload_n 0, 1) := by decide +kernel
theorem dX4_isTerm_29 : decode cX4_isTerm 29 = .ok (.invokevirtual 28, 3) := by decide +kernel
theorem dX4_isTerm_32 : decode cX4_isTerm 32 = .ok (.aload_n 0, 1) := by decide +kernel
theorem dX4_isTerm_33 : decode cX4_isTerm 33 = .ok (.iload_n 1, 1) := by decide +kernel
theorem dX4_isTerm_34 : decode cX4_isTerm 34 = .ok (.invokevirtual 89, 3) := by decide +kernel
theorem dX4_isTerm_37 : decode cX4_isTerm 37 = .ok (.ifCond .ne 5, 3) := by decide +kernel
theorem dX4_isTerm_40 : decode cX4_isTerm 40 = .ok (.iconst 0, 1) := by decide +kernel
theorem dX4_isTerm_41 : decode cX4_isTerm 41 = .ok (.ireturn, 1) := by decide +kernel
theorem dX4_isTerm_42 : decode cX4_isTerm 42 = .ok (.aload_n 0, 1) := by decide +kernel
theorem dX4_isTerm_43 : decode cX4_isTerm 43 = .ok (.bipush (-18), 2) := by decide +kernel
theorem dX4_isTerm_45 : decode cX4_isTerm 45 = .ok (.invokevirtual 76, 3) := by decide +kernel
theorem dX4_isTerm_48 : decode cX4_isTerm 48 = .ok (.iinc 2 1, 3) := by decide +kernel
theorem dX4_isTerm_51 : decode cX4_isTerm 51 = .ok (.goto (-39), 3) := by decide +kernel
theorem dX4_isTerm_54 : decode cX4_isTerm 54 = .ok (.iconst 1, 1) := by decide +kernel
theorem dX4_isTerm_55 : decode cX4_isTerm 55 = .ok (.ireturn, 1) := by decide +kernel
theorem dX4_isOne_0 : decode cX4_isOne 0 = .ok (.aload_n 0, 1) := by decide +kernel
theorem dX4_isOne_1 : decode cX4_isOne 1 = .ok (.getfield 41, 3) := by decide +kernel
theorem dX4_isOne_4 : decode cX4_isOne 4 = .ok (.bipush (-6), 2) := by decide +kernel
theorem dX4_isOne_6 : decode cX4_isOne 6 = .ok (.if_icmp .lt 17, 3) := by decide +kernel
theorem dX4_isOne_9 : decode cX4_isOne 9 = .ok (.aload_n 0, 1) := by decide +kernel
theorem dX4_isOne_10 : decode cX4_isOne 10 = .ok (.aload_n 0, 1) := by decide +kernel
theorem dX4_isOne_11 : decode cX4_isOne 11 = .ok (.getfield 41, 3) := by decide +kernel
theorem dX4_isOne_14 : decode cX4_isOne 14 = .ok (.invokevirtual 76, 3) := by decide +kernel
theorem dX4_isOne_17 : decode cX4_isOne 17 = .ok (.aload_n 0, 1) := by decide +kernel
theorem dX4_isOne_18 : decode cX4_isOne 18 = .ok (.invokevirtual 28, 3) := by decide +kernel
theorem dX4_isOne_21 : decode cX4_isOne 21 = .ok (.iconst 1, 1) := by decide +kernel
theorem dX4_isOne_22 : decode cX4_isOne 22 = .ok (.ireturn, 1) := by decide +kernel
theorem dX4_isOne_23 : decode cX4_isOne 23 = .ok (.aload_n 0, 1) := by decide +kernel
theorem dX4_isOne_24 : decode cX4_isOne 24 = .ok (.getfield 41, 3) := by decide +kernel
theorem dX4_isOne_27 : decode cX4_isOne 27 = .ok (.bipush (-17), 2) := by decide +kernel
theorem dX4_isOne_29 : decode cX4_isOne 29 = .ok (.if_icmp .eq 12, 3) := by decide +kernel
theorem dX4_isOne_32 : decode cX4_isOne 32 = .ok (.aload_n 0, 1) := by decide +kernel
theorem dX4_isOne_33 : decode cX4_isOne 33 = .ok (.getfield 41, 3) := by decide +kernel
theorem dX4_isOne_36 : decode cX4_isOne 36 = .ok (.bipush (-20), 2) := by decide +kernel
theorem dX4_isOne_38 : decode cX4_isOne 38 = .ok (.if_icmp .ne 8, 3) := by decide +kernel
theorem dX4_isOne_41 : decode cX4_isOne 41 = .ok (.iload_n 1, 1) := by decide +kernel
theorem dX4_isOne_42 : decode cX4_isOne 42 = .ok (.iconst 5, 1) := by decide +kernel
theorem dX4_isOne_43 : decode cX4_isOne 43 = .ok (.if_icmp .lt 5, 3) := by decide +kernel
theorem dX4_isOne_46 : decode cX4_isOne 46 = .ok (.iconst 0, 1) := by decide +kernel
theorem dX4_isOne_47 : decode cX4_isOne 47 = .ok (.ireturn, 1) := by decide +kernel
theorem dX4_isOne_48 : decode cX4_isOne 48 = .ok (.aload_n 0, 1) := by decide +kernel
theorem dX4_isOne_49 : decode cX4_isOne 49 = .ok (.getfield 41, 3) := by decide +kernel
theorem dX4_isOne_52 : decode cX4_isOne 52 = .ok (.bipush (-20), 2) := by decide +kernel
theorem dX4_isOne_54 : decode cX4_isOne 54 = .ok (.if_icmp .ne 34, 3) := by decide +kernel
theorem dX4_isOne_57 : decode cX4_isOne 57 = .ok (.aload_n 0, 1) := by decide +kernel
theorem dX4_isOne_58 : decode cX4_isOne 58 = .ok (.invokevirtual 28, 3) := by decide +kernel
theorem dX4_isOne_61 : decode cX4_isOne 61 = .ok (.aload_n 0, 1) := by decide +kernel
theorem dX4_isOne_62 : decode cX4_isOne 62 = .ok (.iload_n 1, 1) := by decide +kernel
theorem dX4_isOne_63 : decode cX4_isOne 63 = .ok (.iconst 1, 1) := by decide +kernel
theorem dX4_isOne_64 : decode cX4_isOne 64 = .ok (.iadd, 1) := by decide +kernel
theorem dX4_isOne_65 : decode cX4_isOne 65 = .ok (.invokevirtual 70, 3) := by decide +kernel
theorem dX4_isOne_68 : decode cX4_isOne 68 = .ok (.ifCond .eq 12, 3) := by decide +kernel
theorem dX4_isOne_71 : decode cX4_isOne 71 = .ok (.aload_n 0, 1) := by decide +kernel
theorem dX4_isOne_72 : decode cX4_isOne 72 = .ok (.getfield 41, 3) := by decide +kernel
theorem dX4_isOne_75 : decode cX4_isOne 75 = .ok (.bipush (-21), 2) := by decide +kernel
theorem dX4_isOne_77 : decode cX4_isOne 77 = .ok (.if_icmp .eq 5, 3) := by decide +kernel
theorem dX4_isOne_80 : decode cX4_isOne 80 = .ok (.iconst 0, 1) := by decide +kernel
theorem dX4_isOne_81 : decode cX4_isOne 81 = .ok (.ireturn, 1) := by decide +kernel
theorem dX4_isOne_82 : decode cX4_isOne 82 = .ok (.aload_n 0, 1) := by decide +kernel
theorem dX4_isOne_83 : decode cX4_isOne 83 = .ok (.invokevirtual 28, 3) := by decide +kernel
theorem dX4_isOne_86 : decode cX4_isOne 86 = .ok (.iconst 1, 1) := by decide +kernel
theorem dX4_isOne_87 : decode cX4_isOne 87 = .ok (.ireturn, 1) := by decide +kernel
theorem dX4_isOne_88 : decode cX4_isOne 88 = .ok (.aload_n 0, 1) := by decide +kernel
theorem dX4_isOne_89 : decode cX4_isOne 89 = .ok (.invokevirtual 28, 3) := by decide +kernel
theorem dX4_isOne_92 : decode cX4_isOne 92 = .ok (.aload_n 0, 1) := by decide +kernel
theorem dX4_isOne_93 : decode cX4_isOne 93 = .ok (.iload_n 1, 1) := by decide +kernel
theorem dX4_isOne_94 : decode cX4_isOne 94 = .ok (.iconst 1, 1) := by decide +kernel
theorem dX4_isOne_95 : decode cX4_isOne 95 = .ok (.iadd, 1) := by decide +kernel
theorem dX4_isOne_96 : decode cX4_isOne 96 = .ok (.invokevirtual 89, 3) := by decide +kernel
theorem dX4_isOne_99 : decode cX4_isOne 99 = .ok (.ifCond .ne 5, 3) := by decide +kernel
theorem dX4_isOne_102 : decode cX4_isOne 102 = .ok (.iconst 0, 1) := by decide +kernel
theorem dX4_isOne_103 : decode cX4_isOne 103 = .ok (.ireturn, 1) := by decide +kernel
theorem dX4_isOne_104 : decode cX4_isOne 104 = .ok (.aload_n 0, 1) := by decide +kernel
theorem dX4_isOne_105 : decode cX4_isOne 105 = .ok (.bipush (-19), 2) := by decide +kernel
theorem dX4_isOne_107 : decode cX4_isOne 107 = .ok (.invokevirtual 76, 3) := by decide +kernel
theorem dX4_isOne_110 : decode cX4_isOne 110 = .ok (.iconst 1, 1) := by decide +kernel
theorem dX4_isOne_111 : decode cX4_isOne 111 = .ok (.ireturn, 1) := by decide +kernel
theorem dX4_put_0 : decode cX4_put 0 = .ok (.aload_n 0, 1) := by decide +kernel
theorem dX4_put_1 : decode cX4_put 1 = .ok (.getfield 25, 3) := by decide +kernel
theorem dX4_put_4 : decode cX4_put 4 = .ok (.ifCond .lt 35, 3) := by decide +kernel
theorem dX4_put_7 : decode cX4_put 7 = .ok (.aload_n 0, 1) := by decide +kernel
theorem dX4_put_8 : decode cX4_put 8 = .ok (.getfield 25, 3) := by decide +kernel
theorem dX4_put_11 : decode cX4_put 11 = .ok (.aload_n 0, 1) := by decide +kernel
theorem dX4_put_12 : decode cX4_put 12 = .ok (.getfield 15, 3) := by decide +kernel
theorem dX4_put_15 : decode cX4_put 15 = .ok (.arraylength, 1) := by decide +kernel
theorem dX4_put_16 : decode cX4_put 16 = .ok (.if_icmp .ge 23, 3) := by decide +kernel
theorem dX4_put_19 : decode cX4_put 19 = .ok (.aload_n 0, 1) := by decide +kernel
theorem dX4_put_20 : decode cX4_put 20 = .ok (.getfield 15, 3) := by decide +kernel
theorem dX4_put_23 : decode cX4_put 23 = .ok (.aload_n 0, 1) := by decide +kernel
theorem dX4_put_24 : decode cX4_put 24 = .ok (.getfield 25, 3) := by decide +kernel
theorem dX4_put_27 : decode cX4_put 27 = .ok (.iload_n 1, 1) := by decide +kernel
theorem dX4_put_28 : decode cX4_put 28 = .ok (.iastore, 1) := by decide +kernel
theorem dX4_put_29 : decode cX4_put 29 = .ok (.aload_n 0, 1) := by decide +kernel
theorem dX4_put_30 : decode cX4_put 30 = .ok (.dup, 1) := by decide +kernel
theorem dX4_put_31 : decode cX4_put 31 = .ok (.getfield 25, 3) := by decide +kernel
theorem dX4_put_34 : decode cX4_put 34 = .ok (.iconst 1, 1) := by decide +kernel
theorem dX4_put_35 : decode cX4_put 35 = .ok (.iadd, 1) := by decide +kernel
theorem dX4_put_36 : decode cX4_put 36 = .ok (.putfield 25, 3) := by decide +kernel
theorem dX4_put_39 : decode cX4_put 39 = .ok (.return_, 1) := by decide +kernel
theorem dX4_goOn_0 : decode cX4_goOn 0 = .ok (.aload_n 0, 1) := by decide +kernel
theorem dX4_goOn_1 : decode cX4_goOn 1 = .ok (.aload_n 0, 1) := by decide +kernel
theorem dX4_goOn_2 : decode cX4_goOn 2 = .ok (.getfield 22, 3) := by decide +kernel
theorem dX4_goOn_5 : decode cX4_goOn 5 = .ok (.putfield 44, 3) := by decide +kernel
theorem dX4_goOn_8 : decode cX4_goOn 8 = .ok (.aload_n 0, 1) := by decide +kernel
theorem dX4_goOn_9 : decode cX4_goOn 9 = .ok (.getfield 44, 3) := by decide +kernel
theorem dX4_goOn_12 : decode cX4_goOn 12 = .ok (.aload_n 0, 1) := by decide +kernel
theorem dX4_goOn_13 : decode cX4_goOn 13 = .ok (.getfield 18, 3) := by decide +kernel
theorem dX4_goOn_16 : decode cX4_goOn 16 = .ok (.if_icmp .ge 30, 3) := by decide +kernel
theorem dX4_goOn_19 : decode cX4_goOn 19 = .ok (.aload_n 0, 1) := by decide +kernel
theorem dX4_goOn_20 : decode cX4_goOn 20 = .ok (.aload_n 0, 1) := by decide +kernel
theorem dX4_goOn_21 : decode cX4_goOn 21 = .ok (.getfield 44, 3) := by decide +kernel
theorem dX4_goOn_24 : decode cX4_goOn 24 = .ok (.invokevirtual 92, 3) := by decide +kernel
theorem dX4_goOn_27 : decode cX4_goOn 27 = .ok (.invokestatic 96, 3) := by decide +kernel
theorem dX4_goOn_30 : decode cX4_goOn 30 = .ok (.ifCond .eq 16, 3) := by decide +kernel
theorem dX4_goOn_33 : decode cX4_goOn 33 = .ok (.aload_n 0, 1) := by decide +kernel
theorem dX4_goOn_34 : decode cX4_goOn 34 = .ok (.dup, 1) := by decide +kernel
theorem dX4_goOn_35 : decode cX4_goOn 35 = .ok (.getfield 44, 3) := by decide +kernel
theorem dX4_goOn_38 : decode cX4_goOn 38 = .ok (.iconst 1, 1) := by decide +kernel
theorem dX4_goOn_39 : decode cX4_goOn 39 = .ok (.iadd, 1) := by decide +kernel
theorem dX4_goOn_40 : decode cX4_goOn 40 = .ok (.putfield 44, 3) := by decide +kernel
theorem dX4_goOn_43 : decode cX4_goOn 43 = .ok (.goto (-35), 3) := by decide +kernel
theorem dX4_goOn_46 : decode cX4_goOn 46 = .ok (.aload_n 0, 1) := by decide +kernel
theorem dX4_goOn_47 : decode cX4_goOn 47 = .ok (.aload_n 0, 1) := by decide +kernel
theorem dX4_goOn_48 : decode cX4_goOn 48 = .ok (.getfield 44, 3) := by decide +kernel
theorem dX4_goOn_51 : decode cX4_goOn 51 = .ok (.putfield 22, 3) := by decide +kernel
theorem dX4_goOn_54 : decode cX4_goOn 54 = .ok (.aload_n 0, 1) := by decide +kernel
theorem dX4_goOn_55 : decode cX4_goOn 55 = .ok (.aload_n 0, 1) := by decide +kernel
theorem dX4_goOn_56 : decode cX4_goOn 56 = .ok (.getfield 44, 3) := by decide +kernel
theorem dX4_goOn_59 : decode cX4_goOn 59 = .ok (.invokevirtual 92, 3) := by decide +kernel
theorem dX4_goOn_62 : decode cX4_goOn 62 = .ok (.istore_n 1, 1) := by decide +kernel
theorem dX4_goOn_63 : decode cX4_goOn 63 = .ok (.aload_n 0, 1) := by decide +kernel
theorem dX4_goOn_64 : decode cX4_goOn 64 = .ok (.getfield 44, 3) := by decide +kernel
theorem dX4_goOn_67 : decode cX4_goOn 67 = .ok (.aload_n 0, 1) := by decide +kernel
theorem dX4_goOn_68 : decode cX4_goOn 68 = .ok (.getfield 18, 3) := by decide +kernel
theorem dX4_goOn_71 : decode cX4_goOn 71 = .ok (.if_icmp .lt 12, 3) := by decide +kernel
theorem dX4_goOn_74 : decode cX4_goOn 74 = .ok (.aload_n 0, 1) := by decide +kernel
theorem dX4_goOn_75 : decode cX4_goOn 75 = .ok (.bipush (-26), 2) := by decide +kernel
theorem dX4_goOn_77 : decode cX4_goOn 77 = .ok (.putfield 41, 3) := by decide +kernel
theorem dX4_goOn_80 : decode cX4_goOn 80 = .ok (.goto 57, 3) := by decide +kernel
theorem dX4_goOn_83 : decode cX4_goOn 83 = .ok (.iload_n 1, 1) := by decide +kernel
theorem dX4_goOn_84 : decode cX4_goOn 84 = .ok (.invokestatic 99, 3) := by decide +kernel
theorem dX4_goOn_87 : decode cX4_goOn 87 = .ok (.ifCond .eq 14, 3) := by decide +kernel
theorem dX4_goOn_90 : decode cX4_goOn 90 = .ok (.aload_n 0, 1) := by decide +kernel
theorem dX4_goOn_91 : decode cX4_goOn 91 = .ok (.aload_n 0, 1) := by decide +kernel
theorem dX4_goOn_92 : decode cX4_goOn 92 = .ok (.invokevirtual 102, 3) := by decide +kernel
theorem dX4_goOn_95 : decode cX4_goOn 95 = .ok (.putfield 41, 3) := by decide +kernel
theorem dX4_goOn_98 : decode cX4_goOn 98 = .ok (.goto 39, 3) := by decide +kernel
theorem dX4_goOn_101 : decode cX4_goOn 101 = .ok (.iload_n 1, 1) := by decide +kernel
theorem dX4_goOn_102 : decode cX4_goOn 102 = .ok (.invokestatic 106, 3) := by decide +kernel
theorem dX4_goOn_105 : decode cX4_goOn 105 = .ok (.ifCond .eq 14, 3) := by decide +kernel
theorem dX4_goOn_108 : decode cX4_goOn 108 = .ok (.aload_n 0, 1) := by decide +kernel
theorem dX4_goOn_109 : decode cX4_goOn 109 = .ok (.aload_n 0, 1) := by decide +kernel
theorem dX4_goOn_110 : decode cX4_goOn 110 = .ok (.invokevirtual 109, 3) := by decide +kernel
theorem dX4_goOn_113 : decode cX4_goOn 113 = .ok (.putfield 41, 3) := by decide +kernel
theorem dX4_goOn_116 : decode cX4_goOn 116 = .ok (.goto 21, 3) := by decide +kernel
theorem dX4_goOn_119 : decode cX4_goOn 119 = .ok (.aload_n 0, 1) := by decide +kernel
theorem dX4_goOn_120 : decode cX4_goOn 120 = .ok (.dup, 1) := by decide +kernel
theorem dX4_goOn_121 : decode cX4_goOn 121 = .ok (.getfield 22, 3) := by decide +kernel
theorem dX4_goOn_124 : decode cX4_goOn 124 = .ok (.iconst 1, 1) := by decide +kernel
theorem dX4_goOn_125 : decode cX4_goOn 125 = .ok (.iadd, 1) := by decide +kernel
theorem dX4_goOn_126 : decode cX4_goOn 126 = .ok (.putfield 22, 3) := by decide +kernel
theorem dX4_goOn_129 : decode cX4_goOn 129 = .ok (.aload_n 0, 1) := by decide +kernel
theorem dX4_goOn_130 : decode cX4_goOn 130 = .ok (.iload_n 1, 1) := by decide +kernel
theorem dX4_goOn_131 : decode cX4_goOn 131 = .ok (.invokestatic 112, 3) := by decide +kernel
theorem dX4_goOn_134 : decode cX4_goOn 134 = .ok (.putfield 41, 3) := by decide +kernel
theorem dX4_goOn_137 : decode cX4_goOn 137 = .ok (.return_, 1) := by decide +kernel
theorem dX4_wordToken_0 : decode cX4_wordToken 0 = .ok (.aload_n 0, 1) := by decide +kernel
theorem dX4_wordToken_1 : decode cX4_wordToken 1 = .ok (.getfield 22, 3) := by decide +kernel
theorem dX4_wordToken_4 : decode cX4_wordToken 4 = .ok (.aload_n 0, 1) := by decide +kernel
theorem dX4_wordToken_5 : decode cX4_wordToken 5 = .ok (.getfield 18, 3) := by decide +kernel
theorem dX4_wordToken_8 : decode cX4_wordToken 8 = .ok (.if_icmp .ge 30, 3) := by decide +kernel
theorem dX4_wordToken_11 : decode cX4_wordToken 11 = .ok (.aload_n 0, 1) := by decide +kernel
theorem dX4_wordToken_12 : decode cX4_wordToken 12 = .ok (.aload_n 0, 1) := by decide +kernel
theorem dX4_wordToken_13 : decode cX4_wordToken 13 = .ok (.getfield 22, 3) := by decide +kernel
theorem dX4_wordToken_16 : decode cX4_wordToken 16 = .ok (.invokevirtual 92, 3) := by decide +kernel
theorem dX4_wordToken_19 : decode cX4_wordToken 19 = .ok (.invokestatic 99, 3) := by decide +kernel
theorem dX4_wordToken_22 : decode cX4_wordToken 22 = .ok (.ifCond .eq 16, 3) := by decide +kernel
theorem dX4_wordToken_25 : decode cX4_wordToken 25 = .ok (.aload_n 0, 1) := by decide +kernel
theorem dX4_wordToken_26 : decode cX4_wordToken 26 = .ok (.dup, 1) := by decide +kernel
theorem dX4_wordToken_27 : decode cX4_wordToken 27 = .ok (.getfield 22, 3) := by decide +kernel
theorem dX4_wordToken_30 : decode cX4_wordToken 30 = .ok (.iconst 1, 1) := by decide +kernel
theorem dX4_wordToken_31 : decode cX4_wordToken 31 = .ok (.iadd, 1) := by decide +kernel
theorem dX4_wordToken_32 : decode cX4_wordToken 32 = .ok (.putfield 22, 3) := by decide +kernel
theorem dX4_wordToken_35 : decode cX4_wordToken 35 = .ok (.goto (-35), 3) := by decide +kernel
theorem dX4_wordToken_38 : decode cX4_wordToken 38 = .ok (.aload_n 0, 1) := by decide +kernel
theorem dX4_wordToken_39 : decode cX4_wordToken 39 = .ok (.ldc 115, 2) := by decide +kernel
theorem dX4_wordToken_41 : decode cX4_wordToken 41 = .ok (.invokevirtual 117, 3) := by decide +kernel
theorem dX4_wordToken_44 : decode cX4_wordToken 44 = .ok (.ifCond .eq 5, 3) := by decide +kernel
theorem dX4_wordToken_47 : decode cX4_wordToken 47 = .ok (.iconst (-1), 1) := by decide +kernel
theorem dX4_wordToken_48 : decode cX4_wordToken 48 = .ok (.ireturn, 1) := by decide +kernel
theorem dX4_wordToken_49 : decode cX4_wordToken 49 = .ok (.aload_n 0, 1) := by decide +kernel
theorem dX4_wordToken_50 : decode cX4_wordToken 50 = .ok (.ldc 121, 2) := by decide +kernel
theorem dX4_wordToken_52 : decode cX4_wordToken 52 = .ok (.invokevirtual 117, 3) := by decide +kernel
theorem dX4_wordToken_55 : decode cX4_wordToken 55 = .ok (.ifCond .eq 6, 3) := by decide +kernel
theorem dX4_wordToken_58 : decode cX4_wordToken 58 = .ok (.bipush (-2), 2) := by decide +kernel
theorem dX4_wordToken_60 : decode cX4_wordToken 60 = .ok (.ireturn, 1) := by decide +kernel
theorem dX4_wordToken_61 : decode cX4_wordToken 61 = .ok (.aload_n 0, 1) := by decide +kernel
theorem dX4_wordToken_62 : decode cX4_wordToken 62 = .ok (.ldc 123, 2) := by decide +kernel
theorem dX4_wordToken_64 : decode cX4_wordToken 64 = .ok (.invokevirtual 117, 3) := by decide +kernel
theorem dX4_wordToken_67 : decode cX4_wordToken 67 = .ok (.ifCond .eq 6, 3) := by decide +kernel
theorem dX4_wordToken_70 : decode cX4_wordToken 70 = .ok (.bipush (-3), 2) := by decide +kernel
theorem dX4_wordToken_72 : decode cX4_wordToken 72 = .ok (.ireturn, 1) := by decide +kernel
theorem dX4_wordToken_73 : decode cX4_wordToken 73 = .ok (.aload_n 0, 1) := by decide +kernel
theorem dX4_wordToken_74 : decode cX4_wordToken 74 = .ok (.ldc 125, 2) := by decide +kernel
theorem dX4_wordToken_76 : decode cX4_wordToken 76 = .ok (.invokevirtual 117, 3) := by decide +kernel
theorem dX4_wordToken_79 : decode cX4_wordToken 79 = .ok (.ifCond .eq 6, 3) := by decide +kernel
theorem dX4_wordToken_82 : decode cX4_wordToken 82 = .ok (.bipush (-4), 2) := by decide +kernel
theorem dX4_wordToken_84 : decode cX4_wordToken 84 = .ok (.ireturn, 1) := by decide +kernel
theorem dX4_wordToken_85 : decode cX4_wordToken 85 = .ok (.aload_n 0, 1) := by decide +kernel
theorem dX4_wordToken_86 : decode cX4_wordToken 86 = .ok (.ldc 127, 2) := by decide +kernel
theorem dX4_wordToken_88 : decode cX4_wordToken 88 = .ok (.invokevirtual 117, 3) := by decide +kernel
theorem dX4_wordToken_91 : decode cX4_wordToken 91 = .ok (.ifCond .eq 6, 3) := by decide +kernel
theorem dX4_wordToken_94 : decode cX4_wordToken 94 = .ok (.bipush (-5), 2) := by decide +kernel
theorem dX4_wordToken_96 : decode cX4_wordToken 96 = .ok (.ireturn, 1) := by decide +kernel
theorem dX4_wordToken_97 : decode cX4_wordToken 97 = .ok (.aload_n 0, 1) := by decide +kernel
theorem dX4_wordToken_98 : decode cX4_wordToken 98 = .ok (.ldc 129, 2) := by decide +kernel
theorem dX4_wordToken_100 : decode cX4_wordToken 100 = .ok (.invokevirtual 117, 3) := by decide +kernel
theorem dX4_wordToken_103 : decode cX4_wordToken 103 = .ok (.ifCond .eq 6, 3) := by decide +kernel
theorem dX4_wordToken_106 : decode cX4_wordToken 106 = .ok (.bipush (-6), 2) := by decide +kernel
theorem dX4_wordToken_108 : decode cX4_wordToken 108 = .ok (.ireturn, 1) := by decide +kernel
theorem dX4_wordToken_109 : decode cX4_wordToken 109 = .ok (.aload_n 0, 1) := by decide +kernel
theorem dX4_wordToken_110 : decode cX4_wordToken 110 = .ok (.ldc 131, 2) := by decide +kernel
theorem dX4_wordToken_112 : decode cX4_wordToken 112 = .ok (.invokevirtual 117, 3) := by decide +kernel
theorem dX4_wordToken_115 : decode cX4_wordToken 115 = .ok (.ifCond .eq 6, 3) := by decide +kernel
theorem dX4_wordToken_118 : decode cX4_wordToken 118 = .ok (.bipush (-23), 2) := by decide +kernel
theorem dX4_wordToken_120 : decode cX4_wordToken 120 = .ok (.ireturn, 1) := by decide +kernel
theorem dX4_wordToken_121 : decode cX4_wordToken 121 = .ok (.aload_n 0, 1) := by decide +kernel
theorem dX4_wordToken_122 : decode cX4_wordToken 122 = .ok (.ldc 133, 2) := by decide +kernel
theorem dX4_wordToken_124 : decode cX4_wordToken 124 = .ok (.invokevirtual 117, 3) := by decide +kernel
theorem dX4_wordToken_127 : decode cX4_wordToken 127 = .ok (.ifCond .eq 6, 3) := by decide +kernel
theorem dX4_wordToken_130 : decode cX4_wordToken 130 = .ok (.bipush (-24), 2) := by decide +kernel
theorem dX4_wordToken_132 : decode cX4_wordToken 132 = .ok (.ireturn, 1) := by decide +kernel
theorem dX4_wordToken_133 : decode cX4_wordToken 133 = .ok (.aload_n 0, 1) := by decide +kernel
theorem dX4_wordToken_134 : decode cX4_wordToken 134 = .ok (.ldc 135, 2) := by decide +kernel
theorem dX4_wordToken_136 : decode cX4_wordToken 136 = .ok (.invokevirtual 117, 3) := by decide +kernel
theorem dX4_wordToken_139 : decode cX4_wordToken 139 = .ok (.ifCond .eq 6, 3) := by decide +kernel
theorem dX4_wordToken_142 : decode cX4_wordToken 142 = .ok (.bipush (-25), 2) := by decide +kernel
theorem dX4_wordToken_144 : decode cX4_wordToken 144 = .ok (.ireturn, 1) := by decide +kernel
theorem dX4_wordToken_145 : decode cX4_wordToken 145 = .ok (.aload_n 0, 1) := by decide +kernel
theorem dX4_wordToken_146 : decode cX4_wordToken 146 = .ok (.ldc 137, 2) := by decide +kernel
theorem dX4_wordToken_148 : decode cX4_wordToken 148 = .ok (.invokevirtual 117, 3) := by decide +kernel
theorem dX4_wordToken_151 : decode cX4_wordToken 151 = .ok (.ifCond .eq 6, 3) := by decide +kernel
theorem dX4_wordToken_154 : decode cX4_wordToken 154 = .ok (.bipush (-11), 2) := by decide +kernel
theorem dX4_wordToken_156 : decode cX4_wordToken 156 = .ok (.ireturn, 1) := by decide +kernel
theorem dX4_wordToken_157 : decode cX4_wordToken 157 = .ok (.aload_n 0, 1) := by decide +kernel
theorem dX4_wordToken_158 : decode cX4_wordToken 158 = .ok (.ldc 139, 2) := by decide +kernel
theorem dX4_wordToken_160 : decode cX4_wordToken 160 = .ok (.invokevirtual 117, 3) := by decide +kernel
theorem dX4_wordToken_163 : decode cX4_wordToken 163 = .ok (.ifCond .eq 6, 3) := by decide +kernel
theorem dX4_wordToken_166 : decode cX4_wordToken 166 = .ok (.bipush (-12), 2) := by decide +kernel
theorem dX4_wordToken_168 : decode cX4_wordToken 168 = .ok (.ireturn, 1) := by decide +kernel
theorem dX4_wordToken_169 : decode cX4_wordToken 169 = .ok (.aload_n 0, 1) := by decide +kernel
theorem dX4_wordToken_170 : decode cX4_wordToken 170 = .ok (.ldc 141, 2) := by decide +kernel
theorem dX4_wordToken_172 : decode cX4_wordToken 172 = .ok (.invokevirtual 117, 3) := by decide +kernel
theorem dX4_wordToken_175 : decode cX4_wordToken 175 = .ok (.ifCond .eq 8, 3) := by decide +kernel
theorem dX4_wordToken_178 : decode cX4_wordToken 178 = .ok (.bipush (-13), 2) := by decide +kernel
theorem dX4_wordToken_180 : decode cX4_wordToken 180 = .ok (.goto 5, 3) := by decide +kernel
theorem dX4_wordToken_183 : decode cX4_wordToken 183 = .ok (.bipush (-27), 2) := by decide +kernel
theorem dX4_wordToken_185 : decode cX4_wordToken 185 = .ok (.ireturn, 1) := by decide +kernel
theorem dX4_isWord_0 : decode cX4_isWord 0 = .ok (.aload_n 0, 1) := by decide +kernel
theorem dX4_isWord_1 : decode cX4_isWord 1 = .ok (.getfield 22, 3) := by decide +kernel
theorem dX4_isWord_4 : decode cX4_isWord 4 = .ok (.aload_n 0, 1) := by decide +kernel
theorem dX4_isWord_5 : decode cX4_isWord 5 = .ok (.getfield 44, 3) := by decide +kernel
theorem dX4_isWord_8 : decode cX4_isWord 8 = .ok (.isub, 1) := by decide +kernel
theorem dX4_isWord_9 : decode cX4_isWord 9 = .ok (.aload_n 1, 1) := by decide +kernel
theorem dX4_isWord_10 : decode cX4_isWord 10 = .ok (.invokevirtual 143, 3) := by decide +kernel
theorem dX4_isWord_13 : decode cX4_isWord 13 = .ok (.if_icmp .eq 5, 3) := by decide +kernel
theorem dX4_isWord_16 : decode cX4_isWord 16 = .ok (.iconst 0, 1) := by decide +kernel
theorem dX4_isWord_17 : decode cX4_isWord 17 = .ok (.ireturn, 1) := by decide +kernel
theorem dX4_isWord_18 : decode cX4_isWord 18 = .ok (.iconst 0, 1) := by decide +kernel
theorem dX4_isWord_19 : decode cX4_isWord 19 = .ok (.istore_n 2, 1) := by decide +kernel
theorem dX4_isWord_20 : decode cX4_isWord 20 = .ok (.iload_n 2, 1) := by decide +kernel
theorem dX4_isWord_21 : decode cX4_isWord 21 = .ok (.aload_n 1, 1) := by decide +kernel
theorem dX4_isWord_22 : decode cX4_isWord 22 = .ok (.invokevirtual 143, 3) := by decide +kernel
theorem dX4_isWord_25 : decode cX4_isWord 25 = .ok (.if_icmp .ge 29, 3) := by decide +kernel
theorem dX4_isWord_28 : decode cX4_isWord 28 = .ok (.aload_n 0, 1) := by decide +kernel
theorem dX4_isWord_29 : decode cX4_isWord 29 = .ok (.aload_n 0, 1) := by decide +kernel
theorem dX4_isWord_30 : decode cX4_isWord 30 = .ok (.getfield 44, 3) := by decide +kernel
theorem dX4_isWord_33 : decode cX4_isWord 33 = .ok (.iload_n 2, 1) := by decide +kernel
theorem dX4_isWord_34 : decode cX4_isWord 34 = .ok (.iadd, 1) := by decide +kernel
theorem dX4_isWord_35 : decode cX4_isWord 35 = .ok (.invokevirtual 92, 3) := by decide +kernel
theorem dX4_isWord_38 : decode cX4_isWord 38 = .ok (.aload_n 1, 1) := by decide +kernel
theorem dX4_isWord_39 : decode cX4_isWord 39 = .ok (.iload_n 2, 1) := by decide +kernel
theorem dX4_isWord_40 : decode cX4_isWord 40 = .ok (.invokevirtual 148, 3) := by decide +kernel
theorem dX4_isWord_43 : decode cX4_isWord 43 = .ok (.if_icmp .eq 5, 3) := by decide +kernel
theorem dX4_isWord_46 : decode cX4_isWord 46 = .ok (.iconst 0, 1) := by decide +kernel
theorem dX4_isWord_47 : decode cX4_isWord 47 = .ok (.ireturn, 1) := by decide +kernel
theorem dX4_isWord_48 : decode cX4_isWord 48 = .ok (.iinc 2 1, 3) := by decide +kernel
theorem dX4_isWord_51 : decode cX4_isWord 51 = .ok (.goto (-31), 3) := by decide +kernel
theorem dX4_isWord_54 : decode cX4_isWord 54 = .ok (.iconst 1, 1) := by decide +kernel
theorem dX4_isWord_55 : decode cX4_isWord 55 = .ok (.ireturn, 1) := by decide +kernel
theorem dX4_numberToken_0 : decode cX4_numberToken 0 = .ok (.iconst 0, 1) := by decide +kernel
theorem dX4_numberToken_1 : decode cX4_numberToken 1 = .ok (.istore_n 1, 1) := by decide +kernel
theorem dX4_numberToken_2 : decode cX4_numberToken 2 = .ok (.aload_n 0, 1) := by decide +kernel
theorem dX4_numberToken_3 : decode cX4_numberToken 3 = .ok (.getfield 22, 3) := by decide +kernel
theorem dX4_numberToken_6 : decode cX4_numberToken 6 = .ok (.aload_n 0, 1) := by decide +kernel
theorem dX4_numberToken_7 : decode cX4_numberToken 7 = .ok (.getfield 18, 3) := by decide +kernel
theorem dX4_numberToken_10 : decode cX4_numberToken 10 = .ok (.if_icmp .ge 47, 3) := by decide +kernel
theorem dX4_numberToken_13 : decode cX4_numberToken 13 = .ok (.aload_n 0, 1) := by decide +kernel
theorem dX4_numberToken_14 : decode cX4_numberToken 14 = .ok (.aload_n 0, 1) := by decide +kernel
theorem dX4_numberToken_15 : decode cX4_numberToken 15 = .ok (.getfield 22, 3) := by decide +kernel
theorem dX4_numberToken_18 : decode cX4_numberToken 18 = .ok (.invokevirtual 92, 3) := by decide +kernel
theorem dX4_numberToken_21 : decode cX4_numberToken 21 = .ok (.invokestatic 106, 3) := by decide +kernel
theorem dX4_numberToken_24 : decode cX4_numberToken 24 = .ok (.ifCond .eq 33, 3) := by decide +kernel
theorem dX4_numberToken_27 : decode cX4_numberToken 27 = .ok (.bipush 10, 2) := by decide +kernel
theorem dX4_numberToken_29 : decode cX4_numberToken 29 = .ok (.iload_n 1, 1) := by decide +kernel
theorem dX4_numberToken_30 : decode cX4_numberToken 30 = .ok (.imul, 1) := by decide +kernel
theorem dX4_numberToken_31 : decode cX4_numberToken 31 = .ok (.aload_n 0, 1) := by decide +kernel
theorem dX4_numberToken_32 : decode cX4_numberToken 32 = .ok (.aload_n 0, 1) := by decide +kernel
theorem dX4_numberToken_33 : decode cX4_numberToken 33 = .ok (.getfield 22, 3) := by decide +kernel
theorem dX4_numberToken_36 : decode cX4_numberToken 36 = .ok (.invokevirtual 92, 3) := by decide +kernel
theorem dX4_numberToken_39 : decode cX4_numberToken 39 = .ok (.iadd, 1) := by decide +kernel
theorem dX4_numberToken_40 : decode cX4_numberToken 40 = .ok (.bipush 48, 2) := by decide +kernel
theorem dX4_numberToken_42 : decode cX4_numberToken 42 = .ok (.isub, 1) := by decide +kernel
theorem dX4_numberToken_43 : decode cX4_numberToken 43 = .ok (.istore_n 1, 1) := by decide +kernel
theorem dX4_numberToken_44 : decode cX4_numberToken 44 = .ok (.aload_n 0, 1) := by decide +kernel
theorem dX4_numberToken_45 : decode cX4_numberToken 45 = .ok (.dup, 1) := by decide +kernel
theorem dX4_numberToken_46 : decode cX4_numberToken 46 = .ok (.getfield 22, 3) := by decide +kernel
theorem dX4_numberToken_49 : decode cX4_numberToken 49 = .ok (.iconst 1, 1) := by decide +kernel
theorem dX4_numberToken_50 : decode cX4_numberToken 50 = .ok (.iadd, 1) := by decide +kernel
theorem dX4_numberToken_51 : decode cX4_numberToken 51 = .ok (.putfield 22, 3) := by decide +kernel
theorem dX4_numberToken_54 : decode cX4_numberToken 54 = .ok (.goto (-52), 3) := by decide +kernel
theorem dX4_numberToken_57 : decode cX4_numberToken 57 = .ok (.aload_n 0, 1) := by decide +kernel
theorem dX4_numberToken_58 : decode cX4_numberToken 58 = .ok (.getfield 22, 3) := by decide +kernel
theorem dX4_numberToken_61 : decode cX4_numberToken 61 = .ok (.aload_n 0, 1) := by decide +kernel
theorem dX4_numberToken_62 : decode cX4_numberToken 62 = .ok (.getfield 44, 3) := by decide +kernel
theorem dX4_numberToken_65 : decode cX4_numberToken 65 = .ok (.isub, 1) := by decide +kernel
theorem dX4_numberToken_66 : decode cX4_numberToken 66 = .ok (.iconst 4, 1) := by decide +kernel
theorem dX4_numberToken_67 : decode cX4_numberToken 67 = .ok (.if_icmp .le 8, 3) := by decide +kernel
theorem dX4_numberToken_70 : decode cX4_numberToken 70 = .ok (.bipush (-27), 2) := by decide +kernel
theorem dX4_numberToken_72 : decode cX4_numberToken 72 = .ok (.goto 4, 3) := by decide +kernel
theorem dX4_numberToken_75 : decode cX4_numberToken 75 = .ok (.iload_n 1, 1) := by decide +kernel
theorem dX4_numberToken_76 : decode cX4_numberToken 76 = .ok (.ireturn, 1) := by decide +kernel
theorem dX4_signToken_0 : decode cX4_signToken 0 = .ok (.iload_n 0, 1) := by decide +kernel
theorem dX4_signToken_1 : decode cX4_signToken 1 = .ok (.tableswitch 127 40 61 #[103, 106, 118, 112, 127, 115, 127, 127, 127, 127, 127, 127, 127, 127, 127, 127, 127, 127, 127, 109, 121, 124], 103) := by decide +kernel
theorem dX4_signToken_104 : decode cX4_signToken 104 = .ok (.bipush (-20), 2) := by decide +kernel
theorem dX4_signToken_106 : decode cX4_signToken 106 = .ok (.ireturn, 1) := by decide +kernel
theorem dX4_signToken_107 : decode cX4_signToken 107 = .ok (.bipush (-21), 2) := by decide +kernel
theorem dX4_signToken_109 : decode cX4_signToken 109 = .ok (.ireturn, 1) := by decide +kernel
theorem dX4_signToken_110 : decode cX4_signToken 110 = .ok (.bipush (-22), 2) := by decide +kernel
theorem dX4_signToken_112 : decode cX4_signToken 112 = .ok (.ireturn, 1) := by decide +kernel
theorem dX4_signToken_113 : decode cX4_signToken 113 = .ok (.bipush (-16), 2) := by decide +kernel
theorem dX4_signToken_115 : decode cX4_signToken 115 = .ok (.ireturn, 1) := by decide +kernel
theorem dX4_signToken_116 : decode cX4_signToken 116 = .ok (.bipush (-17), 2) := by decide +kernel
theorem dX4_signToken_118 : decode cX4_signToken 118 = .ok (.ireturn, 1) := by decide +kernel
theorem dX4_signToken_119 : decode cX4_signToken 119 = .ok (.bipush (-18), 2) := by decide +kernel
theorem dX4_signToken_121 : decode cX4_signToken 121 = .ok (.ireturn, 1) := by decide +kernel
theorem dX4_signToken_122 : decode cX4_signToken 122 = .ok (.bipush (-14), 2) := by decide +kernel
theorem dX4_signToken_124 : decode cX4_signToken 124 = .ok (.ireturn, 1) := by decide +kernel
theorem dX4_signToken_125 : decode cX4_signToken 125 = .ok (.bipush (-15), 2) := by decide +kernel
theorem dX4_signToken_127 : decode cX4_signToken 127 = .ok (.ireturn, 1) := by decide +kernel
theorem dX4_signToken_128 : decode cX4_signToken 128 = .ok (.bipush (-27), 2) := by decide +kernel
theorem dX4_signToken_130 : decode cX4_signToken 130 = .ok (.ireturn, 1) := by decide +kernel
theorem dX4_byteAt_0 : decode cX4_byteAt 0 = .ok (.iload_n 1, 1) := by decide +kernel
theorem dX4_byteAt_1 : decode cX4_byteAt 1 = .ok (.ifCond .lt 29, 3) := by decide +kernel
theorem dX4_byteAt_4 : decode cX4_byteAt 4 = .ok (.iload_n 1, 1) := by decide +kernel
theorem dX4_byteAt_5 : decode cX4_byteAt 5 = .ok (.aload_n 0, 1) := by decide +kernel
theorem dX4_byteAt_6 : decode cX4_byteAt 6 = .ok (.getfield 18, 3) := by decide +kernel
theorem dX4_byteAt_9 : decode cX4_byteAt 9 = .ok (.if_icmp .ge 21, 3) := by decide +kernel
theorem dX4_byteAt_12 : decode cX4_byteAt 12 = .ok (.iload_n 1, 1) := by decide +kernel
theorem dX4_byteAt_13 : decode cX4_byteAt 13 = .ok (.aload_n 0, 1) := by decide +kernel
theorem dX4_byteAt_14 : decode cX4_byteAt 14 = .ok (.getfield 9, 3) := by decide +kernel
theorem dX4_byteAt_17 : decode cX4_byteAt 17 = .ok (.arraylength, 1) := by decide +kernel
theorem dX4_byteAt_18 : decode cX4_byteAt 18 = .ok (.if_icmp .ge 12, 3) := by decide +kernel
theorem dX4_byteAt_21 : decode cX4_byteAt 21 = .ok (.aload_n 0, 1) := by decide +kernel
theorem dX4_byteAt_22 : decode cX4_byteAt 22 = .ok (.getfield 9, 3) := by decide +kernel
theorem dX4_byteAt_25 : decode cX4_byteAt 25 = .ok (.iload_n 1, 1) := by decide +kernel
theorem dX4_byteAt_26 : decode cX4_byteAt 26 = .ok (.iaload, 1) := by decide +kernel
theorem dX4_byteAt_27 : decode cX4_byteAt 27 = .ok (.goto 4, 3) := by decide +kernel
theorem dX4_byteAt_30 : decode cX4_byteAt 30 = .ok (.iconst (-1), 1) := by decide +kernel
theorem dX4_byteAt_31 : decode cX4_byteAt 31 = .ok (.ireturn, 1) := by decide +kernel
theorem dX4_isBlank_0 : decode cX4_isBlank 0 = .ok (.iload_n 0, 1) := by decide +kernel
theorem dX4_isBlank_1 : decode cX4_isBlank 1 = .ok (.bipush 32, 2) := by decide +kernel
theorem dX4_isBlank_3 : decode cX4_isBlank 3 = .ok (.if_icmp .eq 9, 3) := by decide +kernel
theorem dX4_isBlank_6 : decode cX4_isBlank 6 = .ok (.iload_n 0, 1) := by decide +kernel
theorem dX4_isBlank_7 : decode cX4_isBlank 7 = .ok (.bipush 10, 2) := by decide +kernel
theorem dX4_isBlank_9 : decode cX4_isBlank 9 = .ok (.if_icmp .ne 7, 3) := by decide +kernel
theorem dX4_isBlank_12 : decode cX4_isBlank 12 = .ok (.iconst 1, 1) := by decide +kernel
theorem dX4_isBlank_13 : decode cX4_isBlank 13 = .ok (.goto 4, 3) := by decide +kernel
theorem dX4_isBlank_16 : decode cX4_isBlank 16 = .ok (.iconst 0, 1) := by decide +kernel
theorem dX4_isBlank_17 : decode cX4_isBlank 17 = .ok (.ireturn, 1) := by decide +kernel
theorem dX4_isLetter_0 : decode cX4_isLetter 0 = .ok (.iload_n 0, 1) := by decide +kernel
theorem dX4_isLetter_1 : decode cX4_isLetter 1 = .ok (.bipush 97, 2) := by decide +kernel
theorem dX4_isLetter_3 : decode cX4_isLetter 3 = .ok (.if_icmp .lt 13, 3) := by decide +kernel
theorem dX4_isLetter_6 : decode cX4_isLetter 6 = .ok (.iload_n 0, 1) := by decide +kernel
theorem dX4_isLetter_7 : decode cX4_isLetter 7 = .ok (.bipush 122, 2) := by decide +kernel
theorem dX4_isLetter_9 : decode cX4_isLetter 9 = .ok (.if_icmp .gt 7, 3) := by decide +kernel
theorem dX4_isLetter_12 : decode cX4_isLetter 12 = .ok (.iconst 1, 1) := by decide +kernel
theorem dX4_isLetter_13 : decode cX4_isLetter 13 = .ok (.goto 4, 3) := by decide +kernel
theorem dX4_isLetter_16 : decode cX4_isLetter 16 = .ok (.iconst 0, 1) := by decide +kernel
theorem dX4_isLetter_17 : decode cX4_isLetter 17 = .ok (.ireturn, 1) := by decide +kernel
theorem dX4_isDigit_0 : decode cX4_isDigit 0 = .ok (.iload_n 0, 1) := by decide +kernel
theorem dX4_isDigit_1 : decode cX4_isDigit 1 = .ok (.bipush 48, 2) := by decide +kernel
theorem dX4_isDigit_3 : decode cX4_isDigit 3 = .ok (.if_icmp .lt 13, 3) := by decide +kernel
theorem dX4_isDigit_6 : decode cX4_isDigit 6 = .ok (.iload_n 0, 1) := by decide +kernel
theorem dX4_isDigit_7 : decode cX4_isDigit 7 = .ok (.bipush 57, 2) := by decide +kernel
theorem dX4_isDigit_9 : decode cX4_isDigit 9 = .ok (.if_icmp .gt 7, 3) := by decide +kernel
theorem dX4_isDigit_12 : decode cX4_isDigit 12 = .ok (.iconst 1, 1) := by decide +kernel
theorem dX4_isDigit_13 : decode cX4_isDigit 13 = .ok (.goto 4, 3) := by decide +kernel
theorem dX4_isDigit_16 : decode cX4_isDigit 16 = .ok (.iconst 0, 1) := by decide +kernel
theorem dX4_isDigit_17 : decode cX4_isDigit 17 = .ok (.ireturn, 1) := by decide +kernel
