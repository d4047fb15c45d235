section Zj_10_dX7_3
theorem dX7_unlike_25 : decode cX7_unlike 25 = .ok (.iload_n 3, 1) := zr0 zk_29 (zat_w (k := 1) (p := 9) (w := zw_cX7_unlike_1) zw_cX7_unlike_ok rfl (by decide +kernel))
theorem dX7_unlike_26 : decode cX7_unlike 26 = .ok (.imul, 1) := zr0 zk_104 (zat_w (k := 1) (p := 10) (w := zw_cX7_unlike_1) zw_cX7_unlike_ok rfl (by decide +kernel))
theorem dX7_unlike_27 : decode cX7_unlike 27 = .ok (.iadd, 1) := zr0 zk_96 (zat_w (k := 1) (p := 11) (w := zw_cX7_unlike_1) zw_cX7_unlike_ok rfl (by decide +kernel))
theorem dX7_unlike_28 : decode cX7_unlike 28 = .ok (.iaload, 1) := zr0 zk_46 (zat_w (k := 1) (p := 12) (w := zw_cX7_unlike_1) zw_cX7_unlike_ok rfl (by decide +kernel))
theorem dX7_unlike_29 : decode cX7_unlike 29 = .ok (.invokevirtual 198, 3) := zr2u zk_182 (x0 := 0) (x1 := 198) (zat_w (k := 1) (p := 13) (w := zw_cX7_unlike_1) zw_cX7_unlike_ok rfl (by decide +kernel)) (by decide +kernel)
theorem dX7_unlike_32 : decode cX7_unlike 32 = .ok (.aload_n 0, 1) := zr0 zk_42 (zat_w (k := 2) (p := 0) (w := zw_cX7_unlike_2) zw_cX7_unlike_ok rfl (by decide +kernel))
theorem dX7_unlike_33 : decode cX7_unlike 33 = .ok (.getfield 44, 3) := zr2u zk_180 (x0 := 0) (x1 := 44) (zat_w (k := 2) (p := 1) (w := zw_cX7_unlike_2) zw_cX7_unlike_ok rfl (by decide +kernel)) (by decide +kernel)
theorem dX7_unlike_36 : decode cX7_unlike 36 = .ok (.bipush 40, 2) := zr1s zk_16 (x0 := 40) (zat_w (k := 2) (p := 4) (w := zw_cX7_unlike_2) zw_cX7_unlike_ok rfl (by decide +kernel)) (by decide +kernel)
theorem dX7_unlike_38 : decode cX7_unlike 38 = .ok (.iload_n 1, 1) := zr0 zk_27 (zat_w (k := 2) (p := 6) (w := zw_cX7_unlike_2) zw_cX7_unlike_ok rfl (by decide +kernel))
theorem dX7_unlike_39 : decode cX7_unlike 39 = .ok (.imul, 1) := zr0 zk_104 (zat_w (k := 2) (p := 7) (w := zw_cX7_unlike_2) zw_cX7_unlike_ok rfl (by decide +kernel))
theorem dX7_unlike_40 : decode cX7_unlike 40 = .ok (.iconst 2, 1) := zr0 zk_5 (zat_w (k := 2) (p := 8) (w := zw_cX7_unlike_2) zw_cX7_unlike_ok rfl (by decide +kernel))
theorem dX7_unlike_41 : decode cX7_unlike 41 = .ok (.iload_n 3, 1) := zr0 zk_29 (zat_w (k := 2) (p := 9) (w := zw_cX7_unlike_2) zw_cX7_unlike_ok rfl (by decide +kernel))
theorem dX7_unlike_42 : decode cX7_unlike 42 = .ok (.imul, 1) := zr0 zk_104 (zat_w (k := 2) (p := 10) (w := zw_cX7_unlike_2) zw_cX7_unlike_ok rfl (by decide +kernel))
theorem dX7_unlike_43 : decode cX7_unlike 43 = .ok (.iadd, 1) := zr0 zk_96 (zat_w (k := 2) (p := 11) (w := zw_cX7_unlike_2) zw_cX7_unlike_ok rfl (by decide +kernel))
theorem dX7_unlike_44 : decode cX7_unlike 44 = .ok (.iconst 1, 1) := zr0 zk_4 (zat_w (k := 2) (p := 12) (w := zw_cX7_unlike_2) zw_cX7_unlike_ok rfl (by decide +kernel))
theorem dX7_unlike_45 : decode cX7_unlike 45 = .ok (.iadd, 1) := zr0 zk_96 (zat_w (k := 2) (p := 13) (w := zw_cX7_unlike_2) zw_cX7_unlike_ok rfl (by decide +kernel))
theorem dX7_unlike_46 : decode cX7_unlike 46 = .ok (.iaload, 1) := zr0 zk_46 (zat_w (k := 2) (p := 14) (w := zw_cX7_unlike_2) zw_cX7_unlike_ok rfl (by decide +kernel))
theorem dX7_unlike_47 : decode cX7_unlike 47 = .ok (.i2l, 1) := zr0 zk_133 (zat_w (k := 2) (p := 15) (w := zw_cX7_unlike_2) zw_cX7_unlike_ok rfl (by decide +kernel))
theorem dX7_unlike_48 : decode cX7_unlike 48 = .ok (.lcmp, 1) := zr0 zk_148 (zat_w (k := 3) (p := 0) (w := zw_cX7_unlike_3) zw_cX7_unlike_ok rfl (by decide +kernel))
theorem dX7_unlike_49 : decode cX7_unlike 49 = .ok (.ifCond .eq 5, 3) := zr2s zk_153 (x0 := 0) (x1 := 5) (zat_w (k := 3) (p := 1) (w := zw_cX7_unlike_3) zw_cX7_unlike_ok rfl (by decide +kernel)) (by decide +kernel)
theorem dX7_unlike_52 : decode cX7_unlike 52 = .ok (.iload_n 3, 1) := zr0 zk_29 (zat_w (k := 3) (p := 4) (w := zw_cX7_unlike_3) zw_cX7_unlike_ok rfl (by decide +kernel))
theorem dX7_unlike_53 : decode cX7_unlike 53 = .ok (.ireturn, 1) := zr0 zk_172 (zat_w (k := 3) (p := 5) (w := zw_cX7_unlike_3) zw_cX7_unlike_ok rfl (by decide +kernel))
theorem dX7_unlike_54 : decode cX7_unlike 54 = .ok (.iinc 3 1, 3) := zrii zk_132 (x0 := 3) (x1 := 1) (zat_w (k := 3) (p := 6) (w := zw_cX7_unlike_3) zw_cX7_unlike_ok rfl (by decide +kernel)) (by decide +kernel)
theorem dX7_unlike_57 : decode cX7_unlike 57 = .ok (.goto (-55), 3) := zr2s zk_167 (x0 := 255) (x1 := 201) (zat_w (k := 3) (p := 9) (w := zw_cX7_unlike_3) zw_cX7_unlike_ok rfl (by decide +kernel)) (by decide +kernel)
theorem dX7_unlike_60 : decode cX7_unlike 60 = .ok (.iconst (-1), 1) := zr0 zk_2 (zat_w (k := 3) (p := 12) (w := zw_cX7_unlike_3) zw_cX7_unlike_ok rfl (by decide +kernel))
theorem dX7_unlike_61 : decode cX7_unlike 61 = .ok (.ireturn, 1) := zr0 zk_172 (zat_w (k := 3) (p := 13) (w := zw_cX7_unlike_3) zw_cX7_unlike_ok rfl (by decide +kernel))
theorem dX7_judge_0 : decode cX7_judge 0 = .ok (.aload_n 0, 1) := zr0 zk_42 (zat_s (by decide +kernel))
theorem dX7_judge_1 : decode cX7_judge 1 = .ok (.iload_n 1, 1) := zr0 zk_27 (zat_s (by decide +kernel))
theorem dX7_judge_2 : decode cX7_judge 2 = .ok (.iload_n 2, 1) := zr0 zk_28 (zat_s (by decide +kernel))
theorem dX7_judge_3 : decode cX7_judge 3 = .ok (.invokevirtual 272, 3) := zr2u zk_182 (x0 := 1) (x1 := 16) (zat_s (by decide +kernel)) (by decide +kernel)
theorem dX7_judge_6 : decode cX7_judge 6 = .ok (.istore_n 3, 1) := zr0 zk_62 (zat_s (by decide +kernel))
theorem dX7_judge_7 : decode cX7_judge 7 = .ok (.iload_n 3, 1) := zr0 zk_29 (zat_s (by decide +kernel))
theorem dX7_judge_8 : decode cX7_judge 8 = .ok (.ifCond .ne 12, 3) := zr2s zk_154 (x0 := 0) (x1 := 12) (zat_s (by decide +kernel)) (by decide +kernel)
theorem dX7_judge_11 : decode cX7_judge 11 = .ok (.aload_n 0, 1) := zr0 zk_42 (zat_s (by decide +kernel))
theorem dX7_judge_12 : decode cX7_judge 12 = .ok (.iload_n 1, 1) := zr0 zk_27 (zat_s (by decide +kernel))
theorem dX7_judge_13 : decode cX7_judge 13 = .ok (.iload_n 2, 1) := zr0 zk_28 (zat_s (by decide +kernel))
theorem dX7_judge_14 : decode cX7_judge 14 = .ok (.invokevirtual 275, 3) := zr2u zk_182 (x0 := 1) (x1 := 19) (zat_s (by decide +kernel)) (by decide +kernel)
theorem dX7_judge_17 : decode cX7_judge 17 = .ok (.goto 4, 3) := zr2s zk_167 (x0 := 0) (x1 := 4) (zat_s (by decide +kernel)) (by decide +kernel)
theorem dX7_judge_20 : decode cX7_judge 20 = .ok (.iload_n 3, 1) := zr0 zk_29 (zat_s (by decide +kernel))
theorem dX7_judge_21 : decode cX7_judge 21 = .ok (.ireturn, 1) := zr0 zk_172 (zat_s (by decide +kernel))
def zw_cX7_kinds_0 : List UInt8 := [42, 27, 28, 182, 1, 16, 54, 4, 21, 4, 153, 0, 6, 21, 4, 172, 29, 3, 5, 184]
def zw_cX7_kinds_1 : List UInt8 := [29, 3, 5, 184, 0, 75, 154, 0, 6, 16, 249, 172, 42, 180, 0, 16, 28, 46, 54, 5]
def zw_cX7_kinds_2 : List UInt8 := [28, 46, 54, 5, 42, 180, 0, 20, 28, 46, 54, 6, 42, 180, 0, 7, 54, 7, 3, 54]
def zw_cX7_kinds_3 : List UInt8 := [54, 7, 3, 54, 8, 29, 5, 160, 0, 7, 5, 167, 0, 4, 3, 54, 9, 21, 9, 29]
def zw_cX7_kinds_4 : List UInt8 := [9, 21, 9, 29, 154, 0, 8, 16, 6, 167, 0, 15, 29, 4, 160, 0, 8, 16, 10, 167]
def zw_cX7_kinds_5 : List UInt8 := [8, 16, 10, 167, 0, 5, 16, 13, 162, 0, 83, 42, 180, 0, 16, 28, 29, 154, 0, 8]
def zw_cX7_kinds_6 : List UInt8 := [29, 154, 0, 8, 21, 9, 167, 0, 5, 21, 5, 79, 42, 180, 0, 20, 28, 29, 4, 160]
def zw_cX7_kinds_7 : List UInt8 := [28, 29, 4, 160, 0, 8, 21, 9, 167, 0, 5, 21, 6, 79, 42, 29, 5, 160, 0, 8]
def zw_cX7_kinds_8 : List UInt8 := [5, 160, 0, 8, 21, 9, 167, 0, 5, 21, 7, 181, 0, 7, 21, 8, 42, 27, 28, 182]
def zw_cX7_kinds_9 : List UInt8 := [42, 27, 28, 182, 1, 19, 2, 160, 0, 10, 4, 21, 9, 120, 167, 0, 4, 3, 128, 54]
def zw_cX7_kinds_10 : List UInt8 := [4, 3, 128, 54, 8, 132, 9, 1, 167, 255, 153, 42, 180, 0, 16, 28, 21, 5, 79, 42]
def zw_cX7_kinds_11 : List UInt8 := [21, 5, 79, 42, 180, 0, 20, 28, 21, 6, 79, 42, 21, 7, 181, 0, 7, 21, 8, 172]
def zw_cX7_kinds_12 : List UInt8 := [7, 21, 8, 172]
def zw_cX7_kinds : List (List UInt8) := [zw_cX7_kinds_0, zw_cX7_kinds_1, zw_cX7_kinds_2, zw_cX7_kinds_3, zw_cX7_kinds_4, zw_cX7_kinds_5, zw_cX7_kinds_6, zw_cX7_kinds_7, zw_cX7_kinds_8, zw_cX7_kinds_9, zw_cX7_kinds_10, zw_cX7_kinds_11, zw_cX7_kinds_12]
theorem zw_cX7_kinds_ok : zwin 13 cX7_kinds.data.toList = zw_cX7_kinds := by decide +kernel
theorem dX7_kinds_0 : decode cX7_kinds 0 = .ok (.aload_n 0, 1) := zr0 zk_42 (zat_w (k := 0) (p := 0) (w := zw_cX7_kinds_0) zw_cX7_kinds_ok rfl (by decide +kernel))
theorem dX7_kinds_1 : decode cX7_kinds 1 = .ok (.iload_n 1, 1) := zr0 zk_27 (zat_w (k := 0) (p := 1) (w := zw_cX7_kinds_0) zw_cX7_kinds_ok rfl (by decide +kernel))
theorem dX7_kinds_2 : decode cX7_kinds 2 = .ok (.iload_n 2, 1) := zr0 zk_28 (zat_w (k := 0) (p := 2) (w := zw_cX7_kinds_0) zw_cX7_kinds_ok rfl (by decide +kernel))
theorem dX7_kinds_3 : decode cX7_kinds 3 = .ok (.invokevirtual 272, 3) := zr2u zk_182 (x0 := 1) (x1 := 16) (zat_w (k := 0) (p := 3) (w := zw_cX7_kinds_0) zw_cX7_kinds_ok rfl (by decide +kernel)) (by decide +kernel)
theorem dX7_kinds_6 : decode cX7_kinds 6 = .ok (.istore 4, 2) := zr1u zk_54 (x0 := 4) (zat_w (k := 0) (p := 6) (w := zw_cX7_kinds_0) zw_cX7_kinds_ok rfl (by decide +kernel)) (by decide +kernel)
theorem dX7_kinds_8 : decode cX7_kinds 8 = .ok (.iload 4, 2) := zr1u zk_21 (x0 := 4) (zat_w (k := 0) (p := 8) (w := zw_cX7_kinds_0) zw_cX7_kinds_ok rfl (by decide +kernel)) (by decide +kernel)
theorem dX7_kinds_10 : decode cX7_kinds 10 = .ok (.ifCond .eq 6, 3) := zr2s zk_153 (x0 := 0) (x1 := 6) (zat_w (k := 0) (p := 10) (w := zw_cX7_kinds_0) zw_cX7_kinds_ok rfl (by decide +kernel)) (by decide +kernel)
theorem dX7_kinds_13 : decode cX7_kinds 13 = .ok (.iload 4, 2) := zr1u zk_21 (x0 := 4) (zat_w (k := 0) (p := 13) (w := zw_cX7_kinds_0) zw_cX7_kinds_ok rfl (by decide +kernel)) (by decide +kernel)
theorem dX7_kinds_15 : decode cX7_kinds 15 = .ok (.ireturn, 1) := zr0 zk_172 (zat_w (k := 0) (p := 15) (w := zw_cX7_kinds_0) zw_cX7_kinds_ok rfl (by decide +kernel))
theorem dX7_kinds_16 : decode cX7_kinds 16 = .ok (.iload_n 3, 1) := zr0 zk_29 (zat_w (k := 1) (p := 0) (w := zw_cX7_kinds_1) zw_cX7_kinds_ok rfl (by decide +kernel))
theorem dX7_kinds_17 : decode cX7_kinds 17 = .ok (.iconst 0, 1) := zr0 zk_3 (zat_w (k := 1) (p := 1) (w := zw_cX7_kinds_1) zw_cX7_kinds_ok rfl (by decide +kernel))
theorem dX7_kinds_18 : decode cX7_kinds 18 = .ok (.iconst 2, 1) := zr0 zk_5 (zat_w (k := 1) (p := 2) (w := zw_cX7_kinds_1) zw_cX7_kinds_ok rfl (by decide +kernel))
theorem dX7_kinds_19 : decode cX7_kinds 19 = .ok (.invokestatic 75, 3) := zr2u zk_184 (x0 := 0) (x1 := 75) (zat_w (k := 1) (p := 3) (w := zw_cX7_kinds_1) zw_cX7_kinds_ok rfl (by decide +kernel)) (by decide +kernel)
theorem dX7_kinds_22 : decode cX7_kinds 22 = .ok (.ifCond .ne 6, 3) := zr2s zk_154 (x0 := 0) (x1 := 6) (zat_w (k := 1) (p := 6) (w := zw_cX7_kinds_1) zw_cX7_kinds_ok rfl (by decide +kernel)) (by decide +kernel)
theorem dX7_kinds_25 : decode cX7_kinds 25 = .ok (.bipush (-7), 2) := zr1s zk_16 (x0 := 249) (zat_w (k := 1) (p := 9) (w := zw_cX7_kinds_1) zw_cX7_kinds_ok rfl (by decide +kernel)) (by decide +kernel)
theorem dX7_kinds_27 : decode cX7_kinds 27 = .ok (.ireturn, 1) := zr0 zk_172 (zat_w (k := 1) (p := 11) (w := zw_cX7_kinds_1) zw_cX7_kinds_ok rfl (by decide +kernel))
theorem dX7_kinds_28 : decode cX7_kinds 28 = .ok (.aload_n 0, 1) := zr0 zk_42 (zat_w (k := 1) (p := 12) (w := zw_cX7_kinds_1) zw_cX7_kinds_ok rfl (by decide +kernel))
theorem dX7_kinds_29 : decode cX7_kinds 29 = .ok (.getfield 16, 3) := zr2u zk_180 (x0 := 0) (x1 := 16) (zat_w (k := 1) (p := 13) (w := zw_cX7_kinds_1) zw_cX7_kinds_ok rfl (by decide +kernel)) (by decide +kernel)
theorem dX7_kinds_32 : decode cX7_kinds 32 = .ok (.iload_n 2, 1) := zr0 zk_28 (zat_w (k := 2) (p := 0) (w := zw_cX7_kinds_2) zw_cX7_kinds_ok rfl (by decide +kernel))
theorem dX7_kinds_33 : decode cX7_kinds 33 = .ok (.iaload, 1) := zr0 zk_46 (zat_w (k := 2) (p := 1) (w := zw_cX7_kinds_2) zw_cX7_kinds_ok rfl (by decide +kernel))
theorem dX7_kinds_34 : decode cX7_kinds 34 = .ok (.istore 5, 2) := zr1u zk_54 (x0 := 5) (zat_w (k := 2) (p := 2) (w := zw_cX7_kinds_2) zw_cX7_kinds_ok rfl (by decide +kernel)) (by decide +kernel)
theorem dX7_kinds_36 : decode cX7_kinds 36 = .ok (.aload_n 0, 1) := zr0 zk_42 (zat_w (k := 2) (p := 4) (w := zw_cX7_kinds_2) zw_cX7_kinds_ok rfl (by decide +kernel))
theorem dX7_kinds_37 : decode cX7_kinds 37 = .ok (.getfield 20, 3) := zr2u zk_180 (x0 := 0) (x1 := 20) (zat_w (k := 2) (p := 5) (w := zw_cX7_kinds_2) zw_cX7_kinds_ok rfl (by decide +kernel)) (by decide +kernel)
theorem dX7_kinds_40 : decode cX7_kinds 40 = .ok (.iload_n 2, 1) := zr0 zk_28 (zat_w (k := 2) (p := 8) (w := zw_cX7_kinds_2) zw_cX7_kinds_ok rfl (by decide +kernel))
theorem dX7_kinds_41 : decode cX7_kinds 41 = .ok (.iaload, 1) := zr0 zk_46 (zat_w (k := 2) (p := 9) (w := zw_cX7_kinds_2) zw_cX7_kinds_ok rfl (by decide +kernel))
theorem dX7_kinds_42 : decode cX7_kinds 42 = .ok (.istore 6, 2) := zr1u zk_54 (x0 := 6) (zat_w (k := 2) (p := 10) (w := zw_cX7_kinds_2) zw_cX7_kinds_ok rfl (by decide +kernel)) (by decide +kernel)
theorem dX7_kinds_44 : decode cX7_kinds 44 = .ok (.aload_n 0, 1) := zr0 zk_42 (zat_w (k := 2) (p := 12) (w := zw_cX7_kinds_2) zw_cX7_kinds_ok rfl (by decide +kernel))
theorem dX7_kinds_45 : decode cX7_kinds 45 = .ok (.getfield 7, 3) := zr2u zk_180 (x0 := 0) (x1 := 7) (zat_w (k := 2) (p := 13) (w := zw_cX7_kinds_2) zw_cX7_kinds_ok rfl (by decide +kernel)) (by decide +kernel)
theorem dX7_kinds_48 : decode cX7_kinds 48 = .ok (.istore 7, 2) := zr1u zk_54 (x0 := 7) (zat_w (k := 3) (p := 0) (w := zw_cX7_kinds_3) zw_cX7_kinds_ok rfl (by decide +kernel)) (by decide +kernel)
theorem dX7_kinds_50 : decode cX7_kinds 50 = .ok (.iconst 0, 1) := zr0 zk_3 (zat_w (k := 3) (p := 2) (w := zw_cX7_kinds_3) zw_cX7_kinds_ok rfl (by decide +kernel))
theorem dX7_kinds_51 : decode cX7_kinds 51 = .ok (.istore 8, 2) := zr1u zk_54 (x0 := 8) (zat_w (k := 3) (p := 3) (w := zw_cX7_kinds_3) zw_cX7_kinds_ok rfl (by decide +kernel)) (by decide +kernel)
theorem dX7_kinds_53 : decode cX7_kinds 53 = .ok (.iload_n 3, 1) := zr0 zk_29 (zat_w (k := 3) (p := 5) (w := zw_cX7_kinds_3) zw_cX7_kinds_ok rfl (by decide +kernel))
theorem dX7_kinds_54 : decode cX7_kinds 54 = .ok (.iconst 2, 1) := zr0 zk_5 (zat_w (k := 3) (p := 6) (w := zw_cX7_kinds_3) zw_cX7_kinds_ok rfl (by decide +kernel))
theorem dX7_kinds_55 : decode cX7_kinds 55 = .ok (.if_icmp .ne 7, 3) := zr2s zk_160 (x0 := 0) (x1 := 7) (zat_w (k := 3) (p := 7) (w := zw_cX7_kinds_3) zw_cX7_kinds_ok rfl (by decide +kernel)) (by decide +kernel)
theorem dX7_kinds_58 : decode cX7_kinds 58 = .ok (.iconst 2, 1) := zr0 zk_5 (zat_w (k := 3) (p := 10) (w := zw_cX7_kinds_3) zw_cX7_kinds_ok rfl (by decide +kernel))
theorem dX7_kinds_59 : decode cX7_kinds 59 = .ok (.goto 4, 3) := zr2s zk_167 (x0 := 0) (x1 := 4) (zat_w (k := 3) (p := 11) (w := zw_cX7_kinds_3) zw_cX7_kinds_ok rfl (by decide +kernel)) (by decide +kernel)
theorem dX7_kinds_62 : decode cX7_kinds 62 = .ok (.iconst 0, 1) := zr0 zk_3 (zat_w (k := 3) (p := 14) (w := zw_cX7_kinds_3) zw_cX7_kinds_ok rfl (by decide +kernel))
theorem dX7_kinds_63 : decode cX7_kinds 63 = .ok (.istore 9, 2) := zr1u zk_54 (x0 := 9) (zat_w (k := 3) (p := 15) (w := zw_cX7_kinds_3) zw_cX7_kinds_ok rfl (by decide +kernel)) (by decide +kernel)
theorem dX7_kinds_65 : decode cX7_kinds 65 = .ok (.iload 9, 2) := zr1u zk_21 (x0 := 9) (zat_w (k := 4) (p := 1) (w := zw_cX7_kinds_4) zw_cX7_kinds_ok rfl (by decide +kernel)) (by decide +kernel)
theorem dX7_kinds_67 : decode cX7_kinds 67 = .ok (.iload_n 3, 1) := zr0 zk_29 (zat_w (k := 4) (p := 3) (w := zw_cX7_kinds_4) zw_cX7_kinds_ok rfl (by decide +kernel))
theorem dX7_kinds_68 : decode cX7_kinds 68 = .ok (.ifCond .ne 8, 3) := zr2s zk_154 (x0 := 0) (x1 := 8) (zat_w (k := 4) (p := 4) (w := zw_cX7_kinds_4) zw_cX7_kinds_ok rfl (by decide +kernel)) (by decide +kernel)
theorem dX7_kinds_71 : decode cX7_kinds 71 = .ok (.bipush 6, 2) := zr1s zk_16 (x0 := 6) (zat_w (k := 4) (p := 7) (w := zw_cX7_kinds_4) zw_cX7_kinds_ok rfl (by decide +kernel)) (by decide +kernel)
theorem dX7_kinds_73 : decode cX7_kinds 73 = .ok (.goto 15, 3) := zr2s zk_167 (x0 := 0) (x1 := 15) (zat_w (k := 4) (p := 9) (w := zw_cX7_kinds_4) zw_cX7_kinds_ok rfl (by decide +kernel)) (by decide +kernel)
theorem dX7_kinds_76 : decode cX7_kinds 76 = .ok (.iload_n 3, 1) := zr0 zk_29 (zat_w (k := 4) (p := 12) (w := zw_cX7_kinds_4) zw_cX7_kinds_ok rfl (by decide +kernel))
theorem dX7_kinds_77 : decode cX7_kinds 77 = .ok (.iconst 1, 1) := zr0 zk_4 (zat_w (k := 4) (p := 13) (w := zw_cX7_kinds_4) zw_cX7_kinds_ok rfl (by decide +kernel))
theorem dX7_kinds_78 : decode cX7_kinds 78 = .ok (.if_icmp .ne 8, 3) := zr2s zk_160 (x0 := 0) (x1 := 8) (zat_w (k := 4) (p := 14) (w := zw_cX7_kinds_4) zw_cX7_kinds_ok rfl (by decide +kernel)) (by decide +kernel)
theorem dX7_kinds_81 : decode cX7_kinds 81 = .ok (.bipush 10, 2) := zr1s zk_16 (x0 := 10) (zat_w (k := 5) (p := 1) (w := zw_cX7_kinds_5) zw_cX7_kinds_ok rfl (by decide +kernel)) (by decide +kernel)
theorem dX7_kinds_83 : decode cX7_kinds 83 = .ok (.goto 5, 3) := zr2s zk_167 (x0 := 0) (x1 := 5) (zat_w (k := 5) (p := 3) (w := zw_cX7_kinds_5) zw_cX7_kinds_ok rfl (by decide +kernel)) (by decide +kernel)
theorem dX7_kinds_86 : decode cX7_kinds 86 = .ok (.bipush 13, 2) := zr1s zk_16 (x0 := 13) (zat_w (k := 5) (p := 6) (w := zw_cX7_kinds_5) zw_cX7_kinds_ok rfl (by decide +kernel)) (by decide +kernel)
theorem dX7_kinds_88 : decode cX7_kinds 88 = .ok (.if_icmp .ge 83, 3) := zr2s zk_162 (x0 := 0) (x1 := 83) (zat_w (k := 5) (p := 8) (w := zw_cX7_kinds_5) zw_cX7_kinds_ok rfl (by decide +kernel)) (by decide +kernel)
theorem dX7_kinds_91 : decode cX7_kinds 91 = .ok (.aload_n 0, 1) := zr0 zk_42 (zat_w (k := 5) (p := 11) (w := zw_cX7_kinds_5) zw_cX7_kinds_ok rfl (by decide +kernel))
theorem dX7_kinds_92 : decode cX7_kinds 92 = .ok (.getfield 16, 3) := zr2u zk_180 (x0 := 0) (x1 := 16) (zat_w (k := 5) (p := 12) (w := zw_cX7_kinds_5) zw_cX7_kinds_ok rfl (by decide +kernel)) (by decide +kernel)
theorem dX7_kinds_95 : decode cX7_kinds 95 = .ok (.iload_n 2, 1) := zr0 zk_28 (zat_w (k := 5) (p := 15) (w := zw_cX7_kinds_5) zw_cX7_kinds_ok rfl (by decide +kernel))
theorem dX7_kinds_96 : decode cX7_kinds 96 = .ok (.iload_n 3, 1) := zr0 zk_29 (zat_w (k := 6) (p := 0) (w := zw_cX7_kinds_6) zw_cX7_kinds_ok rfl (by decide +kernel))
theorem dX7_kinds_97 : decode cX7_kinds 97 = .ok (.ifCond .ne 8, 3) := zr2s zk_154 (x0 := 0) (x1 := 8) (zat_w (k := 6) (p := 1) (w := zw_cX7_kinds_6) zw_cX7_kinds_ok rfl (by decide +kernel)) (by decide +kernel)
theorem dX7_kinds_100 : decode cX7_kinds 100 = .ok (.iload 9, 2) := zr1u zk_21 (x0 := 9) (zat_w (k := 6) (p := 4) (w := zw_cX7_kinds_6) zw_cX7_kinds_ok rfl (by decide +kernel)) (by decide +kernel)
theorem dX7_kinds_102 : decode cX7_kinds 102 = .ok (.goto 5, 3) := zr2s zk_167 (x0 := 0) (x1 := 5) (zat_w (k := 6) (p := 6) (w := zw_cX7_kinds_6) zw_cX7_kinds_ok rfl (by decide +kernel)) (by decide +kernel)
theorem dX7_kinds_105 : decode cX7_kinds 105 = .ok (.iload 5, 2) := zr1u zk_21 (x0 := 5) (zat_w (k := 6) (p := 9) (w := zw_cX7_kinds_6) zw_cX7_kinds_ok rfl (by decide +kernel)) (by decide +kernel)
theorem dX7_kinds_107 : decode cX7_kinds 107 = .ok (.iastore, 1) := zr0 zk_79 (zat_w (k := 6) (p := 11) (w := zw_cX7_kinds_6) zw_cX7_kinds_ok rfl (by decide +kernel))
theorem dX7_kinds_108 : decode cX7_kinds 108 = .ok (.aload_n 0, 1) := zr0 zk_42 (zat_w (k := 6) (p := 12) (w := zw_cX7_kinds_6) zw_cX7_kinds_ok rfl (by decide +kernel))
theorem dX7_kinds_109 : decode cX7_kinds 109 = .ok (.getfield 20, 3) := zr2u zk_180 (x0 := 0) (x1 := 20) (zat_w (k := 6) (p := 13) (w := zw_cX7_kinds_6) zw_cX7_kinds_ok rfl (by decide +kernel)) (by decide +kernel)
theorem dX7_kinds_112 : decode cX7_kinds 112 = .ok (.iload_n 2, 1) := zr0 zk_28 (zat_w (k := 7) (p := 0) (w := zw_cX7_kinds_7) zw_cX7_kinds_ok rfl (by decide +kernel))
theorem dX7_kinds_113 : decode cX7_kinds 113 = .ok (.iload_n 3, 1) := zr0 zk_29 (zat_w (k := 7) (p := 1) (w := zw_cX7_kinds_7) zw_cX7_kinds_ok rfl (by decide +kernel))
theorem dX7_kinds_114 : decode cX7_kinds 114 = .ok (.iconst 1, 1) := zr0 zk_4 (zat_w (k := 7) (p := 2) (w := zw_cX7_kinds_7) zw_cX7_kinds_ok rfl (by decide +kernel))
theorem dX7_kinds_115 : decode cX7_kinds 115 = .ok (.if_icmp .ne 8, 3) := zr2s zk_160 (x0 := 0) (x1 := 8) (zat_w (k := 7) (p := 3) (w := zw_cX7_kinds_7) zw_cX7_kinds_ok rfl (by decide +kernel)) (by decide +kernel)
theorem dX7_kinds_118 : decode cX7_kinds 118 = .ok (.iload 9, 2) := zr1u zk_21 (x0 := 9) (zat_w (k := 7) (p := 6) (w := zw_cX7_kinds_7) zw_cX7_kinds_ok rfl (by decide +kernel)) (by decide +kernel)
theorem dX7_kinds_120 : decode cX7_kinds 120 = .ok (.goto 5, 3) := zr2s zk_167 (x0 := 0) (x1 := 5) (zat_w (k := 7) (p := 8) (w := zw_cX7_kinds_7) zw_cX7_kinds_ok rfl (by decide +kernel)) (by decide +kernel)
theorem dX7_kinds_123 : decode cX7_kinds 123 = .ok (.iload 6, 2) := zr1u zk_21 (x0 := 6) (zat_w (k := 7) (p := 11) (w := zw_cX7_kinds_7) zw_cX7_kinds_ok rfl (by decide +kernel)) (by decide +kernel)
theorem dX7_kinds_125 : decode cX7_kinds 125 = .ok (.iastore, 1) := zr0 zk_79 (zat_w (k := 7) (p := 13) (w := zw_cX7_kinds_7) zw_cX7_kinds_ok rfl (by decide +kernel))
theorem dX7_kinds_126 : decode cX7_kinds 126 = .ok (.aload_n 0, 1) := zr0 zk_42 (zat_w (k := 7) (p := 14) (w := zw_cX7_kinds_7) zw_cX7_kinds_ok rfl (by decide +kernel))
theorem dX7_kinds_127 : decode cX7_kinds 127 = .ok (.iload_n 3, 1) := zr0 zk_29 (zat_w (k := 7) (p := 15) (w := zw_cX7_kinds_7) zw_cX7_kinds_ok rfl (by decide +kernel))
theorem dX7_kinds_128 : decode cX7_kinds 128 = .ok (.iconst 2, 1) := zr0 zk_5 (zat_w (k := 8) (p := 0) (w := zw_cX7_kinds_8) zw_cX7_kinds_ok rfl (by decide +kernel))
theorem dX7_kinds_129 : decode cX7_kinds 129 = .ok (.if_icmp .ne 8, 3) := zr2s zk_160 (x0 := 0) (x1 := 8) (zat_w (k := 8) (p := 1) (w := zw_cX7_kinds_8) zw_cX7_kinds_ok rfl (by decide +kernel)) (by decide +kernel)
theorem dX7_kinds_132 : decode cX7_kinds 132 = .ok (.iload 9, 2) := zr1u zk_21 (x0 := 9) (zat_w (k := 8) (p := 4) (w := zw_cX7_kinds_8) zw_cX7_kinds_ok rfl (by decide +kernel)) (by decide +kernel)
theorem dX7_kinds_134 : decode cX7_kinds 134 = .ok (.goto 5, 3) := zr2s zk_167 (x0 := 0) (x1 := 5) (zat_w (k := 8) (p := 6) (w := zw_cX7_kinds_8) zw_cX7_kinds_ok rfl (by decide +kernel)) (by decide +kernel)
theorem dX7_kinds_137 : decode cX7_kinds 137 = .ok (.iload 7, 2) := zr1u zk_21 (x0 := 7) (zat_w (k := 8) (p := 9) (w := zw_cX7_kinds_8) zw_cX7_kinds_ok rfl (by decide +kernel)) (by decide +kernel)
theorem dX7_kinds_139 : decode cX7_kinds 139 = .ok (.putfield 7, 3) := zr2u zk_181 (x0 := 0) (x1 := 7) (zat_w (k := 8) (p := 11) (w := zw_cX7_kinds_8) zw_cX7_kinds_ok rfl (by decide +kernel)) (by decide +kernel)
theorem dX7_kinds_142 : decode cX7_kinds 142 = .ok (.iload 8, 2) := zr1u zk_21 (x0 := 8) (zat_w (k := 8) (p := 14) (w := zw_cX7_kinds_8) zw_cX7_kinds_ok rfl (by decide +kernel)) (by decide +kernel)
theorem dX7_kinds_144 : decode cX7_kinds 144 = .ok (.aload_n 0, 1) := zr0 zk_42 (zat_w (k := 9) (p := 0) (w := zw_cX7_kinds_9) zw_cX7_kinds_ok rfl (by decide +kernel))
theorem dX7_kinds_145 : decode cX7_kinds 145 = .ok (.iload_n 1, 1) := zr0 zk_27 (zat_w (k := 9) (p := 1) (w := zw_cX7_kinds_9) zw_cX7_kinds_ok rfl (by decide +kernel))
theorem dX7_kinds_146 : decode cX7_kinds 146 = .ok (.iload_n 2, 1) := zr0 zk_28 (zat_w (k := 9) (p := 2) (w := zw_cX7_kinds_9) zw_cX7_kinds_ok rfl (by decide +kernel))
theorem dX7_kinds_147 : decode cX7_kinds 147 = .ok (.invokevirtual 275, 3) := zr2u zk_182 (x0 := 1) (x1 := 19) (zat_w (k := 9) (p := 3) (w := zw_cX7_kinds_9) zw_cX7_kinds_ok rfl (by decide +kernel)) (by decide +kernel)
theorem dX7_kinds_150 : decode cX7_kinds 150 = .ok (.iconst (-1), 1) := zr0 zk_2 (zat_w (k := 9) (p := 6) (w := zw_cX7_kinds_9) zw_cX7_kinds_ok rfl (by decide +kernel))
theorem dX7_kinds_151 : decode cX7_kinds 151 = .ok (.if_icmp .ne 10, 3) := zr2s zk_160 (x0 := 0) (x1 := 10) (zat_w (k := 9) (p := 7) (w := zw_cX7_kinds_9) zw_cX7_kinds_ok rfl (by decide +kernel)) (by decide +kernel)
theorem dX7_kinds_154 : decode cX7_kinds 154 = .ok (.iconst 1, 1) := zr0 zk_4 (zat_w (k := 9) (p := 10) (w := zw_cX7_kinds_9) zw_cX7_kinds_ok rfl (by decide +kernel))
theorem dX7_kinds_155 : decode cX7_kinds 155 = .ok (.iload 9, 2) := zr1u zk_21 (x0 := 9) (zat_w (k := 9) (p := 11) (w := zw_cX7_kinds_9) zw_cX7_kinds_ok rfl (by decide +kernel)) (by decide +kernel)
theorem dX7_kinds_157 : decode cX7_kinds 157 = .ok (.ishl, 1) := zr0 zk_120 (zat_w (k := 9) (p := 13) (w := zw_cX7_kinds_9) zw_cX7_kinds_ok rfl (by decide +kernel))
theorem dX7_kinds_158 : decode cX7_kinds 158 = .ok (.goto 4, 3) := zr2s zk_167 (x0 := 0) (x1 := 4) (zat_w (k := 9) (p := 14) (w := zw_cX7_kinds_9) zw_cX7_kinds_ok rfl (by decide +kernel)) (by decide +kernel)
theorem dX7_kinds_161 : decode cX7_kinds 161 = .ok (.iconst 0, 1) := zr0 zk_3 (zat_w (k := 10) (p := 1) (w := zw_cX7_kinds_10) zw_cX7_kinds_ok rfl (by decide +kernel))
theorem dX7_kinds_162 : decode cX7_kinds 162 = .ok (.ior, 1) := zr0 zk_128 (zat_w (k := 10) (p := 2) (w := zw_cX7_kinds_10) zw_cX7_kinds_ok rfl (by decide +kernel))
theorem dX7_kinds_163 : decode cX7_kinds 163 = .ok (.istore 8, 2) := zr1u zk_54 (x0 := 8) (zat_w (k := 10) (p := 3) (w := zw_cX7_kinds_10) zw_cX7_kinds_ok rfl (by decide +kernel)) (by decide +kernel)
theorem dX7_kinds_165 : decode cX7_kinds 165 = .ok (.iinc 9 1, 3) := zrii zk_132 (x0 := 9) (x1 := 1) (zat_w (k := 10) (p := 5) (w := zw_cX7_kinds_10) zw_cX7_kinds_ok rfl (by decide +kernel)) (by decide +kernel)
theorem dX7_kinds_168 : decode cX7_kinds 168 = .ok (.goto (-103), 3) := zr2s zk_167 (x0 := 255) (x1 := 153) (zat_w (k := 10) (p := 8) (w := zw_cX7_kinds_10) zw_cX7_kinds_ok rfl (by decide +kernel)) (by decide +kernel)
theorem dX7_kinds_171 : decode cX7_kinds 171 = .ok (.aload_n 0, 1) := zr0 zk_42 (zat_w (k := 10) (p := 11) (w := zw_cX7_kinds_10) zw_cX7_kinds_ok rfl (by decide +kernel))
theorem dX7_kinds_172 : decode cX7_kinds 172 = .ok (.getfield 16, 3) := zr2u zk_180 (x0 := 0) (x1 := 16) (zat_w (k := 10) (p := 12) (w := zw_cX7_kinds_10) zw_cX7_kinds_ok rfl (by decide +kernel)) (by decide +kernel)
theorem dX7_kinds_175 : decode cX7_kinds 175 = .ok (.iload_n 2, 1) := zr0 zk_28 (zat_w (k := 10) (p := 15) (w := zw_cX7_kinds_10) zw_cX7_kinds_ok rfl (by decide +kernel))
theorem dX7_kinds_176 : decode cX7_kinds 176 = .ok (.iload 5, 2) := zr1u zk_21 (x0 := 5) (zat_w (k := 11) (p := 0) (w := zw_cX7_kinds_11) zw_cX7_kinds_ok rfl (by decide +kernel)) (by decide +kernel)
theorem dX7_kinds_178 : decode cX7_kinds 178 = .ok (.iastore, 1) := zr0 zk_79 (zat_w (k := 11) (p := 2) (w := zw_cX7_kinds_11) zw_cX7_kinds_ok rfl (by decide +kernel))
theorem dX7_kinds_179 : decode cX7_kinds 179 = .ok (.aload_n 0, 1) := zr0 zk_42 (zat_w (k := 11) (p := 3) (w := zw_cX7_kinds_11) zw_cX7_kinds_ok rfl (by decide +kernel))
theorem dX7_kinds_180 : decode cX7_kinds 180 = .ok (.getfield 20, 3) := zr2u zk_180 (x0 := 0) (x1 := 20) (zat_w (k := 11) (p := 4) (w := zw_cX7_kinds_11) zw_cX7_kinds_ok rfl (by decide +kernel)) (by decide +kernel)
theorem dX7_kinds_183 : decode cX7_kinds 183 = .ok (.iload_n 2, 1) := zr0 zk_28 (zat_w (k := 11) (p := 7) (w := zw_cX7_kinds_11) zw_cX7_kinds_ok rfl (by decide +kernel))
theorem dX7_kinds_184 : decode cX7_kinds 184 = .ok (.iload 6, 2) := zr1u zk_21 (x0 := 6) (zat_w (k := 11) (p := 8) (w := zw_cX7_kinds_11) zw_cX7_kinds_ok rfl (by decide +kernel)) (by decide +kernel)
theorem dX7_kinds_186 : decode cX7_kinds 186 = .ok (.iastore, 1) := zr0 zk_79 (zat_w (k := 11) (p := 10) (w := zw_cX7_kinds_11) zw_cX7_kinds_ok rfl (by decide +kernel))
theorem dX7_kinds_187 : decode cX7_kinds 187 = .ok (.aload_n 0, 1) := zr0 zk_42 (zat_w (k := 11) (p := 11) (w := zw_cX7_kinds_11) zw_cX7_kinds_ok rfl (by decide +kernel))
theorem dX7_kinds_188 : decode cX7_kinds 188 = .ok (.iload 7, 2) := zr1u zk_21 (x0 := 7) (zat_w (k := 11) (p := 12) (w := zw_cX7_kinds_11) zw_cX7_kinds_ok rfl (by decide +kernel)) (by decide +kernel)
theorem dX7_kinds_190 : decode cX7_kinds 190 = .ok (.putfield 7, 3) := zr2u zk_181 (x0 := 0) (x1 := 7) (zat_w (k := 11) (p := 14) (w := zw_cX7_kinds_11) zw_cX7_kinds_ok rfl (by decide +kernel)) (by decide +kernel)
theorem dX7_kinds_193 : decode cX7_kinds 193 = .ok (.iload 8, 2) := zr1u zk_21 (x0 := 8) (zat_w (k := 12) (p := 1) (w := zw_cX7_kinds_12) zw_cX7_kinds_ok rfl (by decide +kernel)) (by decide +kernel)
theorem dX7_kinds_195 : decode cX7_kinds 195 = .ok (.ireturn, 1) := zr0 zk_172 (zat_w (k := 12) (p := 3) (w := zw_cX7_kinds_12) zw_cX7_kinds_ok rfl (by decide +kernel))
def zw_cX7_whose_0 : List UInt8 := [42, 27, 182, 1, 13, 61, 28, 153, 0, 5, 28, 172, 3, 62, 3, 54, 4, 21, 4, 42]
def zw_cX7_whose_1 : List UInt8 := [4, 21, 4, 42, 180, 0, 72, 162, 0, 31, 29, 42, 27, 21, 4, 182, 1, 19, 2, 160]
def zw_cX7_whose_2 : List UInt8 := [1, 19, 2, 160, 0, 10, 4, 21, 4, 120, 167, 0, 4, 3, 128, 62, 132, 4, 1, 167]
def zw_cX7_whose_3 : List UInt8 := [132, 4, 1, 167, 255, 222, 29, 172]
def zw_cX7_whose : List (List UInt8) := [zw_cX7_whose_0, zw_cX7_whose_1, zw_cX7_whose_2, zw_cX7_whose_3]
theorem zw_cX7_whose_ok : zwin 4 cX7_whose.data.toList = zw_cX7_whose := by decide +kernel
theorem dX7_whose_0 : decode cX7_whose 0 = .ok (.aload_n 0, 1) := zr0 zk_42 (zat_w (k := 0) (p := 0) (w := zw_cX7_whose_0) zw_cX7_whose_ok rfl (by decide +kernel))
theorem dX7_whose_1 : decode cX7_whose 1 = .ok (.iload_n 1, 1) := zr0 zk_27 (zat_w (k := 0) (p := 1) (w := zw_cX7_whose_0) zw_cX7_whose_ok rfl (by decide +kernel))
theorem dX7_whose_2 : decode cX7_whose 2 = .ok (.invokevirtual 269, 3) := zr2u zk_182 (x0 := 1) (x1 := 13) (zat_w (k := 0) (p := 2) (w := zw_cX7_whose_0) zw_cX7_whose_ok rfl (by decide +kernel)) (by decide +kernel)
theorem dX7_whose_5 : decode cX7_whose 5 = .ok (.istore_n 2, 1) := zr0 zk_61 (zat_w (k := 0) (p := 5) (w := zw_cX7_whose_0) zw_cX7_whose_ok rfl (by decide +kernel))
theorem dX7_whose_6 : decode cX7_whose 6 = .ok (.iload_n 2, 1) := zr0 zk_28 (zat_w (k := 0) (p := 6) (w := zw_cX7_whose_0) zw_cX7_whose_ok rfl (by decide +kernel))
theorem dX7_whose_7 : decode cX7_whose 7 = .ok (.ifCond .eq 5, 3) := zr2s zk_153 (x0 := 0) (x1 := 5) (zat_w (k := 0) (p := 7) (w := zw_cX7_whose_0) zw_cX7_whose_ok rfl (by decide +kernel)) (by decide +kernel)
theorem dX7_whose_10 : decode cX7_whose 10 = .ok (.iload_n 2, 1) := zr0 zk_28 (zat_w (k := 0) (p := 10) (w := zw_cX7_whose_0) zw_cX7_whose_ok rfl (by decide +kernel))
theorem dX7_whose_11 : decode cX7_whose 11 = .ok (.ireturn, 1) := zr0 zk_172 (zat_w (k := 0) (p := 11) (w := zw_cX7_whose_0) zw_cX7_whose_ok rfl (by decide +kernel))
theorem dX7_whose_12 : decode cX7_whose 12 = .ok (.iconst 0, 1) := zr0 zk_3 (zat_w (k := 0) (p := 12) (w := zw_cX7_whose_0) zw_cX7_whose_ok rfl (by decide +kernel))
theorem dX7_whose_13 : decode cX7_whose 13 = .ok (.istore_n 3, 1) := zr0 zk_62 (zat_w (k := 0) (p := 13) (w := zw_cX7_whose_0) zw_cX7_whose_ok rfl (by decide +kernel))
theorem dX7_whose_14 : decode cX7_whose 14 = .ok (.iconst 0, 1) := zr0 zk_3 (zat_w (k := 0) (p := 14) (w := zw_cX7_whose_0) zw_cX7_whose_ok rfl (by decide +kernel))
theorem dX7_whose_15 : decode cX7_whose 15 = .ok (.istore 4, 2) := zr1u zk_54 (x0 := 4) (zat_w (k := 0) (p := 15) (w := zw_cX7_whose_0) zw_cX7_whose_ok rfl (by decide +kernel)) (by decide +kernel)
theorem dX7_whose_17 : decode cX7_whose 17 = .ok (.iload 4, 2) := zr1u zk_21 (x0 := 4) (zat_w (k := 1) (p := 1) (w := zw_cX7_whose_1) zw_cX7_whose_ok rfl (by decide +kernel)) (by decide +kernel)
theorem dX7_whose_19 : decode cX7_whose 19 = .ok (.aload_n 0, 1) := zr0 zk_42 (zat_w (k := 1) (p := 3) (w := zw_cX7_whose_1) zw_cX7_whose_ok rfl (by decide +kernel))
theorem dX7_whose_20 : decode cX7_whose 20 = .ok (.getfield 72, 3) := zr2u zk_180 (x0 := 0) (x1 := 72) (zat_w (k := 1) (p := 4) (w := zw_cX7_whose_1) zw_cX7_whose_ok rfl (by decide +kernel)) (by decide +kernel)
theorem dX7_whose_23 : decode cX7_whose 23 = .ok (.if_icmp .ge 31, 3) := zr2s zk_162 (x0 := 0) (x1 := 31) (zat_w (k := 1) (p := 7) (w := zw_cX7_whose_1) zw_cX7_whose_ok rfl (by decide +kernel)) (by decide +kernel)
theorem dX7_whose_26 : decode cX7_whose 26 = .ok (.iload_n 3, 1) := zr0 zk_29 (zat_w (k := 1) (p := 10) (w := zw_cX7_whose_1) zw_cX7_whose_ok rfl (by decide +kernel))
theorem dX7_whose_27 : decode cX7_whose 27 = .ok (.aload_n 0, 1) := zr0 zk_42 (zat_w (k := 1) (p := 11) (w := zw_cX7_whose_1) zw_cX7_whose_ok rfl (by decide +kernel))
theorem dX7_whose_28 : decode cX7_whose 28 = .ok (.iload_n 1, 1) := zr0 zk_27 (zat_w (k := 1) (p := 12) (w := zw_cX7_whose_1) zw_cX7_whose_ok rfl (by decide +kernel))
theorem dX7_whose_29 : decode cX7_whose 29 = .ok (.iload 4, 2) := zr1u zk_21 (x0 := 4) (zat_w (k := 1) (p := 13) (w := zw_cX7_whose_1) zw_cX7_whose_ok rfl (by decide +kernel)) (by decide +kernel)
theorem dX7_whose_31 : decode cX7_whose 31 = .ok (.invokevirtual 275, 3) := zr2u zk_182 (x0 := 1) (x1 := 19) (zat_w (k := 1) (p := 15) (w := zw_cX7_whose_1) zw_cX7_whose_ok rfl (by decide +kernel)) (by decide +kernel)
theorem dX7_whose_34 : decode cX7_whose 34 = .ok (.iconst (-1), 1) := zr0 zk_2 (zat_w (k := 2) (p := 2) (w := zw_cX7_whose_2) zw_cX7_whose_ok rfl (by decide +kernel))
theorem dX7_whose_35 : decode cX7_whose 35 = .ok (.if_icmp .ne 10, 3) := zr2s zk_160 (x0 := 0) (x1 := 10) (zat_w (k := 2) (p := 3) (w := zw_cX7_whose_2) zw_cX7_whose_ok rfl (by decide +kernel)) (by decide +kernel)
theorem dX7_whose_38 : decode cX7_whose 38 = .ok (.iconst 1, 1) := zr0 zk_4 (zat_w (k := 2) (p := 6) (w := zw_cX7_whose_2) zw_cX7_whose_ok rfl (by decide +kernel))
theorem dX7_whose_39 : decode cX7_whose 39 = .ok (.iload 4, 2) := zr1u zk_21 (x0 := 4) (zat_w (k := 2) (p := 7) (w := zw_cX7_whose_2) zw_cX7_whose_ok rfl (by decide +kernel)) (by decide +kernel)
theorem dX7_whose_41 : decode cX7_whose 41 = .ok (.ishl, 1) := zr0 zk_120 (zat_w (k := 2) (p := 9) (w := zw_cX7_whose_2) zw_cX7_whose_ok rfl (by decide +kernel))
theorem dX7_whose_42 : decode cX7_whose 42 = .ok (.goto 4, 3) := zr2s zk_167 (x0 := 0) (x1 := 4) (zat_w (k := 2) (p := 10) (w := zw_cX7_whose_2) zw_cX7_whose_ok rfl (by decide +kernel)) (by decide +kernel)
theorem dX7_whose_45 : decode cX7_whose 45 = .ok (.iconst 0, 1) := zr0 zk_3 (zat_w (k := 2) (p := 13) (w := zw_cX7_whose_2) zw_cX7_whose_ok rfl (by decide +kernel))
theorem dX7_whose_46 : decode cX7_whose 46 = .ok (.ior, 1) := zr0 zk_128 (zat_w (k := 2) (p := 14) (w := zw_cX7_whose_2) zw_cX7_whose_ok rfl (by decide +kernel))
theorem dX7_whose_47 : decode cX7_whose 47 = .ok (.istore_n 3, 1) := zr0 zk_62 (zat_w (k := 2) (p := 15) (w := zw_cX7_whose_2) zw_cX7_whose_ok rfl (by decide +kernel))
theorem dX7_whose_48 : decode cX7_whose 48 = .ok (.iinc 4 1, 3) := zrii zk_132 (x0 := 4) (x1 := 1) (zat_w (k := 3) (p := 0) (w := zw_cX7_whose_3) zw_cX7_whose_ok rfl (by decide +kernel)) (by decide +kernel)
theorem dX7_whose_51 : decode cX7_whose 51 = .ok (.goto (-34), 3) := zr2s zk_167 (x0 := 255) (x1 := 222) (zat_w (k := 3) (p := 3) (w := zw_cX7_whose_3) zw_cX7_whose_ok rfl (by decide +kernel)) (by decide +kernel)
theorem dX7_whose_54 : decode cX7_whose 54 = .ok (.iload_n 3, 1) := zr0 zk_29 (zat_w (k := 3) (p := 6) (w := zw_cX7_whose_3) zw_cX7_whose_ok rfl (by decide +kernel))
theorem dX7_whose_55 : decode cX7_whose 55 = .ok (.ireturn, 1) := zr0 zk_172 (zat_w (k := 3) (p := 7) (w := zw_cX7_whose_3) zw_cX7_whose_ok rfl (by decide +kernel))
def zw_cX7_laws_0 : List UInt8 := [42, 27, 28, 182, 1, 16, 62, 29, 153, 0, 5, 29, 172, 42, 180, 0, 83, 54, 4, 3]
def zw_cX7_laws_1 : List UInt8 := [83, 54, 4, 3, 54, 5, 3, 54, 6, 21, 6, 42, 180, 0, 80, 162, 0, 38, 42, 21]
def zw_cX7_laws_2 : List UInt8 := [0, 38, 42, 21, 6, 181, 0, 83, 21, 5, 42, 27, 28, 182, 1, 19, 2, 160, 0, 10]
def zw_cX7_laws_3 : List UInt8 := [2, 160, 0, 10, 4, 21, 6, 120, 167, 0, 4, 3, 128, 54, 5, 132, 6, 1, 167, 255]
def zw_cX7_laws_4 : List UInt8 := [6, 1, 167, 255, 215, 42, 21, 4, 181, 0, 83, 21, 5, 172]
def zw_cX7_laws : List (List UInt8) := [zw_cX7_laws_0, zw_cX7_laws_1, zw_cX7_laws_2, zw_cX7_laws_3, zw_cX7_laws_4]
theorem zw_cX7_laws_ok : zwin 5 cX7_laws.data.toList = zw_cX7_laws := by decide +kernel
theorem dX7_laws_0 : decode cX7_laws 0 = .ok (.aload_n 0, 1) := zr0 zk_42 (zat_w (k := 0) (p := 0) (w := zw_cX7_laws_0) zw_cX7_laws_ok rfl (by decide +kernel))
theorem dX7_laws_1 : decode cX7_laws 1 = .ok (.iload_n 1, 1) := zr0 zk_27 (zat_w (k := 0) (p := 1) (w := zw_cX7_laws_0) zw_cX7_laws_ok rfl (by decide +kernel))
theorem dX7_laws_2 : decode cX7_laws 2 = .ok (.iload_n 2, 1) := zr0 zk_28 (zat_w (k := 0) (p := 2) (w := zw_cX7_laws_0) zw_cX7_laws_ok rfl (by decide +kernel))
theorem dX7_laws_3 : decode cX7_laws 3 = .ok (.invokevirtual 272, 3) := zr2u zk_182 (x0 := 1) (x1 := 16) (zat_w (k := 0) (p := 3) (w := zw_cX7_laws_0) zw_cX7_laws_ok rfl (by decide +kernel)) (by decide +kernel)
theorem dX7_laws_6 : decode cX7_laws 6 = .ok (.istore_n 3, 1) := zr0 zk_62 (zat_w (k := 0) (p := 6) (w := zw_cX7_laws_0) zw_cX7_laws_ok rfl (by decide +kernel))
theorem dX7_laws_7 : decode cX7_laws 7 = .ok (.iload_n 3, 1) := zr0 zk_29 (zat_w (k := 0) (p := 7) (w := zw_cX7_laws_0) zw_cX7_laws_ok rfl (by decide +kernel))
theorem dX7_laws_8 : decode cX7_laws 8 = .ok (.ifCond .eq 5, 3) := zr2s zk_153 (x0 := 0) (x1 := 5) (zat_w (k := 0) (p := 8) (w := zw_cX7_laws_0) zw_cX7_laws_ok rfl (by decide +kernel)) (by decide +kernel)
theorem dX7_laws_11 : decode cX7_laws 11 = .ok (.iload_n 3, 1) := zr0 zk_29 (zat_w (k := 0) (p := 11) (w := zw_cX7_laws_0) zw_cX7_laws_ok rfl (by decide +kernel))
theorem dX7_laws_12 : decode cX7_laws 12 = .ok (.ireturn, 1) := zr0 zk_172 (zat_w (k := 0) (p := 12) (w := zw_cX7_laws_0) zw_cX7_laws_ok rfl (by decide +kernel))
theorem dX7_laws_13 : decode cX7_laws 13 = .ok (.aload_n 0, 1) := zr0 zk_42 (zat_w (k := 0) (p := 13) (w := zw_cX7_laws_0) zw_cX7_laws_ok rfl (by decide +kernel))
theorem dX7_laws_14 : decode cX7_laws 14 = .ok (.getfield 83, 3) := zr2u zk_180 (x0 := 0) (x1 := 83) (zat_w (k := 0) (p := 14) (w := zw_cX7_laws_0) zw_cX7_laws_ok rfl (by decide +kernel)) (by decide +kernel)
theorem dX7_laws_17 : decode cX7_laws 17 = .ok (.istore 4, 2) := zr1u zk_54 (x0 := 4) (zat_w (k := 1) (p := 1) (w := zw_cX7_laws_1) zw_cX7_laws_ok rfl (by decide +kernel)) (by decide +kernel)
theorem dX7_laws_19 : decode cX7_laws 19 = .ok (.iconst 0, 1) := zr0 zk_3 (zat_w (k := 1) (p := 3) (w := zw_cX7_laws_1) zw_cX7_laws_ok rfl (by decide +kernel))
theorem dX7_laws_20 : decode cX7_laws 20 = .ok (.istore 5, 2) := zr1u zk_54 (x0 := 5) (zat_w (k := 1) (p := 4) (w := zw_cX7_laws_1) zw_cX7_laws_ok rfl (by decide +kernel)) (by decide +kernel)
theorem dX7_laws_22 : decode cX7_laws 22 = .ok (.iconst 0, 1) := zr0 zk_3 (zat_w (k := 1) (p := 6) (w := zw_cX7_laws_1) zw_cX7_laws_ok rfl (by decide +kernel))
theorem dX7_laws_23 : decode cX7_laws 23 = .ok (.istore 6, 2) := zr1u zk_54 (x0 := 6) (zat_w (k := 1) (p := 7) (w := zw_cX7_laws_1) zw_cX7_laws_ok rfl (by decide +kernel)) (by decide +kernel)
theorem dX7_laws_25 : decode cX7_laws 25 = .ok (.iload 6, 2) := zr1u zk_21 (x0 := 6) (zat_w (k := 1) (p := 9) (w := zw_cX7_laws_1) zw_cX7_laws_ok rfl (by decide +kernel)) (by decide +kernel)
theorem dX7_laws_27 : decode cX7_laws 27 = .ok (.aload_n 0, 1) := zr0 zk_42 (zat_w (k := 1) (p := 11) (w := zw_cX7_laws_1) zw_cX7_laws_ok rfl (by decide +kernel))
theorem dX7_laws_28 : decode cX7_laws 28 = .ok (.getfield 80, 3) := zr2u zk_180 (x0 := 0) (x1 := 80) (zat_w (k := 1) (p := 12) (w := zw_cX7_laws_1) zw_cX7_laws_ok rfl (by decide +kernel)) (by decide +kernel)
theorem dX7_laws_31 : decode cX7_laws 31 = .ok (.if_icmp .ge 38, 3) := zr2s zk_162 (x0 := 0) (x1 := 38) (zat_w (k := 1) (p := 15) (w := zw_cX7_laws_1) zw_cX7_laws_ok rfl (by decide +kernel)) (by decide +kernel)
theorem dX7_laws_34 : decode cX7_laws 34 = .ok (.aload_n 0, 1) := zr0 zk_42 (zat_w (k := 2) (p := 2) (w := zw_cX7_laws_2) zw_cX7_laws_ok rfl (by decide +kernel))
theorem dX7_laws_35 : decode cX7_laws 35 = .ok (.iload 6, 2) := zr1u zk_21 (x0 := 6) (zat_w (k := 2) (p := 3) (w := zw_cX7_laws_2) zw_cX7_laws_ok rfl (by decide +kernel)) (by decide +kernel)
theorem dX7_laws_37 : decode cX7_laws 37 = .ok (.putfield 83, 3) := zr2u zk_181 (x0 := 0) (x1 := 83) (zat_w (k := 2) (p := 5) (w := zw_cX7_laws_2) zw_cX7_laws_ok rfl (by decide +kernel)) (by decide +kernel)
theorem dX7_laws_40 : decode cX7_laws 40 = .ok (.iload 5, 2) := zr1u zk_21 (x0 := 5) (zat_w (k := 2) (p := 8) (w := zw_cX7_laws_2) zw_cX7_laws_ok rfl (by decide +kernel)) (by decide +kernel)
theorem dX7_laws_42 : decode cX7_laws 42 = .ok (.aload_n 0, 1) := zr0 zk_42 (zat_w (k := 2) (p := 10) (w := zw_cX7_laws_2) zw_cX7_laws_ok rfl (by decide +kernel))
theorem dX7_laws_43 : decode cX7_laws 43 = .ok (.iload_n 1, 1) := zr0 zk_27 (zat_w (k := 2) (p := 11) (w := zw_cX7_laws_2) zw_cX7_laws_ok rfl (by decide +kernel))
theorem dX7_laws_44 : decode cX7_laws 44 = .ok (.iload_n 2, 1) := zr0 zk_28 (zat_w (k := 2) (p := 12) (w := zw_cX7_laws_2) zw_cX7_laws_ok rfl (by decide +kernel))
theorem dX7_laws_45 : decode cX7_laws 45 = .ok (.invokevirtual 275, 3) := zr2u zk_182 (x0 := 1) (x1 := 19) (zat_w (k := 2) (p := 13) (w := zw_cX7_laws_2) zw_cX7_laws_ok rfl (by decide +kernel)) (by decide +kernel)
theorem dX7_laws_48 : decode cX7_laws 48 = .ok (.iconst (-1), 1) := zr0 zk_2 (zat_w (k := 3) (p := 0) (w := zw_cX7_laws_3) zw_cX7_laws_ok rfl (by decide +kernel))
theorem dX7_laws_49 : decode cX7_laws 49 = .ok (.if_icmp .ne 10, 3) := zr2s zk_160 (x0 := 0) (x1 := 10) (zat_w (k := 3) (p := 1) (w := zw_cX7_laws_3) zw_cX7_laws_ok rfl (by decide +kernel)) (by decide +kernel)
theorem dX7_laws_52 : decode cX7_laws 52 = .ok (.iconst 1, 1) := zr0 zk_4 (zat_w (k := 3) (p := 4) (w := zw_cX7_laws_3) zw_cX7_laws_ok rfl (by decide +kernel))
theorem dX7_laws_53 : decode cX7_laws 53 = .ok (.iload 6, 2) := zr1u zk_21 (x0 := 6) (zat_w (k := 3) (p := 5) (w := zw_cX7_laws_3) zw_cX7_laws_ok rfl (by decide +kernel)) (by decide +kernel)
theorem dX7_laws_55 : decode cX7_laws 55 = .ok (.ishl, 1) := zr0 zk_120 (zat_w (k := 3) (p := 7) (w := zw_cX7_laws_3) zw_cX7_laws_ok rfl (by decide +kernel))
theorem dX7_laws_56 : decode cX7_laws 56 = .ok (.goto 4, 3) := zr2s zk_167 (x0 := 0) (x1 := 4) (zat_w (k := 3) (p := 8) (w := zw_cX7_laws_3) zw_cX7_laws_ok rfl (by decide +kernel)) (by decide +kernel)
theorem dX7_laws_59 : decode cX7_laws 59 = .ok (.iconst 0, 1) := zr0 zk_3 (zat_w (k := 3) (p := 11) (w := zw_cX7_laws_3) zw_cX7_laws_ok rfl (by decide +kernel))
theorem dX7_laws_60 : decode cX7_laws 60 = .ok (.ior, 1) := zr0 zk_128 (zat_w (k := 3) (p := 12) (w := zw_cX7_laws_3) zw_cX7_laws_ok rfl (by decide +kernel))
theorem dX7_laws_61 : decode cX7_laws 61 = .ok (.istore 5, 2) := zr1u zk_54 (x0 := 5) (zat_w (k := 3) (p := 13) (w := zw_cX7_laws_3) zw_cX7_laws_ok rfl (by decide +kernel)) (by decide +kernel)
theorem dX7_laws_63 : decode cX7_laws 63 = .ok (.iinc 6 1, 3) := zrii zk_132 (x0 := 6) (x1 := 1) (zat_w (k := 3) (p := 15) (w := zw_cX7_laws_3) zw_cX7_laws_ok rfl (by decide +kernel)) (by decide +kernel)
theorem dX7_laws_66 : decode cX7_laws 66 = .ok (.goto (-41), 3) := zr2s zk_167 (x0 := 255) (x1 := 215) (zat_w (k := 4) (p := 2) (w := zw_cX7_laws_4) zw_cX7_laws_ok rfl (by decide +kernel)) (by decide +kernel)
theorem dX7_laws_69 : decode cX7_laws 69 = .ok (.aload_n 0, 1) := zr0 zk_42 (zat_w (k := 4) (p := 5) (w := zw_cX7_laws_4) zw_cX7_laws_ok rfl (by decide +kernel))
theorem dX7_laws_70 : decode cX7_laws 70 = .ok (.iload 4, 2) := zr1u zk_21 (x0 := 4) (zat_w (k := 4) (p := 6) (w := zw_cX7_laws_4) zw_cX7_laws_ok rfl (by decide +kernel)) (by decide +kernel)
theorem dX7_laws_72 : decode cX7_laws 72 = .ok (.putfield 83, 3) := zr2u zk_181 (x0 := 0) (x1 := 83) (zat_w (k := 4) (p := 8) (w := zw_cX7_laws_4) zw_cX7_laws_ok rfl (by decide +kernel)) (by decide +kernel)
theorem dX7_laws_75 : decode cX7_laws 75 = .ok (.iload 5, 2) := zr1u zk_21 (x0 := 5) (zat_w (k := 4) (p := 11) (w := zw_cX7_laws_4) zw_cX7_laws_ok rfl (by decide +kernel)) (by decide +kernel)
theorem dX7_laws_77 : decode cX7_laws 77 = .ok (.ireturn, 1) := zr0 zk_172 (zat_w (k := 4) (p := 13) (w := zw_cX7_laws_4) zw_cX7_laws_ok rfl (by decide +kernel))
def zw_cX7_film_0 : List UInt8 := [27, 3, 6, 184, 0, 75, 154, 0, 6, 16, 254, 172, 42, 28, 182, 0, 159, 154, 0, 6]
def zw_cX7_film_1 : List UInt8 := [159, 154, 0, 6, 16, 251, 172, 29, 3, 17, 3, 231, 184, 0, 75, 153, 0, 25, 21, 4]
def zw_cX7_film_2 : List UInt8 := [0, 25, 21, 4, 3, 17, 38, 192, 184, 0, 75, 153, 0, 13, 21, 4, 16, 100, 112, 16]
def zw_cX7_film_3 : List UInt8 := [16, 100, 112, 16, 20, 164, 0, 6, 16, 249, 172, 21, 4, 16, 100, 112, 54, 5, 42, 180]
def zw_cX7_film_4 : List UInt8 := [54, 5, 42, 180, 0, 38, 27, 5, 79, 42, 180, 0, 41, 27, 5, 21, 5, 104, 79, 3]
def zw_cX7_film_5 : List UInt8 := [5, 104, 79, 3, 54, 6, 21, 6, 16, 40, 162, 0, 22, 42, 180, 0, 44, 16, 40, 27]
def zw_cX7_film_6 : List UInt8 := [44, 16, 40, 27, 104, 21, 6, 96, 3, 79, 132, 6, 1, 167, 255, 233, 3, 54, 6, 21]
def zw_cX7_film_7 : List UInt8 := [3, 54, 6, 21, 6, 21, 5, 162, 0, 80, 29, 21, 6, 21, 4, 16, 100, 108, 104, 96]
def zw_cX7_film_8 : List UInt8 := [100, 108, 104, 96, 54, 7, 42, 28, 21, 7, 182, 0, 198, 55, 8, 42, 180, 0, 44, 16]
def zw_cX7_film_9 : List UInt8 := [180, 0, 44, 16, 40, 27, 104, 5, 21, 6, 104, 96, 21, 7, 79, 42, 180, 0, 44, 16]
def zw_cX7_film_10 : List UInt8 := [180, 0, 44, 16, 40, 27, 104, 5, 21, 6, 104, 96, 4, 96, 22, 8, 20, 1, 22, 148]
def zw_cX7_film_11 : List UInt8 := [20, 1, 22, 148, 158, 0, 9, 19, 1, 24, 167, 0, 6, 22, 8, 136, 79, 132, 6, 1]
def zw_cX7_film_12 : List UInt8 := [79, 132, 6, 1, 167, 255, 175, 21, 5, 172]
def zw_cX7_film : List (List UInt8) := [zw_cX7_film_0, zw_cX7_film_1, zw_cX7_film_2, zw_cX7_film_3, zw_cX7_film_4, zw_cX7_film_5, zw_cX7_film_6, zw_cX7_film_7, zw_cX7_film_8, zw_cX7_film_9, zw_cX7_film_10, zw_cX7_film_11, zw_cX7_film_12]
theorem zw_cX7_film_ok : zwin 13 cX7_film.data.toList = zw_cX7_film := by decide +kernel
theorem dX7_film_0 : decode cX7_film 0 = .ok (.iload_n 1, 1) := zr0 zk_27 (zat_w (k := 0) (p := 0) (w := zw_cX7_film_0) zw_cX7_film_ok rfl (by decide +kernel))
theorem dX7_film_1 : decode cX7_film 1 = .ok (.iconst 0, 1) := zr0 zk_3 (zat_w (k := 0) (p := 1) (w := zw_cX7_film_0) zw_cX7_film_ok rfl (by decide +kernel))
theorem dX7_film_2 : decode cX7_film 2 = .ok (.iconst 3, 1) := zr0 zk_6 (zat_w (k := 0) (p := 2) (w := zw_cX7_film_0) zw_cX7_film_ok rfl (by decide +kernel))
theorem dX7_film_3 : decode cX7_film 3 = .ok (.invokestatic 75, 3) := zr2u zk_184 (x0 := 0) (x1 := 75) (zat_w (k := 0) (p := 3) (w := zw_cX7_film_0) zw_cX7_film_ok rfl (by decide +kernel)) (by decide +kernel)
theorem dX7_film_6 : decode cX7_film 6 = .ok (.ifCond .ne 6, 3) := zr2s zk_154 (x0 := 0) (x1 := 6) (zat_w (k := 0) (p := 6) (w := zw_cX7_film_0) zw_cX7_film_ok rfl (by decide +kernel)) (by decide +kernel)
theorem dX7_film_9 : decode cX7_film 9 = .ok (.bipush (-2), 2) := zr1s zk_16 (x0 := 254) (zat_w (k := 0) (p := 9) (w := zw_cX7_film_0) zw_cX7_film_ok rfl (by decide +kernel)) (by decide +kernel)
theorem dX7_film_11 : decode cX7_film 11 = .ok (.ireturn, 1) := zr0 zk_172 (zat_w (k := 0) (p := 11) (w := zw_cX7_film_0) zw_cX7_film_ok rfl (by decide +kernel))
theorem dX7_film_12 : decode cX7_film 12 = .ok (.aload_n 0, 1) := zr0 zk_42 (zat_w (k := 0) (p := 12) (w := zw_cX7_film_0) zw_cX7_film_ok rfl (by decide +kernel))
theorem dX7_film_13 : decode cX7_film 13 = .ok (.iload_n 2, 1) := zr0 zk_28 (zat_w (k := 0) (p := 13) (w := zw_cX7_film_0) zw_cX7_film_ok rfl (by decide +kernel))
theorem dX7_film_14 : decode cX7_film 14 = .ok (.invokevirtual 159, 3) := zr2u zk_182 (x0 := 0) (x1 := 159) (zat_w (k := 0) (p := 14) (w := zw_cX7_film_0) zw_cX7_film_ok rfl (by decide +kernel)) (by decide +kernel)
theorem dX7_film_17 : decode cX7_film 17 = .ok (.ifCond .ne 6, 3) := zr2s zk_154 (x0 := 0) (x1 := 6) (zat_w (k := 1) (p := 1) (w := zw_cX7_film_1) zw_cX7_film_ok rfl (by decide +kernel)) (by decide +kernel)
theorem dX7_film_20 : decode cX7_film 20 = .ok (.bipush (-5), 2) := zr1s zk_16 (x0 := 251) (zat_w (k := 1) (p := 4) (w := zw_cX7_film_1) zw_cX7_film_ok rfl (by decide +kernel)) (by decide +kernel)
theorem dX7_film_22 : decode cX7_film 22 = .ok (.ireturn, 1) := zr0 zk_172 (zat_w (k := 1) (p := 6) (w := zw_cX7_film_1) zw_cX7_film_ok rfl (by decide +kernel))
theorem dX7_film_23 : decode cX7_film 23 = .ok (.iload_n 3, 1) := zr0 zk_29 (zat_w (k := 1) (p := 7) (w := zw_cX7_film_1) zw_cX7_film_ok rfl (by decide +kernel))
theorem dX7_film_24 : decode cX7_film 24 = .ok (.iconst 0, 1) := zr0 zk_3 (zat_w (k := 1) (p := 8) (w := zw_cX7_film_1) zw_cX7_film_ok rfl (by decide +kernel))
theorem dX7_film_25 : decode cX7_film 25 = .ok (.sipush 999, 3) := zr2s zk_17 (x0 := 3) (x1 := 231) (zat_w (k := 1) (p := 9) (w := zw_cX7_film_1) zw_cX7_film_ok rfl (by decide +kernel)) (by decide +kernel)
theorem dX7_film_28 : decode cX7_film 28 = .ok (.invokestatic 75, 3) := zr2u zk_184 (x0 := 0) (x1 := 75) (zat_w (k := 1) (p := 12) (w := zw_cX7_film_1) zw_cX7_film_ok rfl (by decide +kernel)) (by decide +kernel)
theorem dX7_film_31 : decode cX7_film 31 = .ok (.ifCond .eq 25, 3) := zr2s zk_153 (x0 := 0) (x1 := 25) (zat_w (k := 1) (p := 15) (w := zw_cX7_film_1) zw_cX7_film_ok rfl (by decide +kernel)) (by decide +kernel)
theorem dX7_film_34 : decode cX7_film 34 = .ok (.iload 4, 2) := zr1u zk_21 (x0 := 4) (zat_w (k := 2) (p := 2) (w := zw_cX7_film_2) zw_cX7_film_ok rfl (by decide +kernel)) (by decide +kernel)
theorem dX7_film_36 : decode cX7_film 36 = .ok (.iconst 0, 1) := zr0 zk_3 (zat_w (k := 2) (p := 4) (w := zw_cX7_film_2) zw_cX7_film_ok rfl (by decide +kernel))
theorem dX7_film_37 : decode cX7_film 37 = .ok (.sipush 9920, 3) := zr2s zk_17 (x0 := 38) (x1 := 192) (zat_w (k := 2) (p := 5) (w := zw_cX7_film_2) zw_cX7_film_ok rfl (by decide +kernel)) (by decide +kernel)
theorem dX7_film_40 : decode cX7_film 40 = .ok (.invokestatic 75, 3) := zr2u zk_184 (x0 := 0) (x1 := 75) (zat_w (k := 2) (p := 8) (w := zw_cX7_film_2) zw_cX7_film_ok rfl (by decide +kernel)) (by decide +kernel)
theorem dX7_film_43 : decode cX7_film 43 = .ok (.ifCond .eq 13, 3) := zr2s zk_153 (x0 := 0) (x1 := 13) (zat_w (k := 2) (p := 11) (w := zw_cX7_film_2) zw_cX7_film_ok rfl (by decide +kernel)) (by decide +kernel)
theorem dX7_film_46 : decode cX7_film 46 = .ok (.iload 4, 2) := zr1u zk_21 (x0 := 4) (zat_w (k := 2) (p := 14) (w := zw_cX7_film_2) zw_cX7_film_ok rfl (by decide +kernel)) (by decide +kernel)
theorem dX7_film_48 : decode cX7_film 48 = .ok (.bipush 100, 2) := zr1s zk_16 (x0 := 100) (zat_w (k := 3) (p := 0) (w := zw_cX7_film_3) zw_cX7_film_ok rfl (by decide +kernel)) (by decide +kernel)
theorem dX7_film_50 : decode cX7_film 50 = .ok (.irem, 1) := zr0 zk_112 (zat_w (k := 3) (p := 2) (w := zw_cX7_film_3) zw_cX7_film_ok rfl (by decide +kernel))
theorem dX7_film_51 : decode cX7_film 51 = .ok (.bipush 20, 2) := zr1s zk_16 (x0 := 20) (zat_w (k := 3) (p := 3) (w := zw_cX7_film_3) zw_cX7_film_ok rfl (by decide +kernel)) (by decide +kernel)
theorem dX7_film_53 : decode cX7_film 53 = .ok (.if_icmp .le 6, 3) := zr2s zk_164 (x0 := 0) (x1 := 6) (zat_w (k := 3) (p := 5) (w := zw_cX7_film_3) zw_cX7_film_ok rfl (by decide +kernel)) (by decide +kernel)
theorem dX7_film_56 : decode cX7_film 56 = .ok (.bipush (-7), 2) := zr1s zk_16 (x0 := 249) (zat_w (k := 3) (p := 8) (w := zw_cX7_film_3) zw_cX7_film_ok rfl (by decide +kernel)) (by decide +kernel)
theorem dX7_film_58 : decode cX7_film 58 = .ok (.ireturn, 1) := zr0 zk_172 (zat_w (k := 3) (p := 10) (w := zw_cX7_film_3) zw_cX7_film_ok rfl (by decide +kernel))
theorem dX7_film_59 : decode cX7_film 59 = .ok (.iload 4, 2) := zr1u zk_21 (x0 := 4) (zat_w (k := 3) (p := 11) (w := zw_cX7_film_3) zw_cX7_film_ok rfl (by decide +kernel)) (by decide +kernel)
theorem dX7_film_61 : decode cX7_film 61 = .ok (.bipush 100, 2) := zr1s zk_16 (x0 := 100) (zat_w (k := 3) (p := 13) (w := zw_cX7_film_3) zw_cX7_film_ok rfl (by decide +kernel)) (by decide +kernel)
theorem dX7_film_63 : decode cX7_film 63 = .ok (.irem, 1) := zr0 zk_112 (zat_w (k := 3) (p := 15) (w := zw_cX7_film_3) zw_cX7_film_ok rfl (by decide +kernel))
theorem dX7_film_64 : decode cX7_film 64 = .ok (.istore 5, 2) := zr1u zk_54 (x0 := 5) (zat_w (k := 4) (p := 0) (w := zw_cX7_film_4) zw_cX7_film_ok rfl (by decide +kernel)) (by decide +kernel)
theorem dX7_film_66 : decode cX7_film 66 = .ok (.aload_n 0, 1) := zr0 zk_42 (zat_w (k := 4) (p := 2) (w := zw_cX7_film_4) zw_cX7_film_ok rfl (by decide +kernel))
theorem dX7_film_67 : decode cX7_film 67 = .ok (.getfield 38, 3) := zr2u zk_180 (x0 := 0) (x1 := 38) (zat_w (k := 4) (p := 3) (w := zw_cX7_film_4) zw_cX7_film_ok rfl (by decide +kernel)) (by decide +kernel)
theorem dX7_film_70 : decode cX7_film 70 = .ok (.iload_n 1, 1) := zr0 zk_27 (zat_w (k := 4) (p := 6) (w := zw_cX7_film_4) zw_cX7_film_ok rfl (by decide +kernel))
theorem dX7_film_71 : decode cX7_film 71 = .ok (.iconst 2, 1) := zr0 zk_5 (zat_w (k := 4) (p := 7) (w := zw_cX7_film_4) zw_cX7_film_ok rfl (by decide +kernel))
theorem dX7_film_72 : decode cX7_film 72 = .ok (.iastore, 1) := zr0 zk_79 (zat_w (k := 4) (p := 8) (w := zw_cX7_film_4) zw_cX7_film_ok rfl (by decide +kernel))
theorem dX7_film_73 : decode cX7_film 73 = .ok (.aload_n 0, 1) := zr0 zk_42 (zat_w (k := 4) (p := 9) (w := zw_cX7_film_4) zw_cX7_film_ok rfl (by decide +kernel))
theorem dX7_film_74 : decode cX7_film 74 = .ok (.getfield 41, 3) := zr2u zk_180 (x0 := 0) (x1 := 41) (zat_w (k := 4) (p := 10) (w := zw_cX7_film_4) zw_cX7_film_ok rfl (by decide +kernel)) (by decide +kernel)
theorem dX7_film_77 : decode cX7_film 77 = .ok (.iload_n 1, 1) := zr0 zk_27 (zat_w (k := 4) (p := 13) (w := zw_cX7_film_4) zw_cX7_film_ok rfl (by decide +kernel))
theorem dX7_film_78 : decode cX7_film 78 = .ok (.iconst 2, 1) := zr0 zk_5 (zat_w (k := 4) (p := 14) (w := zw_cX7_film_4) zw_cX7_film_ok rfl (by decide +kernel))
theorem dX7_film_79 : decode cX7_film 79 = .ok (.iload 5, 2) := zr1u zk_21 (x0 := 5) (zat_w (k := 4) (p := 15) (w := zw_cX7_film_4) zw_cX7_film_ok rfl (by decide +kernel)) (by decide +kernel)
theorem dX7_film_81 : decode cX7_film 81 = .ok (.imul, 1) := zr0 zk_104 (zat_w (k := 5) (p := 1) (w := zw_cX7_film_5) zw_cX7_film_ok rfl (by decide +kernel))
theorem dX7_film_82 : decode cX7_film 82 = .ok (.iastore, 1) := zr0 zk_79 (zat_w (k := 5) (p := 2) (w := zw_cX7_film_5) zw_cX7_film_ok rfl (by decide +kernel))
theorem dX7_film_83 : decode cX7_film 83 = .ok (.iconst 0, 1) := zr0 zk_3 (zat_w (k := 5) (p := 3) (w := zw_cX7_film_5) zw_cX7_film_ok rfl (by decide +kernel))
theorem dX7_film_84 : decode cX7_film 84 = .ok (.istore 6, 2) := zr1u zk_54 (x0 := 6) (zat_w (k := 5) (p := 4) (w := zw_cX7_film_5) zw_cX7_film_ok rfl (by decide +kernel)) (by decide +kernel)
theorem dX7_film_86 : decode cX7_film 86 = .ok (.iload 6, 2) := zr1u zk_21 (x0 := 6) (zat_w (k := 5) (p := 6) (w := zw_cX7_film_5) zw_cX7_film_ok rfl (by decide +kernel)) (by decide +kernel)
theorem dX7_film_88 : decode cX7_film 88 = .ok (.bipush 40, 2) := zr1s zk_16 (x0 := 40) (zat_w (k := 5) (p := 8) (w := zw_cX7_film_5) zw_cX7_film_ok rfl (by decide +kernel)) (by decide +kernel)
theorem dX7_film_90 : decode cX7_film 90 = .ok (.if_icmp .ge 22, 3) := zr2s zk_162 (x0 := 0) (x1 := 22) (zat_w (k := 5) (p := 10) (w := zw_cX7_film_5) zw_cX7_film_ok rfl (by decide +kernel)) (by decide +kernel)
theorem dX7_film_93 : decode cX7_film 93 = .ok (.aload_n 0, 1) := zr0 zk_42 (zat_w (k := 5) (p := 13) (w := zw_cX7_film_5) zw_cX7_film_ok rfl (by decide +kernel))
theorem dX7_film_94 : decode cX7_film 94 = .ok (.getfield 44, 3) := zr2u zk_180 (x0 := 0) (x1 := 44) (zat_w (k := 5) (p := 14) (w := zw_cX7_film_5) zw_cX7_film_ok rfl (by decide +kernel)) (by decide +kernel)
theorem dX7_film_97 : decode cX7_film 97 = .ok (.bipush 40, 2) := zr1s zk_16 (x0 := 40) (zat_w (k := 6) (p := 1) (w := zw_cX7_film_6) zw_cX7_film_ok rfl (by decide +kernel)) (by decide +kernel)
theorem dX7_film_99 : decode cX7_film 99 = .ok (.iload_n 1, 1) := zr0 zk_27 (zat_w (k := 6) (p := 3) (w := zw_cX7_film_6) zw_cX7_film_ok rfl (by decide +kernel))
theorem dX7_film_100 : decode cX7_film 100 = .ok (.imul, 1) := zr0 zk_104 (zat_w (k := 6) (p := 4) (w := zw_cX7_film_6) zw_cX7_film_ok rfl (by decide +kernel))
theorem dX7_film_101 : decode cX7_film 101 = .ok (.iload 6, 2) := zr1u zk_21 (x0 := 6) (zat_w (k := 6) (p := 5) (w := zw_cX7_film_6) zw_cX7_film_ok rfl (by decide +kernel)) (by decide +kernel)
theorem dX7_film_103 : decode cX7_film 103 = .ok (.iadd, 1) := zr0 zk_96 (zat_w (k := 6) (p := 7) (w := zw_cX7_film_6) zw_cX7_film_ok rfl (by decide +kernel))
theorem dX7_film_104 : decode cX7_film 104 = .ok (.iconst 0, 1) := zr0 zk_3 (zat_w (k := 6) (p := 8) (w := zw_cX7_film_6) zw_cX7_film_ok rfl (by decide +kernel))
theorem dX7_film_105 : decode cX7_film 105 = .ok (.iastore, 1) := zr0 zk_79 (zat_w (k := 6) (p := 9) (w := zw_cX7_film_6) zw_cX7_film_ok rfl (by decide +kernel))
theorem dX7_film_106 : decode cX7_film 106 = .ok (.iinc 6 1, 3) := zrii zk_132 (x0 := 6) (x1 := 1) (zat_w (k := 6) (p := 10) (w := zw_cX7_film_6) zw_cX7_film_ok rfl (by decide +kernel)) (by decide +kernel)
theorem dX7_film_109 : decode cX7_film 109 = .ok (.goto (-23), 3) := zr2s zk_167 (x0 := 255) (x1 := 233) (zat_w (k := 6) (p := 13) (w := zw_cX7_film_6) zw_cX7_film_ok rfl (by decide +kernel)) (by decide +kernel)
theorem dX7_film_112 : decode cX7_film 112 = .ok (.iconst 0, 1) := zr0 zk_3 (zat_w (k := 7) (p := 0) (w := zw_cX7_film_7) zw_cX7_film_ok rfl (by decide +kernel))
theorem dX7_film_113 : decode cX7_film 113 = .ok (.istore 6, 2) := zr1u zk_54 (x0 := 6) (zat_w (k := 7) (p := 1) (w := zw_cX7_film_7) zw_cX7_film_ok rfl (by decide +kernel)) (by decide +kernel)
theorem dX7_film_115 : decode cX7_film 115 = .ok (.iload 6, 2) := zr1u zk_21 (x0 := 6) (zat_w (k := 7) (p := 3) (w := zw_cX7_film_7) zw_cX7_film_ok rfl (by decide +kernel)) (by decide +kernel)
theorem dX7_film_117 : decode cX7_film 117 = .ok (.iload 5, 2) := zr1u zk_21 (x0 := 5) (zat_w (k := 7) (p := 5) (w := zw_cX7_film_7) zw_cX7_film_ok rfl (by decide +kernel)) (by decide +kernel)
theorem dX7_film_119 : decode cX7_film 119 = .ok (.if_icmp .ge 80, 3) := zr2s zk_162 (x0 := 0) (x1 := 80) (zat_w (k := 7) (p := 7) (w := zw_cX7_film_7) zw_cX7_film_ok rfl (by decide +kernel)) (by decide +kernel)
theorem dX7_film_122 : decode cX7_film 122 = .ok (.iload_n 3, 1) := zr0 zk_29 (zat_w (k := 7) (p := 10) (w := zw_cX7_film_7) zw_cX7_film_ok rfl (by decide +kernel))
theorem dX7_film_123 : decode cX7_film 123 = .ok (.iload 6, 2) := zr1u zk_21 (x0 := 6) (zat_w (k := 7) (p := 11) (w := zw_cX7_film_7) zw_cX7_film_ok rfl (by decide +kernel)) (by decide +kernel)
theorem dX7_film_125 : decode cX7_film 125 = .ok (.iload 4, 2) := zr1u zk_21 (x0 := 4) (zat_w (k := 7) (p := 13) (w := zw_cX7_film_7) zw_cX7_film_ok rfl (by decide +kernel)) (by decide +kernel)
theorem dX7_film_127 : decode cX7_film 127 = .ok (.bipush 100, 2) := zr1s zk_16 (x0 := 100) (zat_w (k := 7) (p := 15) (w := zw_cX7_film_7) zw_cX7_film_ok rfl (by decide +kernel)) (by decide +kernel)
theorem dX7_film_129 : decode cX7_film 129 = .ok (.idiv, 1) := zr0 zk_108 (zat_w (k := 8) (p := 1) (w := zw_cX7_film_8) zw_cX7_film_ok rfl (by decide +kernel))
theorem dX7_film_130 : decode cX7_film 130 = .ok (.imul, 1) := zr0 zk_104 (zat_w (k := 8) (p := 2) (w := zw_cX7_film_8) zw_cX7_film_ok rfl (by decide +kernel))
theorem dX7_film_131 : decode cX7_film 131 = .ok (.iadd, 1) := zr0 zk_96 (zat_w (k := 8) (p := 3) (w := zw_cX7_film_8) zw_cX7_film_ok rfl (by decide +kernel))
theorem dX7_film_132 : decode cX7_film 132 = .ok (.istore 7, 2) := zr1u zk_54 (x0 := 7) (zat_w (k := 8) (p := 4) (w := zw_cX7_film_8) zw_cX7_film_ok rfl (by decide +kernel)) (by decide +kernel)
theorem dX7_film_134 : decode cX7_film 134 = .ok (.aload_n 0, 1) := zr0 zk_42 (zat_w (k := 8) (p := 6) (w := zw_cX7_film_8) zw_cX7_film_ok rfl (by decide +kernel))
theorem dX7_film_135 : decode cX7_film 135 = .ok (.iload_n 2, 1) := zr0 zk_28 (zat_w (k := 8) (p := 7) (w := zw_cX7_film_8) zw_cX7_film_ok rfl (by decide +kernel))
theorem dX7_film_136 : decode cX7_film 136 = .ok (.iload 7, 2) := zr1u zk_21 (x0 := 7) (zat_w (k := 8) (p := 8) (w := zw_cX7_film_8) zw_cX7_film_ok rfl (by decide +kernel)) (by decide +kernel)
theorem dX7_film_138 : decode cX7_film 138 = .ok (.invokevirtual 198, 3) := zr2u zk_182 (x0 := 0) (x1 := 198) (zat_w (k := 8) (p := 10) (w := zw_cX7_film_8) zw_cX7_film_ok rfl (by decide +kernel)) (by decide +kernel)
theorem dX7_film_141 : decode cX7_film 141 = .ok (.lstore 8, 2) := zr1u zk_55 (x0 := 8) (zat_w (k := 8) (p := 13) (w := zw_cX7_film_8) zw_cX7_film_ok rfl (by decide +kernel)) (by decide +kernel)
theorem dX7_film_143 : decode cX7_film 143 = .ok (.aload_n 0, 1) := zr0 zk_42 (zat_w (k := 8) (p := 15) (w := zw_cX7_film_8) zw_cX7_film_ok rfl (by decide +kernel))
theorem dX7_film_144 : decode cX7_film 144 = .ok (.getfield 44, 3) := zr2u zk_180 (x0 := 0) (x1 := 44) (zat_w (k := 9) (p := 0) (w := zw_cX7_film_9) zw_cX7_film_ok rfl (by decide +kernel)) (by decide +kernel)
theorem dX7_film_147 : decode cX7_film 147 = .ok (.bipush 40, 2) := zr1s zk_16 (x0 := 40) (zat_w (k := 9) (p := 3) (w := zw_cX7_film_9) zw_cX7_film_ok rfl (by decide +kernel)) (by decide +kernel)
theorem dX7_film_149 : decode cX7_film 149 = .ok (.iload_n 1, 1) := zr0 zk_27 (zat_w (k := 9) (p := 5) (w := zw_cX7_film_9) zw_cX7_film_ok rfl (by decide +kernel))
theorem dX7_film_150 : decode cX7_film 150 = .ok (.imul, 1) := zr0 zk_104 (zat_w (k := 9) (p := 6) (w := zw_cX7_film_9) zw_cX7_film_ok rfl (by decide +kernel))
theorem dX7_film_151 : decode cX7_film 151 = .ok (.iconst 2, 1) := zr0 zk_5 (zat_w (k := 9) (p := 7) (w := zw_cX7_film_9) zw_cX7_film_ok rfl (by decide +kernel))
theorem dX7_film_152 : decode cX7_film 152 = .ok (.iload 6, 2) := zr1u zk_21 (x0 := 6) (zat_w (k := 9) (p := 8) (w := zw_cX7_film_9) zw_cX7_film_ok rfl (by decide +kernel)) (by decide +kernel)
theorem dX7_film_154 : decode cX7_film 154 = .ok (.imul, 1) := zr0 zk_104 (zat_w (k := 9) (p := 10) (w := zw_cX7_film_9) zw_cX7_film_ok rfl (by decide +kernel))
theorem dX7_film_155 : decode cX7_film 155 = .ok (.iadd, 1) := zr0 zk_96 (zat_w (k := 9) (p := 11) (w := zw_cX7_film_9) zw_cX7_film_ok rfl (by decide +kernel))
theorem dX7_film_156 : decode cX7_film 156 = .ok (.iload 7, 2) := zr1u zk_21 (x0 := 7) (zat_w (k := 9) (p := 12) (w := zw_cX7_film_9) zw_cX7_film_ok rfl (by decide +kernel)) (by decide +kernel)
theorem dX7_film_158 : decode cX7_film 158 = .ok (.iastore, 1) := zr0 zk_79 (zat_w (k := 9) (p := 14) (w := zw_cX7_film_9) zw_cX7_film_ok rfl (by decide +kernel))
theorem dX7_film_159 : decode cX7_film 159 = .ok (.aload_n 0, 1) := zr0 zk_42 (zat_w (k := 9) (p := 15) (w := zw_cX7_film_9) zw_cX7_film_ok rfl (by decide +kernel))
theorem dX7_film_160 : decode cX7_film 160 = .ok (.getfield 44, 3) := zr2u zk_180 (x0 := 0) (x1 := 44) (zat_w (k := 10) (p := 0) (w := zw_cX7_film_10) zw_cX7_film_ok rfl (by decide +kernel)) (by decide +kernel)
theorem dX7_film_163 : decode cX7_film 163 = .ok (.bipush 40, 2) := zr1s zk_16 (x0 := 40) (zat_w (k := 10) (p := 3) (w := zw_cX7_film_10) zw_cX7_film_ok rfl (by decide +kernel)) (by decide +kernel)
theorem dX7_film_165 : decode cX7_film 165 = .ok (.iload_n 1, 1) := zr0 zk_27 (zat_w (k := 10) (p := 5) (w := zw_cX7_film_10) zw_cX7_film_ok rfl (by decide +kernel))
theorem dX7_film_166 : decode cX7_film 166 = .ok (.imul, 1) := zr0 zk_104 (zat_w (k := 10) (p := 6) (w := zw_cX7_film_10) zw_cX7_film_ok rfl (by decide +kernel))
theorem dX7_film_167 : decode cX7_film 167 = .ok (.iconst 2, 1) := zr0 zk_5 (zat_w (k := 10) (p := 7) (w := zw_cX7_film_10) zw_cX7_film_ok rfl (by decide +kernel))
theorem dX7_film_168 : decode cX7_film 168 = .ok (.iload 6, 2) := zr1u zk_21 (x0 := 6) (zat_w (k := 10) (p := 8) (w := zw_cX7_film_10) zw_cX7_film_ok rfl (by decide +kernel)) (by decide +kernel)
theorem dX7_film_170 : decode cX7_film 170 = .ok (.imul, 1) := zr0 zk_104 (zat_w (k := 10) (p := 10) (w := zw_cX7_film_10) zw_cX7_film_ok rfl (by decide +kernel))
theorem dX7_film_171 : decode cX7_film 171 = .ok (.iadd, 1) := zr0 zk_96 (zat_w (k := 10) (p := 11) (w := zw_cX7_film_10) zw_cX7_film_ok rfl (by decide +kernel))
theorem dX7_film_172 : decode cX7_film 172 = .ok (.iconst 1, 1) := zr0 zk_4 (zat_w (k := 10) (p := 12) (w := zw_cX7_film_10) zw_cX7_film_ok rfl (by decide +kernel))
theorem dX7_film_173 : decode cX7_film 173 = .ok (.iadd, 1) := zr0 zk_96 (zat_w (k := 10) (p := 13) (w := zw_cX7_film_10) zw_cX7_film_ok rfl (by decide +kernel))
theorem dX7_film_174 : decode cX7_film 174 = .ok (.lload 8, 2) := zr1u zk_22 (x0 := 8) (zat_w (k := 10) (p := 14) (w := zw_cX7_film_10) zw_cX7_film_ok rfl (by decide +kernel)) (by decide +kernel)
theorem dX7_film_176 : decode cX7_film 176 = .ok (.ldc2_w 278, 3) := zr2u zk_20 (x0 := 1) (x1 := 22) (zat_w (k := 11) (p := 0) (w := zw_cX7_film_11) zw_cX7_film_ok rfl (by decide +kernel)) (by decide +kernel)
theorem dX7_film_179 : decode cX7_film 179 = .ok (.lcmp, 1) := zr0 zk_148 (zat_w (k := 11) (p := 3) (w := zw_cX7_film_11) zw_cX7_film_ok rfl (by decide +kernel))
theorem dX7_film_180 : decode cX7_film 180 = .ok (.ifCond .le 9, 3) := zr2s zk_158 (x0 := 0) (x1 := 9) (zat_w (k := 11) (p := 4) (w := zw_cX7_film_11) zw_cX7_film_ok rfl (by decide +kernel)) (by decide +kernel)
theorem dX7_film_183 : decode cX7_film 183 = .ok (.ldc_w 280, 3) := zr2u zk_19 (x0 := 1) (x1 := 24) (zat_w (k := 11) (p := 7) (w := zw_cX7_film_11) zw_cX7_film_ok rfl (by decide +kernel)) (by decide +kernel)
theorem dX7_film_186 : decode cX7_film 186 = .ok (.goto 6, 3) := zr2s zk_167 (x0 := 0) (x1 := 6) (zat_w (k := 11) (p := 10) (w := zw_cX7_film_11) zw_cX7_film_ok rfl (by decide +kernel)) (by decide +kernel)
theorem dX7_film_189 : decode cX7_film 189 = .ok (.lload 8, 2) := zr1u zk_22 (x0 := 8) (zat_w (k := 11) (p := 13) (w := zw_cX7_film_11) zw_cX7_film_ok rfl (by decide +kernel)) (by decide +kernel)
theorem dX7_film_191 : decode cX7_film 191 = .ok (.l2i, 1) := zr0 zk_136 (zat_w (k := 11) (p := 15) (w := zw_cX7_film_11) zw_cX7_film_ok rfl (by decide +kernel))
theorem dX7_film_192 : decode cX7_film 192 = .ok (.iastore, 1) := zr0 zk_79 (zat_w (k := 12) (p := 0) (w := zw_cX7_film_12) zw_cX7_film_ok rfl (by decide +kernel))
theorem dX7_film_193 : decode cX7_film 193 = .ok (.iinc 6 1, 3) := zrii zk_132 (x0 := 6) (x1 := 1) (zat_w (k := 12) (p := 1) (w := zw_cX7_film_12) zw_cX7_film_ok rfl (by decide +kernel)) (by decide +kernel)
theorem dX7_film_196 : decode cX7_film 196 = .ok (.goto (-81), 3) := zr2s zk_167 (x0 := 255) (x1 := 175) (zat_w (k := 12) (p := 4) (w := zw_cX7_film_12) zw_cX7_film_ok rfl (by decide +kernel)) (by decide +kernel)
theorem dX7_film_199 : decode cX7_film 199 = .ok (.iload 5, 2) := zr1u zk_21 (x0 := 5) (zat_w (k := 12) (p := 7) (w := zw_cX7_film_12) zw_cX7_film_ok rfl (by decide +kernel)) (by decide +kernel)
theorem dX7_film_201 : decode cX7_film 201 = .ok (.ireturn, 1) := zr0 zk_172 (zat_w (k := 12) (p := 9) (w := zw_cX7_film_12) zw_cX7_film_ok rfl (by decide +kernel))
def zw_cX7_slipsBy_0 : List UInt8 := [27, 133, 10, 97, 55, 4, 42, 4, 28, 29, 3, 182, 0, 165, 54, 6, 42, 28, 29, 182]
def zw_cX7_slipsBy_1 : List UInt8 := [42, 28, 29, 182, 0, 186, 3, 54, 7, 21, 7, 42, 180, 0, 175, 162, 0, 63, 22, 4]
def zw_cX7_slipsBy_2 : List UInt8 := [0, 63, 22, 4, 20, 1, 25, 105, 20, 1, 22, 113, 55, 4, 42, 180, 0, 62, 21, 7]
def zw_cX7_slipsBy_3 : List UInt8 := [0, 62, 21, 7, 22, 4, 20, 0, 235, 113, 21, 6, 133, 148, 156, 0, 18, 42, 28, 42]
def zw_cX7_slipsBy_4 : List UInt8 := [18, 42, 28, 42, 180, 0, 62, 21, 7, 46, 182, 0, 230, 167, 0, 10, 42, 180, 0, 62]
def zw_cX7_slipsBy_5 : List UInt8 := [42, 180, 0, 62, 21, 7, 46, 79, 132, 7, 1, 167, 255, 190, 42, 42, 28, 182, 0, 169]
def zw_cX7_slipsBy_6 : List UInt8 := [28, 182, 0, 169, 42, 28, 182, 0, 172, 182, 0, 194, 173]
def zw_cX7_slipsBy : List (List UInt8) := [zw_cX7_slipsBy_0, zw_cX7_slipsBy_1, zw_cX7_slipsBy_2, zw_cX7_slipsBy_3, zw_cX7_slipsBy_4, zw_cX7_slipsBy_5, zw_cX7_slipsBy_6]
theorem zw_cX7_slipsBy_ok : zwin 7 cX7_slipsBy.data.toList = zw_cX7_slipsBy := by decide +kernel
theorem dX7_slipsBy_0 : decode cX7_slipsBy 0 = .ok (.iload_n 1, 1) := zr0 zk_27 (zat_w (k := 0) (p := 0) (w := zw_cX7_slipsBy_0) zw_cX7_slipsBy_ok rfl (by decide +kernel))
theorem dX7_slipsBy_1 : decode cX7_slipsBy 1 = .ok (.i2l, 1) := zr0 zk_133 (zat_w (k := 0) (p := 1) (w := zw_cX7_slipsBy_0) zw_cX7_slipsBy_ok rfl (by decide +kernel))
theorem dX7_slipsBy_2 : decode cX7_slipsBy 2 = .ok (.lconst 1, 1) := zr0 zk_10 (zat_w (k := 0) (p := 2) (w := zw_cX7_slipsBy_0) zw_cX7_slipsBy_ok rfl (by decide +kernel))
theorem dX7_slipsBy_3 : decode cX7_slipsBy 3 = .ok (.ladd, 1) := zr0 zk_97 (zat_w (k := 0) (p := 3) (w := zw_cX7_slipsBy_0) zw_cX7_slipsBy_ok rfl (by decide +kernel))
theorem dX7_slipsBy_4 : decode cX7_slipsBy 4 = .ok (.lstore 4, 2) := zr1u zk_55 (x0 := 4) (zat_w (k := 0) (p := 4) (w := zw_cX7_slipsBy_0) zw_cX7_slipsBy_ok rfl (by decide +kernel)) (by decide +kernel)
theorem dX7_slipsBy_6 : decode cX7_slipsBy 6 = .ok (.aload_n 0, 1) := zr0 zk_42 (zat_w (k := 0) (p := 6) (w := zw_cX7_slipsBy_0) zw_cX7_slipsBy_ok rfl (by decide +kernel))
theorem dX7_slipsBy_7 : decode cX7_slipsBy 7 = .ok (.iconst 1, 1) := zr0 zk_4 (zat_w (k := 0) (p := 7) (w := zw_cX7_slipsBy_0) zw_cX7_slipsBy_ok rfl (by decide +kernel))
theorem dX7_slipsBy_8 : decode cX7_slipsBy 8 = .ok (.iload_n 2, 1) := zr0 zk_28 (zat_w (k := 0) (p := 8) (w := zw_cX7_slipsBy_0) zw_cX7_slipsBy_ok rfl (by decide +kernel))
theorem dX7_slipsBy_9 : decode cX7_slipsBy 9 = .ok (.iload_n 3, 1) := zr0 zk_29 (zat_w (k := 0) (p := 9) (w := zw_cX7_slipsBy_0) zw_cX7_slipsBy_ok rfl (by decide +kernel))
theorem dX7_slipsBy_10 : decode cX7_slipsBy 10 = .ok (.iconst 0, 1) := zr0 zk_3 (zat_w (k := 0) (p := 10) (w := zw_cX7_slipsBy_0) zw_cX7_slipsBy_ok rfl (by decide +kernel))
theorem dX7_slipsBy_11 : decode cX7_slipsBy 11 = .ok (.invokevirtual 165, 3) := zr2u zk_182 (x0 := 0) (x1 := 165) (zat_w (k := 0) (p := 11) (w := zw_cX7_slipsBy_0) zw_cX7_slipsBy_ok rfl (by decide +kernel)) (by decide +kernel)
theorem dX7_slipsBy_14 : decode cX7_slipsBy 14 = .ok (.istore 6, 2) := zr1u zk_54 (x0 := 6) (zat_w (k := 0) (p := 14) (w := zw_cX7_slipsBy_0) zw_cX7_slipsBy_ok rfl (by decide +kernel)) (by decide +kernel)
theorem dX7_slipsBy_16 : decode cX7_slipsBy 16 = .ok (.aload_n 0, 1) := zr0 zk_42 (zat_w (k := 1) (p := 0) (w := zw_cX7_slipsBy_1) zw_cX7_slipsBy_ok rfl (by decide +kernel))
theorem dX7_slipsBy_17 : decode cX7_slipsBy 17 = .ok (.iload_n 2, 1) := zr0 zk_28 (zat_w (k := 1) (p := 1) (w := zw_cX7_slipsBy_1) zw_cX7_slipsBy_ok rfl (by decide +kernel))
theorem dX7_slipsBy_18 : decode cX7_slipsBy 18 = .ok (.iload_n 3, 1) := zr0 zk_29 (zat_w (k := 1) (p := 2) (w := zw_cX7_slipsBy_1) zw_cX7_slipsBy_ok rfl (by decide +kernel))
theorem dX7_slipsBy_19 : decode cX7_slipsBy 19 = .ok (.invokevirtual 186, 3) := zr2u zk_182 (x0 := 0) (x1 := 186) (zat_w (k := 1) (p := 3) (w := zw_cX7_slipsBy_1) zw_cX7_slipsBy_ok rfl (by decide +kernel)) (by decide +kernel)
theorem dX7_slipsBy_22 : decode cX7_slipsBy 22 = .ok (.iconst 0, 1) := zr0 zk_3 (zat_w (k := 1) (p := 6) (w := zw_cX7_slipsBy_1) zw_cX7_slipsBy_ok rfl (by decide +kernel))
theorem dX7_slipsBy_23 : decode cX7_slipsBy 23 = .ok (.istore 7, 2) := zr1u zk_54 (x0 := 7) (zat_w (k := 1) (p := 7) (w := zw_cX7_slipsBy_1) zw_cX7_slipsBy_ok rfl (by decide +kernel)) (by decide +kernel)
theorem dX7_slipsBy_25 : decode cX7_slipsBy 25 = .ok (.iload 7, 2) := zr1u zk_21 (x0 := 7) (zat_w (k := 1) (p := 9) (w := zw_cX7_slipsBy_1) zw_cX7_slipsBy_ok rfl (by decide +kernel)) (by decide +kernel)
theorem dX7_slipsBy_27 : decode cX7_slipsBy 27 = .ok (.aload_n 0, 1) := zr0 zk_42 (zat_w (k := 1) (p := 11) (w := zw_cX7_slipsBy_1) zw_cX7_slipsBy_ok rfl (by decide +kernel))
theorem dX7_slipsBy_28 : decode cX7_slipsBy 28 = .ok (.getfield 175, 3) := zr2u zk_180 (x0 := 0) (x1 := 175) (zat_w (k := 1) (p := 12) (w := zw_cX7_slipsBy_1) zw_cX7_slipsBy_ok rfl (by decide +kernel)) (by decide +kernel)
theorem dX7_slipsBy_31 : decode cX7_slipsBy 31 = .ok (.if_icmp .ge 63, 3) := zr2s zk_162 (x0 := 0) (x1 := 63) (zat_w (k := 1) (p := 15) (w := zw_cX7_slipsBy_1) zw_cX7_slipsBy_ok rfl (by decide +kernel)) (by decide +kernel)
theorem dX7_slipsBy_34 : decode cX7_slipsBy 34 = .ok (.lload 4, 2) := zr1u zk_22 (x0 := 4) (zat_w (k := 2) (p := 2) (w := zw_cX7_slipsBy_2) zw_cX7_slipsBy_ok rfl (by decide +kernel)) (by decide +kernel)
theorem dX7_slipsBy_36 : decode cX7_slipsBy 36 = .ok (.ldc2_w 281, 3) := zr2u zk_20 (x0 := 1) (x1 := 25) (zat_w (k := 2) (p := 4) (w := zw_cX7_slipsBy_2) zw_cX7_slipsBy_ok rfl (by decide +kernel)) (by decide +kernel)
theorem dX7_slipsBy_39 : decode cX7_slipsBy 39 = .ok (.lmul, 1) := zr0 zk_105 (zat_w (k := 2) (p := 7) (w := zw_cX7_slipsBy_2) zw_cX7_slipsBy_ok rfl (by decide +kernel))
theorem dX7_slipsBy_40 : decode cX7_slipsBy 40 = .ok (.ldc2_w 278, 3) := zr2u zk_20 (x0 := 1) (x1 := 22) (zat_w (k := 2) (p := 8) (w := zw_cX7_slipsBy_2) zw_cX7_slipsBy_ok rfl (by decide +kernel)) (by decide +kernel)
theorem dX7_slipsBy_43 : decode cX7_slipsBy 43 = .ok (.lrem, 1) := zr0 zk_113 (zat_w (k := 2) (p := 11) (w := zw_cX7_slipsBy_2) zw_cX7_slipsBy_ok rfl (by decide +kernel))
theorem dX7_slipsBy_44 : decode cX7_slipsBy 44 = .ok (.lstore 4, 2) := zr1u zk_55 (x0 := 4) (zat_w (k := 2) (p := 12) (w := zw_cX7_slipsBy_2) zw_cX7_slipsBy_ok rfl (by decide +kernel)) (by decide +kernel)
theorem dX7_slipsBy_46 : decode cX7_slipsBy 46 = .ok (.aload_n 0, 1) := zr0 zk_42 (zat_w (k := 2) (p := 14) (w := zw_cX7_slipsBy_2) zw_cX7_slipsBy_ok rfl (by decide +kernel))
theorem dX7_slipsBy_47 : decode cX7_slipsBy 47 = .ok (.getfield 62, 3) := zr2u zk_180 (x0 := 0) (x1 := 62) (zat_w (k := 2) (p := 15) (w := zw_cX7_slipsBy_2) zw_cX7_slipsBy_ok rfl (by decide +kernel)) (by decide +kernel)
theorem dX7_slipsBy_50 : decode cX7_slipsBy 50 = .ok (.iload 7, 2) := zr1u zk_21 (x0 := 7) (zat_w (k := 3) (p := 2) (w := zw_cX7_slipsBy_3) zw_cX7_slipsBy_ok rfl (by decide +kernel)) (by decide +kernel)
theorem dX7_slipsBy_52 : decode cX7_slipsBy 52 = .ok (.lload 4, 2) := zr1u zk_22 (x0 := 4) (zat_w (k := 3) (p := 4) (w := zw_cX7_slipsBy_3) zw_cX7_slipsBy_ok rfl (by decide +kernel)) (by decide +kernel)
theorem dX7_slipsBy_54 : decode cX7_slipsBy 54 = .ok (.ldc2_w 235, 3) := zr2u zk_20 (x0 := 0) (x1 := 235) (zat_w (k := 3) (p := 6) (w := zw_cX7_slipsBy_3) zw_cX7_slipsBy_ok rfl (by decide +kernel)) (by decide +kernel)
theorem dX7_slipsBy_57 : decode cX7_slipsBy 57 = .ok (.lrem, 1) := zr0 zk_113 (zat_w (k := 3) (p := 9) (w := zw_cX7_slipsBy_3) zw_cX7_slipsBy_ok rfl (by decide +kernel))
theorem dX7_slipsBy_58 : decode cX7_slipsBy 58 = .ok (.iload 6, 2) := zr1u zk_21 (x0 := 6) (zat_w (k := 3) (p := 10) (w := zw_cX7_slipsBy_3) zw_cX7_slipsBy_ok rfl (by decide +kernel)) (by decide +kernel)
theorem dX7_slipsBy_60 : decode cX7_slipsBy 60 = .ok (.i2l, 1) := zr0 zk_133 (zat_w (k := 3) (p := 12) (w := zw_cX7_slipsBy_3) zw_cX7_slipsBy_ok rfl (by decide +kernel))
theorem dX7_slipsBy_61 : decode cX7_slipsBy 61 = .ok (.lcmp, 1) := zr0 zk_148 (zat_w (k := 3) (p := 13) (w := zw_cX7_slipsBy_3) zw_cX7_slipsBy_ok rfl (by decide +kernel))
theorem dX7_slipsBy_62 : decode cX7_slipsBy 62 = .ok (.ifCond .ge 18, 3) := zr2s zk_156 (x0 := 0) (x1 := 18) (zat_w (k := 3) (p := 14) (w := zw_cX7_slipsBy_3) zw_cX7_slipsBy_ok rfl (by decide +kernel)) (by decide +kernel)
theorem dX7_slipsBy_65 : decode cX7_slipsBy 65 = .ok (.aload_n 0, 1) := zr0 zk_42 (zat_w (k := 4) (p := 1) (w := zw_cX7_slipsBy_4) zw_cX7_slipsBy_ok rfl (by decide +kernel))
theorem dX7_slipsBy_66 : decode cX7_slipsBy 66 = .ok (.iload_n 2, 1) := zr0 zk_28 (zat_w (k := 4) (p := 2) (w := zw_cX7_slipsBy_4) zw_cX7_slipsBy_ok rfl (by decide +kernel))
theorem dX7_slipsBy_67 : decode cX7_slipsBy 67 = .ok (.aload_n 0, 1) := zr0 zk_42 (zat_w (k := 4) (p := 3) (w := zw_cX7_slipsBy_4) zw_cX7_slipsBy_ok rfl (by decide +kernel))
theorem dX7_slipsBy_68 : decode cX7_slipsBy 68 = .ok (.getfield 62, 3) := zr2u zk_180 (x0 := 0) (x1 := 62) (zat_w (k := 4) (p := 4) (w := zw_cX7_slipsBy_4) zw_cX7_slipsBy_ok rfl (by decide +kernel)) (by decide +kernel)
theorem dX7_slipsBy_71 : decode cX7_slipsBy 71 = .ok (.iload 7, 2) := zr1u zk_21 (x0 := 7) (zat_w (k := 4) (p := 7) (w := zw_cX7_slipsBy_4) zw_cX7_slipsBy_ok rfl (by decide +kernel)) (by decide +kernel)
theorem dX7_slipsBy_73 : decode cX7_slipsBy 73 = .ok (.iaload, 1) := zr0 zk_46 (zat_w (k := 4) (p := 9) (w := zw_cX7_slipsBy_4) zw_cX7_slipsBy_ok rfl (by decide +kernel))
theorem dX7_slipsBy_74 : decode cX7_slipsBy 74 = .ok (.invokevirtual 230, 3) := zr2u zk_182 (x0 := 0) (x1 := 230) (zat_w (k := 4) (p := 10) (w := zw_cX7_slipsBy_4) zw_cX7_slipsBy_ok rfl (by decide +kernel)) (by decide +kernel)
theorem dX7_slipsBy_77 : decode cX7_slipsBy 77 = .ok (.goto 10, 3) := zr2s zk_167 (x0 := 0) (x1 := 10) (zat_w (k := 4) (p := 13) (w := zw_cX7_slipsBy_4) zw_cX7_slipsBy_ok rfl (by decide +kernel)) (by decide +kernel)
theorem dX7_slipsBy_80 : decode cX7_slipsBy 80 = .ok (.aload_n 0, 1) := zr0 zk_42 (zat_w (k := 5) (p := 0) (w := zw_cX7_slipsBy_5) zw_cX7_slipsBy_ok rfl (by decide +kernel))
theorem dX7_slipsBy_81 : decode cX7_slipsBy 81 = .ok (.getfield 62, 3) := zr2u zk_180 (x0 := 0) (x1 := 62) (zat_w (k := 5) (p := 1) (w := zw_cX7_slipsBy_5) zw_cX7_slipsBy_ok rfl (by decide +kernel)) (by decide +kernel)
theorem dX7_slipsBy_84 : decode cX7_slipsBy 84 = .ok (.iload 7, 2) := zr1u zk_21 (x0 := 7) (zat_w (k := 5) (p := 4) (w := zw_cX7_slipsBy_5) zw_cX7_slipsBy_ok rfl (by decide +kernel)) (by decide +kernel)
theorem dX7_slipsBy_86 : decode cX7_slipsBy 86 = .ok (.iaload, 1) := zr0 zk_46 (zat_w (k := 5) (p := 6) (w := zw_cX7_slipsBy_5) zw_cX7_slipsBy_ok rfl (by decide +kernel))
theorem dX7_slipsBy_87 : decode cX7_slipsBy 87 = .ok (.iastore, 1) := zr0 zk_79 (zat_w (k := 5) (p := 7) (w := zw_cX7_slipsBy_5) zw_cX7_slipsBy_ok rfl (by decide +kernel))
theorem dX7_slipsBy_88 : decode cX7_slipsBy 88 = .ok (.iinc 7 1, 3) := zrii zk_132 (x0 := 7) (x1 := 1) (zat_w (k := 5) (p := 8) (w := zw_cX7_slipsBy_5) zw_cX7_slipsBy_ok rfl (by decide +kernel)) (by decide +kernel)
theorem dX7_slipsBy_91 : decode cX7_slipsBy 91 = .ok (.goto (-66), 3) := zr2s zk_167 (x0 := 255) (x1 := 190) (zat_w (k := 5) (p := 11) (w := zw_cX7_slipsBy_5) zw_cX7_slipsBy_ok rfl (by decide +kernel)) (by decide +kernel)
theorem dX7_slipsBy_94 : decode cX7_slipsBy 94 = .ok (.aload_n 0, 1) := zr0 zk_42 (zat_w (k := 5) (p := 14) (w := zw_cX7_slipsBy_5) zw_cX7_slipsBy_ok rfl (by decide +kernel))
theorem dX7_slipsBy_95 : decode cX7_slipsBy 95 = .ok (.aload_n 0, 1) := zr0 zk_42 (zat_w (k := 5) (p := 15) (w := zw_cX7_slipsBy_5) zw_cX7_slipsBy_ok rfl (by decide +kernel))
theorem dX7_slipsBy_96 : decode cX7_slipsBy 96 = .ok (.iload_n 2, 1) := zr0 zk_28 (zat_w (k := 6) (p := 0) (w := zw_cX7_slipsBy_6) zw_cX7_slipsBy_ok rfl (by decide +kernel))
theorem dX7_slipsBy_97 : decode cX7_slipsBy 97 = .ok (.invokevirtual 169, 3) := zr2u zk_182 (x0 := 0) (x1 := 169) (zat_w (k := 6) (p := 1) (w := zw_cX7_slipsBy_6) zw_cX7_slipsBy_ok rfl (by decide +kernel)) (by decide +kernel)
theorem dX7_slipsBy_100 : decode cX7_slipsBy 100 = .ok (.aload_n 0, 1) := zr0 zk_42 (zat_w (k := 6) (p := 4) (w := zw_cX7_slipsBy_6) zw_cX7_slipsBy_ok rfl (by decide +kernel))
theorem dX7_slipsBy_101 : decode cX7_slipsBy 101 = .ok (.iload_n 2, 1) := zr0 zk_28 (zat_w (k := 6) (p := 5) (w := zw_cX7_slipsBy_6) zw_cX7_slipsBy_ok rfl (by decide +kernel))
theorem dX7_slipsBy_102 : decode cX7_slipsBy 102 = .ok (.invokevirtual 172, 3) := zr2u zk_182 (x0 := 0) (x1 := 172) (zat_w (k := 6) (p := 6) (w := zw_cX7_slipsBy_6) zw_cX7_slipsBy_ok rfl (by decide +kernel)) (by decide +kernel)
theorem dX7_slipsBy_105 : decode cX7_slipsBy 105 = .ok (.invokevirtual 194, 3) := zr2u zk_182 (x0 := 0) (x1 := 194) (zat_w (k := 6) (p := 9) (w := zw_cX7_slipsBy_6) zw_cX7_slipsBy_ok rfl (by decide +kernel)) (by decide +kernel)
theorem dX7_slipsBy_108 : decode cX7_slipsBy 108 = .ok (.lreturn, 1) := zr0 zk_173 (zat_w (k := 6) (p := 12) (w := zw_cX7_slipsBy_6) zw_cX7_slipsBy_ok rfl (by decide +kernel))
theorem dX7_drawn_0 : decode cX7_drawn 0 = .ok (.aload_n 0, 1) := zr0 zk_42 (zat_s (by decide +kernel))
theorem dX7_drawn_1 : decode cX7_drawn 1 = .ok (.iload_n 2, 1) := zr0 zk_28 (zat_s (by decide +kernel))
theorem dX7_drawn_2 : decode cX7_drawn 2 = .ok (.invokevirtual 159, 3) := zr2u zk_182 (x0 := 0) (x1 := 159) (zat_s (by decide +kernel)) (by decide +kernel)
theorem dX7_drawn_5 : decode cX7_drawn 5 = .ok (.ifCond .ne 7, 3) := zr2s zk_154 (x0 := 0) (x1 := 7) (zat_s (by decide +kernel)) (by decide +kernel)
theorem dX7_drawn_8 : decode cX7_drawn 8 = .ok (.ldc2_w 190, 3) := zr2u zk_20 (x0 := 0) (x1 := 190) (zat_s (by decide +kernel)) (by decide +kernel)
theorem dX7_drawn_11 : decode cX7_drawn 11 = .ok (.lreturn, 1) := zr0 zk_173 (zat_s (by decide +kernel))
theorem dX7_drawn_12 : decode cX7_drawn 12 = .ok (.iload_n 1, 1) := zr0 zk_27 (zat_s (by decide +kernel))
theorem dX7_drawn_13 : decode cX7_drawn 13 = .ok (.iconst 0, 1) := zr0 zk_3 (zat_s (by decide +kernel))
theorem dX7_drawn_14 : decode cX7_drawn 14 = .ok (.ldc 79, 2) := zr1u zk_18 (x0 := 79) (zat_s (by decide +kernel)) (by decide +kernel)
theorem dX7_drawn_16 : decode cX7_drawn 16 = .ok (.invokestatic 75, 3) := zr2u zk_184 (x0 := 0) (x1 := 75) (zat_s (by decide +kernel)) (by decide +kernel)
theorem dX7_drawn_19 : decode cX7_drawn 19 = .ok (.ifCond .eq 20, 3) := zr2s zk_153 (x0 := 0) (x1 := 20) (zat_s (by decide +kernel)) (by decide +kernel)
theorem dX7_drawn_22 : decode cX7_drawn 22 = .ok (.iload_n 3, 1) := zr0 zk_29 (zat_s (by decide +kernel))
theorem dX7_drawn_23 : decode cX7_drawn 23 = .ok (.invokestatic 162, 3) := zr2u zk_184 (x0 := 0) (x1 := 162) (zat_s (by decide +kernel)) (by decide +kernel)
theorem dX7_drawn_26 : decode cX7_drawn 26 = .ok (.ifCond .eq 13, 3) := zr2s zk_153 (x0 := 0) (x1 := 13) (zat_s (by decide +kernel)) (by decide +kernel)
theorem dX7_drawn_29 : decode cX7_drawn 29 = .ok (.aload_n 0, 1) := zr0 zk_42 (zat_s (by decide +kernel))
theorem dX7_drawn_30 : decode cX7_drawn 30 = .ok (.iload_n 1, 1) := zr0 zk_27 (zat_s (by decide +kernel))
theorem dX7_drawn_31 : decode cX7_drawn 31 = .ok (.iload_n 2, 1) := zr0 zk_28 (zat_s (by decide +kernel))
theorem dX7_drawn_32 : decode cX7_drawn 32 = .ok (.iload_n 3, 1) := zr0 zk_29 (zat_s (by decide +kernel))
theorem dX7_drawn_33 : decode cX7_drawn 33 = .ok (.invokevirtual 283, 3) := zr2u zk_182 (x0 := 1) (x1 := 27) (zat_s (by decide +kernel)) (by decide +kernel)
theorem dX7_drawn_36 : decode cX7_drawn 36 = .ok (.goto 6, 3) := zr2s zk_167 (x0 := 0) (x1 := 6) (zat_s (by decide +kernel)) (by decide +kernel)
theorem dX7_drawn_39 : decode cX7_drawn 39 = .ok (.ldc2_w 192, 3) := zr2u zk_20 (x0 := 0) (x1 := 192) (zat_s (by decide +kernel)) (by decide +kernel)
theorem dX7_drawn_42 : decode cX7_drawn 42 = .ok (.lreturn, 1) := zr0 zk_173 (zat_s (by decide +kernel))
def zw_cX7_lowest_0 : List UInt8 := [30, 9, 148, 154, 0, 7, 21, 4, 133, 173, 30, 55, 5, 32, 55, 7, 22, 7, 9, 148]
def zw_cX7_lowest_1 : List UInt8 := [22, 7, 9, 148, 153, 0, 21, 22, 5, 22, 7, 113, 55, 9, 22, 7, 55, 5, 22, 9]
def zw_cX7_lowest_2 : List UInt8 := [55, 5, 22, 9, 55, 7, 167, 255, 234, 21, 4, 154, 0, 7, 30, 167, 0, 4, 32, 22]
def zw_cX7_lowest_3 : List UInt8 := [0, 4, 32, 22, 5, 109, 173]
def zw_cX7_lowest : List (List UInt8) := [zw_cX7_lowest_0, zw_cX7_lowest_1, zw_cX7_lowest_2, zw_cX7_lowest_3]
theorem zw_cX7_lowest_ok : zwin 4 cX7_lowest.data.toList = zw_cX7_lowest := by decide +kernel
theorem dX7_lowest_0 : decode cX7_lowest 0 = .ok (.lload_n 0, 1) := zr0 zk_30 (zat_w (k := 0) (p := 0) (w := zw_cX7_lowest_0) zw_cX7_lowest_ok rfl (by decide +kernel))
theorem dX7_lowest_1 : decode cX7_lowest 1 = .ok (.lconst 0, 1) := zr0 zk_9 (zat_w (k := 0) (p := 1) (w := zw_cX7_lowest_0) zw_cX7_lowest_ok rfl (by decide +kernel))
theorem dX7_lowest_2 : decode cX7_lowest 2 = .ok (.lcmp, 1) := zr0 zk_148 (zat_w (k := 0) (p := 2) (w := zw_cX7_lowest_0) zw_cX7_lowest_ok rfl (by decide +kernel))
theorem dX7_lowest_3 : decode cX7_lowest 3 = .ok (.ifCond .ne 7, 3) := zr2s zk_154 (x0 := 0) (x1 := 7) (zat_w (k := 0) (p := 3) (w := zw_cX7_lowest_0) zw_cX7_lowest_ok rfl (by decide +kernel)) (by decide +kernel)
theorem dX7_lowest_6 : decode cX7_lowest 6 = .ok (.iload 4, 2) := zr1u zk_21 (x0 := 4) (zat_w (k := 0) (p := 6) (w := zw_cX7_lowest_0) zw_cX7_lowest_ok rfl (by decide +kernel)) (by decide +kernel)
theorem dX7_lowest_8 : decode cX7_lowest 8 = .ok (.i2l, 1) := zr0 zk_133 (zat_w (k := 0) (p := 8) (w := zw_cX7_lowest_0) zw_cX7_lowest_ok rfl (by decide +kernel))
theorem dX7_lowest_9 : decode cX7_lowest 9 = .ok (.lreturn, 1) := zr0 zk_173 (zat_w (k := 0) (p := 9) (w := zw_cX7_lowest_0) zw_cX7_lowest_ok rfl (by decide +kernel))
theorem dX7_lowest_10 : decode cX7_lowest 10 = .ok (.lload_n 0, 1) := zr0 zk_30 (zat_w (k := 0) (p := 10) (w := zw_cX7_lowest_0) zw_cX7_lowest_ok rfl (by decide +kernel))
theorem dX7_lowest_11 : decode cX7_lowest 11 = .ok (.lstore 5, 2) := zr1u zk_55 (x0 := 5) (zat_w (k := 0) (p := 11) (w := zw_cX7_lowest_0) zw_cX7_lowest_ok rfl (by decide +kernel)) (by decide +kernel)
theorem dX7_lowest_13 : decode cX7_lowest 13 = .ok (.lload_n 2, 1) := zr0 zk_32 (zat_w (k := 0) (p := 13) (w := zw_cX7_lowest_0) zw_cX7_lowest_ok rfl (by decide +kernel))
theorem dX7_lowest_14 : decode cX7_lowest 14 = .ok (.lstore 7, 2) := zr1u zk_55 (x0 := 7) (zat_w (k := 0) (p := 14) (w := zw_cX7_lowest_0) zw_cX7_lowest_ok rfl (by decide +kernel)) (by decide +kernel)
theorem dX7_lowest_16 : decode cX7_lowest 16 = .ok (.lload 7, 2) := zr1u zk_22 (x0 := 7) (zat_w (k := 1) (p := 0) (w := zw_cX7_lowest_1) zw_cX7_lowest_ok rfl (by decide +kernel)) (by decide +kernel)
theorem dX7_lowest_18 : decode cX7_lowest 18 = .ok (.lconst 0, 1) := zr0 zk_9 (zat_w (k := 1) (p := 2) (w := zw_cX7_lowest_1) zw_cX7_lowest_ok rfl (by decide +kernel))
theorem dX7_lowest_19 : decode cX7_lowest 19 = .ok (.lcmp, 1) := zr0 zk_148 (zat_w (k := 1) (p := 3) (w := zw_cX7_lowest_1) zw_cX7_lowest_ok rfl (by decide +kernel))
theorem dX7_lowest_20 : decode cX7_lowest 20 = .ok (.ifCond .eq 21, 3) := zr2s zk_153 (x0 := 0) (x1 := 21) (zat_w (k := 1) (p := 4) (w := zw_cX7_lowest_1) zw_cX7_lowest_ok rfl (by decide +kernel)) (by decide +kernel)
theorem dX7_lowest_23 : decode cX7_lowest 23 = .ok (.lload 5, 2) := zr1u zk_22 (x0 := 5) (zat_w (k := 1) (p := 7) (w := zw_cX7_lowest_1) zw_cX7_lowest_ok rfl (by decide +kernel)) (by decide +kernel)
theorem dX7_lowest_25 : decode cX7_lowest 25 = .ok (.lload 7, 2) := zr1u zk_22 (x0 := 7) (zat_w (k := 1) (p := 9) (w := zw_cX7_lowest_1) zw_cX7_lowest_ok rfl (by decide +kernel)) (by decide +kernel)
theorem dX7_lowest_27 : decode cX7_lowest 27 = .ok (.lrem, 1) := zr0 zk_113 (zat_w (k := 1) (p := 11) (w := zw_cX7_lowest_1) zw_cX7_lowest_ok rfl (by decide +kernel))
theorem dX7_lowest_28 : decode cX7_lowest 28 = .ok (.lstore 9, 2) := zr1u zk_55 (x0 := 9) (zat_w (k := 1) (p := 12) (w := zw_cX7_lowest_1) zw_cX7_lowest_ok rfl (by decide +kernel)) (by decide +kernel)
theorem dX7_lowest_30 : decode cX7_lowest 30 = .ok (.lload 7, 2) := zr1u zk_22 (x0 := 7) (zat_w (k := 1) (p := 14) (w := zw_cX7_lowest_1) zw_cX7_lowest_ok rfl (by decide +kernel)) (by decide +kernel)
theorem dX7_lowest_32 : decode cX7_lowest 32 = .ok (.lstore 5, 2) := zr1u zk_55 (x0 := 5) (zat_w (k := 2) (p := 0) (w := zw_cX7_lowest_2) zw_cX7_lowest_ok rfl (by decide +kernel)) (by decide +kernel)
theorem dX7_lowest_34 : decode cX7_lowest 34 = .ok (.lload 9, 2) := zr1u zk_22 (x0 := 9) (zat_w (k := 2) (p := 2) (w := zw_cX7_lowest_2) zw_cX7_lowest_ok rfl (by decide +kernel)) (by decide +kernel)
theorem dX7_lowest_36 : decode cX7_lowest 36 = .ok (.lstore 7, 2) := zr1u zk_55 (x0 := 7) (zat_w (k := 2) (p := 4) (w := zw_cX7_lowest_2) zw_cX7_lowest_ok rfl (by decide +kernel)) (by decide +kernel)
theorem dX7_lowest_38 : decode cX7_lowest 38 = .ok (.goto (-22), 3) := zr2s zk_167 (x0 := 255) (x1 := 234) (zat_w (k := 2) (p := 6) (w := zw_cX7_lowest_2) zw_cX7_lowest_ok rfl (by decide +kernel)) (by decide +kernel)
theorem dX7_lowest_41 : decode cX7_lowest 41 = .ok (.iload 4, 2) := zr1u zk_21 (x0 := 4) (zat_w (k := 2) (p := 9) (w := zw_cX7_lowest_2) zw_cX7_lowest_ok rfl (by decide +kernel)) (by decide +kernel)
theorem dX7_lowest_43 : decode cX7_lowest 43 = .ok (.ifCond .ne 7, 3) := zr2s zk_154 (x0 := 0) (x1 := 7) (zat_w (k := 2) (p := 11) (w := zw_cX7_lowest_2) zw_cX7_lowest_ok rfl (by decide +kernel)) (by decide +kernel)
theorem dX7_lowest_46 : decode cX7_lowest 46 = .ok (.lload_n 0, 1) := zr0 zk_30 (zat_w (k := 2) (p := 14) (w := zw_cX7_lowest_2) zw_cX7_lowest_ok rfl (by decide +kernel))
theorem dX7_lowest_47 : decode cX7_lowest 47 = .ok (.goto 4, 3) := zr2s zk_167 (x0 := 0) (x1 := 4) (zat_w (k := 2) (p := 15) (w := zw_cX7_lowest_2) zw_cX7_lowest_ok rfl (by decide +kernel)) (by decide +kernel)
theorem dX7_lowest_50 : decode cX7_lowest 50 = .ok (.lload_n 2, 1) := zr0 zk_32 (zat_w (k := 3) (p := 2) (w := zw_cX7_lowest_3) zw_cX7_lowest_ok rfl (by decide +kernel))
theorem dX7_lowest_51 : decode cX7_lowest 51 = .ok (.lload 5, 2) := zr1u zk_22 (x0 := 5) (zat_w (k := 3) (p := 3) (w := zw_cX7_lowest_3) zw_cX7_lowest_ok rfl (by decide +kernel)) (by decide +kernel)
theorem dX7_lowest_53 : decode cX7_lowest 53 = .ok (.ldiv, 1) := zr0 zk_109 (zat_w (k := 3) (p := 5) (w := zw_cX7_lowest_3) zw_cX7_lowest_ok rfl (by decide +kernel))
theorem dX7_lowest_54 : decode cX7_lowest 54 = .ok (.lreturn, 1) := zr0 zk_173 (zat_w (k := 3) (p := 6) (w := zw_cX7_lowest_3) zw_cX7_lowest_ok rfl (by decide +kernel))
def zw_cX7_odds_0 : List UInt8 := [27, 3, 18, 79, 184, 0, 75, 153, 0, 39, 28, 4, 16, 60, 184, 0, 75, 153, 0, 29]
def zw_cX7_odds_1 : List UInt8 := [75, 153, 0, 29, 42, 29, 182, 0, 159, 153, 0, 21, 21, 4, 184, 0, 162, 153, 0, 13]
def zw_cX7_odds_2 : List UInt8 := [162, 153, 0, 13, 21, 5, 3, 4, 184, 0, 75, 154, 0, 7, 20, 1, 30, 173, 42, 29]
def zw_cX7_odds_3 : List UInt8 := [30, 173, 42, 29, 21, 4, 182, 0, 186, 42, 42, 29, 182, 0, 169, 42, 29, 182, 0, 172]
def zw_cX7_odds_4 : List UInt8 := [29, 182, 0, 172, 182, 0, 194, 55, 6, 9, 55, 8, 3, 54, 10, 21, 10, 28, 162, 0]
def zw_cX7_odds_5 : List UInt8 := [10, 28, 162, 0, 36, 22, 8, 42, 27, 21, 10, 96, 29, 21, 4, 182, 1, 27, 22, 6]
def zw_cX7_odds_6 : List UInt8 := [1, 27, 22, 6, 148, 154, 0, 7, 10, 167, 0, 4, 9, 97, 55, 8, 132, 10, 1, 167]
def zw_cX7_odds_7 : List UInt8 := [132, 10, 1, 167, 255, 220, 22, 8, 28, 133, 21, 5, 184, 1, 32, 173]
def zw_cX7_odds : List (List UInt8) := [zw_cX7_odds_0, zw_cX7_odds_1, zw_cX7_odds_2, zw_cX7_odds_3, zw_cX7_odds_4, zw_cX7_odds_5, zw_cX7_odds_6, zw_cX7_odds_7]
theorem zw_cX7_odds_ok : zwin 8 cX7_odds.data.toList = zw_cX7_odds := by decide +kernel
theorem dX7_odds_0 : decode cX7_odds 0 = .ok (.iload_n 1, 1) := zr0 zk_27 (zat_w (k := 0) (p := 0) (w := zw_cX7_odds_0) zw_cX7_odds_ok rfl (by decide +kernel))
theorem dX7_odds_1 : decode cX7_odds 1 = .ok (.iconst 0, 1) := zr0 zk_3 (zat_w (k := 0) (p := 1) (w := zw_cX7_odds_0) zw_cX7_odds_ok rfl (by decide +kernel))
theorem dX7_odds_2 : decode cX7_odds 2 = .ok (.ldc 79, 2) := zr1u zk_18 (x0 := 79) (zat_w (k := 0) (p := 2) (w := zw_cX7_odds_0) zw_cX7_odds_ok rfl (by decide +kernel)) (by decide +kernel)
theorem dX7_odds_4 : decode cX7_odds 4 = .ok (.invokestatic 75, 3) := zr2u zk_184 (x0 := 0) (x1 := 75) (zat_w (k := 0) (p := 4) (w := zw_cX7_odds_0) zw_cX7_odds_ok rfl (by decide +kernel)) (by decide +kernel)
theorem dX7_odds_7 : decode cX7_odds 7 = .ok (.ifCond .eq 39, 3) := zr2s zk_153 (x0 := 0) (x1 := 39) (zat_w (k := 0) (p := 7) (w := zw_cX7_odds_0) zw_cX7_odds_ok rfl (by decide +kernel)) (by decide +kernel)
theorem dX7_odds_10 : decode cX7_odds 10 = .ok (.iload_n 2, 1) := zr0 zk_28 (zat_w (k := 0) (p := 10) (w := zw_cX7_odds_0) zw_cX7_odds_ok rfl (by decide +kernel))
theorem dX7_odds_11 : decode cX7_odds 11 = .ok (.iconst 1, 1) := zr0 zk_4 (zat_w (k := 0) (p := 11) (w := zw_cX7_odds_0) zw_cX7_odds_ok rfl (by decide +kernel))
theorem dX7_odds_12 : decode cX7_odds 12 = .ok (.bipush 60, 2) := zr1s zk_16 (x0 := 60) (zat_w (k := 0) (p := 12) (w := zw_cX7_odds_0) zw_cX7_odds_ok rfl (by decide +kernel)) (by decide +kernel)
theorem dX7_odds_14 : decode cX7_odds 14 = .ok (.invokestatic 75, 3) := zr2u zk_184 (x0 := 0) (x1 := 75) (zat_w (k := 0) (p := 14) (w := zw_cX7_odds_0) zw_cX7_odds_ok rfl (by decide +kernel)) (by decide +kernel)
theorem dX7_odds_17 : decode cX7_odds 17 = .ok (.ifCond .eq 29, 3) := zr2s zk_153 (x0 := 0) (x1 := 29) (zat_w (k := 1) (p := 1) (w := zw_cX7_odds_1) zw_cX7_odds_ok rfl (by decide +kernel)) (by decide +kernel)
theorem dX7_odds_20 : decode cX7_odds 20 = .ok (.aload_n 0, 1) := zr0 zk_42 (zat_w (k := 1) (p := 4) (w := zw_cX7_odds_1) zw_cX7_odds_ok rfl (by decide +kernel))
theorem dX7_odds_21 : decode cX7_odds 21 = .ok (.iload_n 3, 1) := zr0 zk_29 (zat_w (k := 1) (p := 5) (w := zw_cX7_odds_1) zw_cX7_odds_ok rfl (by decide +kernel))
theorem dX7_odds_22 : decode cX7_odds 22 = .ok (.invokevirtual 159, 3) := zr2u zk_182 (x0 := 0) (x1 := 159) (zat_w (k := 1) (p := 6) (w := zw_cX7_odds_1) zw_cX7_odds_ok rfl (by decide +kernel)) (by decide +kernel)
theorem dX7_odds_25 : decode cX7_odds 25 = .ok (.ifCond .eq 21, 3) := zr2s zk_153 (x0 := 0) (x1 := 21) (zat_w (k := 1) (p := 9) (w := zw_cX7_odds_1) zw_cX7_odds_ok rfl (by decide +kernel)) (by decide +kernel)
theorem dX7_odds_28 : decode cX7_odds 28 = .ok (.iload 4, 2) := zr1u zk_21 (x0 := 4) (zat_w (k := 1) (p := 12) (w := zw_cX7_odds_1) zw_cX7_odds_ok rfl (by decide +kernel)) (by decide +kernel)
theorem dX7_odds_30 : decode cX7_odds 30 = .ok (.invokestatic 162, 3) := zr2u zk_184 (x0 := 0) (x1 := 162) (zat_w (k := 1) (p := 14) (w := zw_cX7_odds_1) zw_cX7_odds_ok rfl (by decide +kernel)) (by decide +kernel)
theorem dX7_odds_33 : decode cX7_odds 33 = .ok (.ifCond .eq 13, 3) := zr2s zk_153 (x0 := 0) (x1 := 13) (zat_w (k := 2) (p := 1) (w := zw_cX7_odds_2) zw_cX7_odds_ok rfl (by decide +kernel)) (by decide +kernel)
theorem dX7_odds_36 : decode cX7_odds 36 = .ok (.iload 5, 2) := zr1u zk_21 (x0 := 5) (zat_w (k := 2) (p := 4) (w := zw_cX7_odds_2) zw_cX7_odds_ok rfl (by decide +kernel)) (by decide +kernel)
theorem dX7_odds_38 : decode cX7_odds 38 = .ok (.iconst 0, 1) := zr0 zk_3 (zat_w (k := 2) (p := 6) (w := zw_cX7_odds_2) zw_cX7_odds_ok rfl (by decide +kernel))
theorem dX7_odds_39 : decode cX7_odds 39 = .ok (.iconst 1, 1) := zr0 zk_4 (zat_w (k := 2) (p := 7) (w := zw_cX7_odds_2) zw_cX7_odds_ok rfl (by decide +kernel))
theorem dX7_odds_40 : decode cX7_odds 40 = .ok (.invokestatic 75, 3) := zr2u zk_184 (x0 := 0) (x1 := 75) (zat_w (k := 2) (p := 8) (w := zw_cX7_odds_2) zw_cX7_odds_ok rfl (by decide +kernel)) (by decide +kernel)
theorem dX7_odds_43 : decode cX7_odds 43 = .ok (.ifCond .ne 7, 3) := zr2s zk_154 (x0 := 0) (x1 := 7) (zat_w (k := 2) (p := 11) (w := zw_cX7_odds_2) zw_cX7_odds_ok rfl (by decide +kernel)) (by decide +kernel)
theorem dX7_odds_46 : decode cX7_odds 46 = .ok (.ldc2_w 286, 3) := zr2u zk_20 (x0 := 1) (x1 := 30) (zat_w (k := 2) (p := 14) (w := zw_cX7_odds_2) zw_cX7_odds_ok rfl (by decide +kernel)) (by decide +kernel)
theorem dX7_odds_49 : decode cX7_odds 49 = .ok (.lreturn, 1) := zr0 zk_173 (zat_w (k := 3) (p := 1) (w := zw_cX7_odds_3) zw_cX7_odds_ok rfl (by decide +kernel))
theorem dX7_odds_50 : decode cX7_odds 50 = .ok (.aload_n 0, 1) := zr0 zk_42 (zat_w (k := 3) (p := 2) (w := zw_cX7_odds_3) zw_cX7_odds_ok rfl (by decide +kernel))
theorem dX7_odds_51 : decode cX7_odds 51 = .ok (.iload_n 3, 1) := zr0 zk_29 (zat_w (k := 3) (p := 3) (w := zw_cX7_odds_3) zw_cX7_odds_ok rfl (by decide +kernel))
theorem dX7_odds_52 : decode cX7_odds 52 = .ok (.iload 4, 2) := zr1u zk_21 (x0 := 4) (zat_w (k := 3) (p := 4) (w := zw_cX7_odds_3) zw_cX7_odds_ok rfl (by decide +kernel)) (by decide +kernel)
theorem dX7_odds_54 : decode cX7_odds 54 = .ok (.invokevirtual 186, 3) := zr2u zk_182 (x0 := 0) (x1 := 186) (zat_w (k := 3) (p := 6) (w := zw_cX7_odds_3) zw_cX7_odds_ok rfl (by decide +kernel)) (by decide +kernel)
theorem dX7_odds_57 : decode cX7_odds 57 = .ok (.aload_n 0, 1) := zr0 zk_42 (zat_w (k := 3) (p := 9) (w := zw_cX7_odds_3) zw_cX7_odds_ok rfl (by decide +kernel))
theorem dX7_odds_58 : decode cX7_odds 58 = .ok (.aload_n 0, 1) := zr0 zk_42 (zat_w (k := 3) (p := 10) (w := zw_cX7_odds_3) zw_cX7_odds_ok rfl (by decide +kernel))
theorem dX7_odds_59 : decode cX7_odds 59 = .ok (.iload_n 3, 1) := zr0 zk_29 (zat_w (k := 3) (p := 11) (w := zw_cX7_odds_3) zw_cX7_odds_ok rfl (by decide +kernel))
theorem dX7_odds_60 : decode cX7_odds 60 = .ok (.invokevirtual 169, 3) := zr2u zk_182 (x0 := 0) (x1 := 169) (zat_w (k := 3) (p := 12) (w := zw_cX7_odds_3) zw_cX7_odds_ok rfl (by decide +kernel)) (by decide +kernel)
theorem dX7_odds_63 : decode cX7_odds 63 = .ok (.aload_n 0, 1) := zr0 zk_42 (zat_w (k := 3) (p := 15) (w := zw_cX7_odds_3) zw_cX7_odds_ok rfl (by decide +kernel))
theorem dX7_odds_64 : decode cX7_odds 64 = .ok (.iload_n 3, 1) := zr0 zk_29 (zat_w (k := 4) (p := 0) (w := zw_cX7_odds_4) zw_cX7_odds_ok rfl (by decide +kernel))
theorem dX7_odds_65 : decode cX7_odds 65 = .ok (.invokevirtual 172, 3) := zr2u zk_182 (x0 := 0) (x1 := 172) (zat_w (k := 4) (p := 1) (w := zw_cX7_odds_4) zw_cX7_odds_ok rfl (by decide +kernel)) (by decide +kernel)
theorem dX7_odds_68 : decode cX7_odds 68 = .ok (.invokevirtual 194, 3) := zr2u zk_182 (x0 := 0) (x1 := 194) (zat_w (k := 4) (p := 4) (w := zw_cX7_odds_4) zw_cX7_odds_ok rfl (by decide +kernel)) (by decide +kernel)
theorem dX7_odds_71 : decode cX7_odds 71 = .ok (.lstore 6, 2) := zr1u zk_55 (x0 := 6) (zat_w (k := 4) (p := 7) (w := zw_cX7_odds_4) zw_cX7_odds_ok rfl (by decide +kernel)) (by decide +kernel)
theorem dX7_odds_73 : decode cX7_odds 73 = .ok (.lconst 0, 1) := zr0 zk_9 (zat_w (k := 4) (p := 9) (w := zw_cX7_odds_4) zw_cX7_odds_ok rfl (by decide +kernel))
theorem dX7_odds_74 : decode cX7_odds 74 = .ok (.lstore 8, 2) := zr1u zk_55 (x0 := 8) (zat_w (k := 4) (p := 10) (w := zw_cX7_odds_4) zw_cX7_odds_ok rfl (by decide +kernel)) (by decide +kernel)
theorem dX7_odds_76 : decode cX7_odds 76 = .ok (.iconst 0, 1) := zr0 zk_3 (zat_w (k := 4) (p := 12) (w := zw_cX7_odds_4) zw_cX7_odds_ok rfl (by decide +kernel))
theorem dX7_odds_77 : decode cX7_odds 77 = .ok (.istore 10, 2) := zr1u zk_54 (x0 := 10) (zat_w (k := 4) (p := 13) (w := zw_cX7_odds_4) zw_cX7_odds_ok rfl (by decide +kernel)) (by decide +kernel)
theorem dX7_odds_79 : decode cX7_odds 79 = .ok (.iload 10, 2) := zr1u zk_21 (x0 := 10) (zat_w (k := 4) (p := 15) (w := zw_cX7_odds_4) zw_cX7_odds_ok rfl (by decide +kernel)) (by decide +kernel)
theorem dX7_odds_81 : decode cX7_odds 81 = .ok (.iload_n 2, 1) := zr0 zk_28 (zat_w (k := 5) (p := 1) (w := zw_cX7_odds_5) zw_cX7_odds_ok rfl (by decide +kernel))
theorem dX7_odds_82 : decode cX7_odds 82 = .ok (.if_icmp .ge 36, 3) := zr2s zk_162 (x0 := 0) (x1 := 36) (zat_w (k := 5) (p := 2) (w := zw_cX7_odds_5) zw_cX7_odds_ok rfl (by decide +kernel)) (by decide +kernel)
theorem dX7_odds_85 : decode cX7_odds 85 = .ok (.lload 8, 2) := zr1u zk_22 (x0 := 8) (zat_w (k := 5) (p := 5) (w := zw_cX7_odds_5) zw_cX7_odds_ok rfl (by decide +kernel)) (by decide +kernel)
theorem dX7_odds_87 : decode cX7_odds 87 = .ok (.aload_n 0, 1) := zr0 zk_42 (zat_w (k := 5) (p := 7) (w := zw_cX7_odds_5) zw_cX7_odds_ok rfl (by decide +kernel))
theorem dX7_odds_88 : decode cX7_odds 88 = .ok (.iload_n 1, 1) := zr0 zk_27 (zat_w (k := 5) (p := 8) (w := zw_cX7_odds_5) zw_cX7_odds_ok rfl (by decide +kernel))
theorem dX7_odds_89 : decode cX7_odds 89 = .ok (.iload 10, 2) := zr1u zk_21 (x0 := 10) (zat_w (k := 5) (p := 9) (w := zw_cX7_odds_5) zw_cX7_odds_ok rfl (by decide +kernel)) (by decide +kernel)
theorem dX7_odds_91 : decode cX7_odds 91 = .ok (.iadd, 1) := zr0 zk_96 (zat_w (k := 5) (p := 11) (w := zw_cX7_odds_5) zw_cX7_odds_ok rfl (by decide +kernel))
theorem dX7_odds_92 : decode cX7_odds 92 = .ok (.iload_n 3, 1) := zr0 zk_29 (zat_w (k := 5) (p := 12) (w := zw_cX7_odds_5) zw_cX7_odds_ok rfl (by decide +kernel))
theorem dX7_odds_93 : decode cX7_odds 93 = .ok (.iload 4, 2) := zr1u zk_21 (x0 := 4) (zat_w (k := 5) (p := 13) (w := zw_cX7_odds_5) zw_cX7_odds_ok rfl (by decide +kernel)) (by decide +kernel)
theorem dX7_odds_95 : decode cX7_odds 95 = .ok (.invokevirtual 283, 3) := zr2u zk_182 (x0 := 1) (x1 := 27) (zat_w (k := 5) (p := 15) (w := zw_cX7_odds_5) zw_cX7_odds_ok rfl (by decide +kernel)) (by decide +kernel)
theorem dX7_odds_98 : decode cX7_odds 98 = .ok (.lload 6, 2) := zr1u zk_22 (x0 := 6) (zat_w (k := 6) (p := 2) (w := zw_cX7_odds_6) zw_cX7_odds_ok rfl (by decide +kernel)) (by decide +kernel)
theorem dX7_odds_100 : decode cX7_odds 100 = .ok (.lcmp, 1) := zr0 zk_148 (zat_w (k := 6) (p := 4) (w := zw_cX7_odds_6) zw_cX7_odds_ok rfl (by decide +kernel))
theorem dX7_odds_101 : decode cX7_odds 101 = .ok (.ifCond .ne 7, 3) := zr2s zk_154 (x0 := 0) (x1 := 7) (zat_w (k := 6) (p := 5) (w := zw_cX7_odds_6) zw_cX7_odds_ok rfl (by decide +kernel)) (by decide +kernel)
theorem dX7_odds_104 : decode cX7_odds 104 = .ok (.lconst 1, 1) := zr0 zk_10 (zat_w (k := 6) (p := 8) (w := zw_cX7_odds_6) zw_cX7_odds_ok rfl (by decide +kernel))
theorem dX7_odds_105 : decode cX7_odds 105 = .ok (.goto 4, 3) := zr2s zk_167 (x0 := 0) (x1 := 4) (zat_w (k := 6) (p := 9) (w := zw_cX7_odds_6) zw_cX7_odds_ok rfl (by decide +kernel)) (by decide +kernel)
theorem dX7_odds_108 : decode cX7_odds 108 = .ok (.lconst 0, 1) := zr0 zk_9 (zat_w (k := 6) (p := 12) (w := zw_cX7_odds_6) zw_cX7_odds_ok rfl (by decide +kernel))
theorem dX7_odds_109 : decode cX7_odds 109 = .ok (.ladd, 1) := zr0 zk_97 (zat_w (k := 6) (p := 13) (w := zw_cX7_odds_6) zw_cX7_odds_ok rfl (by decide +kernel))
theorem dX7_odds_110 : decode cX7_odds 110 = .ok (.lstore 8, 2) := zr1u zk_55 (x0 := 8) (zat_w (k := 6) (p := 14) (w := zw_cX7_odds_6) zw_cX7_odds_ok rfl (by decide +kernel)) (by decide +kernel)
theorem dX7_odds_112 : decode cX7_odds 112 = .ok (.iinc 10 1, 3) := zrii zk_132 (x0 := 10) (x1 := 1) (zat_w (k := 7) (p := 0) (w := zw_cX7_odds_7) zw_cX7_odds_ok rfl (by decide +kernel)) (by decide +kernel)
theorem dX7_odds_115 : decode cX7_odds 115 = .ok (.goto (-36), 3) := zr2s zk_167 (x0 := 255) (x1 := 220) (zat_w (k := 7) (p := 3) (w := zw_cX7_odds_7) zw_cX7_odds_ok rfl (by decide +kernel)) (by decide +kernel)
theorem dX7_odds_118 : decode cX7_odds 118 = .ok (.lload 8, 2) := zr1u zk_22 (x0 := 8) (zat_w (k := 7) (p := 6) (w := zw_cX7_odds_7) zw_cX7_odds_ok rfl (by decide +kernel)) (by decide +kernel)
theorem dX7_odds_120 : decode cX7_odds 120 = .ok (.iload_n 2, 1) := zr0 zk_28 (zat_w (k := 7) (p := 8) (w := zw_cX7_odds_7) zw_cX7_odds_ok rfl (by decide +kernel))
theorem dX7_odds_121 : decode cX7_odds 121 = .ok (.i2l, 1) := zr0 zk_133 (zat_w (k := 7) (p := 9) (w := zw_cX7_odds_7) zw_cX7_odds_ok rfl (by decide +kernel))
theorem dX7_odds_122 : decode cX7_odds 122 = .ok (.iload 5, 2) := zr1u zk_21 (x0 := 5) (zat_w (k := 7) (p := 10) (w := zw_cX7_odds_7) zw_cX7_odds_ok rfl (by decide +kernel)) (by decide +kernel)
theorem dX7_odds_124 : decode cX7_odds 124 = .ok (.invokestatic 288, 3) := zr2u zk_184 (x0 := 1) (x1 := 32) (zat_w (k := 7) (p := 12) (w := zw_cX7_odds_7) zw_cX7_odds_ok rfl (by decide +kernel)) (by decide +kernel)
theorem dX7_odds_127 : decode cX7_odds 127 = .ok (.lreturn, 1) := zr0 zk_173 (zat_w (k := 7) (p := 15) (w := zw_cX7_odds_7) zw_cX7_odds_ok rfl (by decide +kernel))
def zw_cX7_image_0 : List UInt8 := [42, 4, 181, 1, 36, 42, 42, 180, 0, 72, 181, 1, 40, 42, 42, 180, 0, 7, 181, 1]
def zw_cX7_image_1 : List UInt8 := [0, 7, 181, 1, 43, 42, 42, 180, 0, 13, 181, 1, 46, 42, 42, 180, 0, 83, 181, 1]
def zw_cX7_image_2 : List UInt8 := [0, 83, 181, 1, 49, 3, 60, 27, 16, 36, 162, 0, 21, 42, 180, 0, 35, 27, 42, 180]
def zw_cX7_image_3 : List UInt8 := [35, 27, 42, 180, 0, 23, 27, 46, 79, 132, 1, 1, 167, 255, 235, 42, 180, 0, 72, 172]
def zw_cX7_image_4 : List UInt8 := [180, 0, 72, 172]
def zw_cX7_image : List (List UInt8) := [zw_cX7_image_0, zw_cX7_image_1, zw_cX7_image_2, zw_cX7_image_3, zw_cX7_image_4]
theorem zw_cX7_image_ok : zwin 5 cX7_image.data.toList = zw_cX7_image := by decide +kernel
theorem dX7_image_0 : decode cX7_image 0 = .ok (.aload_n 0, 1) := zr0 zk_42 (zat_w (k := 0) (p := 0) (w := zw_cX7_image_0) zw_cX7_image_ok rfl (by decide +kernel))
theorem dX7_image_1 : decode cX7_image 1 = .ok (.iconst 1, 1) := zr0 zk_4 (zat_w (k := 0) (p := 1) (w := zw_cX7_image_0) zw_cX7_image_ok rfl (by decide +kernel))
theorem dX7_image_2 : decode cX7_image 2 = .ok (.putfield 292, 3) := zr2u zk_181 (x0 := 1) (x1 := 36) (zat_w (k := 0) (p := 2) (w := zw_cX7_image_0) zw_cX7_image_ok rfl (by decide +kernel)) (by decide +kernel)
theorem dX7_image_5 : decode cX7_image 5 = .ok (.aload_n 0, 1) := zr0 zk_42 (zat_w (k := 0) (p := 5) (w := zw_cX7_image_0) zw_cX7_image_ok rfl (by decide +kernel))
theorem dX7_image_6 : decode cX7_image 6 = .ok (.aload_n 0, 1) := zr0 zk_42 (zat_w (k := 0) (p := 6) (w := zw_cX7_image_0) zw_cX7_image_ok rfl (by decide +kernel))
theorem dX7_image_7 : decode cX7_image 7 = .ok (.getfield 72, 3) := zr2u zk_180 (x0 := 0) (x1 := 72) (zat_w (k := 0) (p := 7) (w := zw_cX7_image_0) zw_cX7_image_ok rfl (by decide +kernel)) (by decide +kernel)
theorem dX7_image_10 : decode cX7_image 10 = .ok (.putfield 296, 3) := zr2u zk_181 (x0 := 1) (x1 := 40) (zat_w (k := 0) (p := 10) (w := zw_cX7_image_0) zw_cX7_image_ok rfl (by decide +kernel)) (by decide +kernel)
theorem dX7_image_13 : decode cX7_image 13 = .ok (.aload_n 0, 1) := zr0 zk_42 (zat_w (k := 0) (p := 13) (w := zw_cX7_image_0) zw_cX7_image_ok rfl (by decide +kernel))
theorem dX7_image_14 : decode cX7_image 14 = .ok (.aload_n 0, 1) := zr0 zk_42 (zat_w (k := 0) (p := 14) (w := zw_cX7_image_0) zw_cX7_image_ok rfl (by decide +kernel))
theorem dX7_image_15 : decode cX7_image 15 = .ok (.getfield 7, 3) := zr2u zk_180 (x0 := 0) (x1 := 7) (zat_w (k := 0) (p := 15) (w := zw_cX7_image_0) zw_cX7_image_ok rfl (by decide +kernel)) (by decide +kernel)
theorem dX7_image_18 : decode cX7_image 18 = .ok (.putfield 299, 3) := zr2u zk_181 (x0 := 1) (x1 := 43) (zat_w (k := 1) (p := 2) (w := zw_cX7_image_1) zw_cX7_image_ok rfl (by decide +kernel)) (by decide +kernel)
theorem dX7_image_21 : decode cX7_image 21 = .ok (.aload_n 0, 1) := zr0 zk_42 (zat_w (k := 1) (p := 5) (w := zw_cX7_image_1) zw_cX7_image_ok rfl (by decide +kernel))
theorem dX7_image_22 : decode cX7_image 22 = .ok (.aload_n 0, 1) := zr0 zk_42 (zat_w (k := 1) (p := 6) (w := zw_cX7_image_1) zw_cX7_image_ok rfl (by decide +kernel))
theorem dX7_image_23 : decode cX7_image 23 = .ok (.getfield 13, 3) := zr2u zk_180 (x0 := 0) (x1 := 13) (zat_w (k := 1) (p := 7) (w := zw_cX7_image_1) zw_cX7_image_ok rfl (by decide +kernel)) (by decide +kernel)
theorem dX7_image_26 : decode cX7_image 26 = .ok (.putfield 302, 3) := zr2u zk_181 (x0 := 1) (x1 := 46) (zat_w (k := 1) (p := 10) (w := zw_cX7_image_1) zw_cX7_image_ok rfl (by decide +kernel)) (by decide +kernel)
theorem dX7_image_29 : decode cX7_image 29 = .ok (.aload_n 0, 1) := zr0 zk_42 (zat_w (k := 1) (p := 13) (w := zw_cX7_image_1) zw_cX7_image_ok rfl (by decide +kernel))
theorem dX7_image_30 : decode cX7_image 30 = .ok (.aload_n 0, 1) := zr0 zk_42 (zat_w (k := 1) (p := 14) (w := zw_cX7_image_1) zw_cX7_image_ok rfl (by decide +kernel))
theorem dX7_image_31 : decode cX7_image 31 = .ok (.getfield 83, 3) := zr2u zk_180 (x0 := 0) (x1 := 83) (zat_w (k := 1) (p := 15) (w := zw_cX7_image_1) zw_cX7_image_ok rfl (by decide +kernel)) (by decide +kernel)
theorem dX7_image_34 : decode cX7_image 34 = .ok (.putfield 305, 3) := zr2u zk_181 (x0 := 1) (x1 := 49) (zat_w (k := 2) (p := 2) (w := zw_cX7_image_2) zw_cX7_image_ok rfl (by decide +kernel)) (by decide +kernel)
theorem dX7_image_37 : decode cX7_image 37 = .ok (.iconst 0, 1) := zr0 zk_3 (zat_w (k := 2) (p := 5) (w := zw_cX7_image_2) zw_cX7_image_ok rfl (by decide +kernel))
theorem dX7_image_38 : decode cX7_image 38 = .ok (.istore_n 1, 1) := zr0 zk_60 (zat_w (k := 2) (p := 6) (w := zw_cX7_image_2) zw_cX7_image_ok rfl (by decide +kernel))
theorem dX7_image_39 : decode cX7_image 39 = .ok (.iload_n 1, 1) := zr0 zk_27 (zat_w (k := 2) (p := 7) (w := zw_cX7_image_2) zw_cX7_image_ok rfl (by decide +kernel))
theorem dX7_image_40 : decode cX7_image 40 = .ok (.bipush 36, 2) := zr1s zk_16 (x0 := 36) (zat_w (k := 2) (p := 8) (w := zw_cX7_image_2) zw_cX7_image_ok rfl (by decide +kernel)) (by decide +kernel)
theorem dX7_image_42 : decode cX7_image 42 = .ok (.if_icmp .ge 21, 3) := zr2s zk_162 (x0 := 0) (x1 := 21) (zat_w (k := 2) (p := 10) (w := zw_cX7_image_2) zw_cX7_image_ok rfl (by decide +kernel)) (by decide +kernel)
theorem dX7_image_45 : decode cX7_image 45 = .ok (.aload_n 0, 1) := zr0 zk_42 (zat_w (k := 2) (p := 13) (w := zw_cX7_image_2) zw_cX7_image_ok rfl (by decide +kernel))
theorem dX7_image_46 : decode cX7_image 46 = .ok (.getfield 35, 3) := zr2u zk_180 (x0 := 0) (x1 := 35) (zat_w (k := 2) (p := 14) (w := zw_cX7_image_2) zw_cX7_image_ok rfl (by decide +kernel)) (by decide +kernel)
theorem dX7_image_49 : decode cX7_image 49 = .ok (.iload_n 1, 1) := zr0 zk_27 (zat_w (k := 3) (p := 1) (w := zw_cX7_image_3) zw_cX7_image_ok rfl (by decide +kernel))
theorem dX7_image_50 : decode cX7_image 50 = .ok (.aload_n 0, 1) := zr0 zk_42 (zat_w (k := 3) (p := 2) (w := zw_cX7_image_3) zw_cX7_image_ok rfl (by decide +kernel))
theorem dX7_image_51 : decode cX7_image 51 = .ok (.getfield 23, 3) := zr2u zk_180 (x0 := 0) (x1 := 23) (zat_w (k := 3) (p := 3) (w := zw_cX7_image_3) zw_cX7_image_ok rfl (by decide +kernel)) (by decide +kernel)
theorem dX7_image_54 : decode cX7_image 54 = .ok (.iload_n 1, 1) := zr0 zk_27 (zat_w (k := 3) (p := 6) (w := zw_cX7_image_3) zw_cX7_image_ok rfl (by decide +kernel))
theorem dX7_image_55 : decode cX7_image 55 = .ok (.iaload, 1) := zr0 zk_46 (zat_w (k := 3) (p := 7) (w := zw_cX7_image_3) zw_cX7_image_ok rfl (by decide +kernel))
theorem dX7_image_56 : decode cX7_image 56 = .ok (.iastore, 1) := zr0 zk_79 (zat_w (k := 3) (p := 8) (w := zw_cX7_image_3) zw_cX7_image_ok rfl (by decide +kernel))
theorem dX7_image_57 : decode cX7_image 57 = .ok (.iinc 1 1, 3) := zrii zk_132 (x0 := 1) (x1 := 1) (zat_w (k := 3) (p := 9) (w := zw_cX7_image_3) zw_cX7_image_ok rfl (by decide +kernel)) (by decide +kernel)
theorem dX7_image_60 : decode cX7_image 60 = .ok (.goto (-21), 3) := zr2s zk_167 (x0 := 255) (x1 := 235) (zat_w (k := 3) (p := 12) (w := zw_cX7_image_3) zw_cX7_image_ok rfl (by decide +kernel)) (by decide +kernel)
theorem dX7_image_63 : decode cX7_image 63 = .ok (.aload_n 0, 1) := zr0 zk_42 (zat_w (k := 3) (p := 15) (w := zw_cX7_image_3) zw_cX7_image_ok rfl (by decide +kernel))
theorem dX7_image_64 : decode cX7_image 64 = .ok (.getfield 72, 3) := zr2u zk_180 (x0 := 0) (x1 := 72) (zat_w (k := 4) (p := 0) (w := zw_cX7_image_4) zw_cX7_image_ok rfl (by decide +kernel)) (by decide +kernel)
theorem dX7_image_67 : decode cX7_image 67 = .ok (.ireturn, 1) := zr0 zk_172 (zat_w (k := 4) (p := 3) (w := zw_cX7_image_4) zw_cX7_image_ok rfl (by decide +kernel))
def zw_cX7_back_0 : List UInt8 := [42, 180, 1, 36, 154, 0, 6, 16, 253, 172, 42, 42, 180, 1, 40, 181, 0, 72, 42, 42]
def zw_cX7_back_1 : List UInt8 := [0, 72, 42, 42, 180, 1, 43, 181, 0, 7, 42, 42, 180, 1, 46, 181, 0, 13, 42, 42]
def zw_cX7_back_2 : List UInt8 := [0, 13, 42, 42, 180, 1, 49, 181, 0, 83, 3, 60, 27, 16, 36, 162, 0, 21, 42, 180]
def zw_cX7_back_3 : List UInt8 := [0, 21, 42, 180, 0, 23, 27, 42, 180, 0, 35, 27, 46, 79, 132, 1, 1, 167, 255, 235]
def zw_cX7_back_4 : List UInt8 := [1, 167, 255, 235, 42, 180, 0, 72, 172]
def zw_cX7_back : List (List UInt8) := [zw_cX7_back_0, zw_cX7_back_1, zw_cX7_back_2, zw_cX7_back_3, zw_cX7_back_4]
theorem zw_cX7_back_ok : zwin 5 cX7_back.data.toList = zw_cX7_back := by decide +kernel
theorem dX7_back_0 : decode cX7_back 0 = .ok (.aload_n 0, 1) := zr0 zk_42 (zat_w (k := 0) (p := 0) (w := zw_cX7_back_0) zw_cX7_back_ok rfl (by decide +kernel))
theorem dX7_back_1 : decode cX7_back 1 = .ok (.getfield 292, 3) := zr2u zk_180 (x0 := 1) (x1 := 36) (zat_w (k := 0) (p := 1) (w := zw_cX7_back_0) zw_cX7_back_ok rfl (by decide +kernel)) (by decide +kernel)
theorem dX7_back_4 : decode cX7_back 4 = .ok (.ifCond .ne 6, 3) := zr2s zk_154 (x0 := 0) (x1 := 6) (zat_w (k := 0) (p := 4) (w := zw_cX7_back_0) zw_cX7_back_ok rfl (by decide +kernel)) (by decide +kernel)
theorem dX7_back_7 : decode cX7_back 7 = .ok (.bipush (-3), 2) := zr1s zk_16 (x0 := 253) (zat_w (k := 0) (p := 7) (w := zw_cX7_back_0) zw_cX7_back_ok rfl (by decide +kernel)) (by decide +kernel)
theorem dX7_back_9 : decode cX7_back 9 = .ok (.ireturn, 1) := zr0 zk_172 (zat_w (k := 0) (p := 9) (w := zw_cX7_back_0) zw_cX7_back_ok rfl (by decide +kernel))
theorem dX7_back_10 : decode cX7_back 10 = .ok (.aload_n 0, 1) := zr0 zk_42 (zat_w (k := 0) (p := 10) (w := zw_cX7_back_0) zw_cX7_back_ok rfl (by decide +kernel))
theorem dX7_back_11 : decode cX7_back 11 = .ok (.aload_n 0, 1) := zr0 zk_42 (zat_w (k := 0) (p := 11) (w := zw_cX7_back_0) zw_cX7_back_ok rfl (by decide +kernel))
theorem dX7_back_12 : decode cX7_back 12 = .ok (.getfield 296, 3) := zr2u zk_180 (x0 := 1) (x1 := 40) (zat_w (k := 0) (p := 12) (w := zw_cX7_back_0) zw_cX7_back_ok rfl (by decide +kernel)) (by decide +kernel)
theorem dX7_back_15 : decode cX7_back 15 = .ok (.putfield 72, 3) := zr2u zk_181 (x0 := 0) (x1 := 72) (zat_w (k := 0) (p := 15) (w := zw_cX7_back_0) zw_cX7_back_ok rfl (by decide +kernel)) (by decide +kernel)
theorem dX7_back_18 : decode cX7_back 18 = .ok (.aload_n 0, 1) := zr0 zk_42 (zat_w (k := 1) (p := 2) (w := zw_cX7_back_1) zw_cX7_back_ok rfl (by decide +kernel))
theorem dX7_back_19 : decode cX7_back 19 = .ok (.aload_n 0, 1) := zr0 zk_42 (zat_w (k := 1) (p := 3) (w := zw_cX7_back_1) zw_cX7_back_ok rfl (by decide +kernel))
theorem dX7_back_20 : decode cX7_back 20 = .ok (.getfield 299, 3) := zr2u zk_180 (x0 := 1) (x1 := 43) (zat_w (k := 1) (p := 4) (w := zw_cX7_back_1) zw_cX7_back_ok rfl (by decide +kernel)) (by decide +kernel)
theorem dX7_back_23 : decode cX7_back 23 = .ok (.putfield 7, 3) := zr2u zk_181 (x0 := 0) (x1 := 7) (zat_w (k := 1) (p := 7) (w := zw_cX7_back_1) zw_cX7_back_ok rfl (by decide +kernel)) (by decide +kernel)
theorem dX7_back_26 : decode cX7_back 26 = .ok (.aload_n 0, 1) := zr0 zk_42 (zat_w (k := 1) (p := 10) (w := zw_cX7_back_1) zw_cX7_back_ok rfl (by decide +kernel))
theorem dX7_back_27 : decode cX7_back 27 = .ok (.aload_n 0, 1) := zr0 zk_42 (zat_w (k := 1) (p := 11) (w := zw_cX7_back_1) zw_cX7_back_ok rfl (by decide +kernel))
theorem dX7_back_28 : decode cX7_back 28 = .ok (.getfield 302, 3) := zr2u zk_180 (x0 := 1) (x1 := 46) (zat_w (k := 1) (p := 12) (w := zw_cX7_back_1) zw_cX7_back_ok rfl (by decide +kernel)) (by decide +kernel)
theorem dX7_back_31 : decode cX7_back 31 = .ok (.putfield 13, 3) := zr2u zk_181 (x0 := 0) (x1 := 13) (zat_w (k := 1) (p := 15) (w := zw_cX7_back_1) zw_cX7_back_ok rfl (by decide +kernel)) (by decide +kernel)
theorem dX7_back_34 : decode cX7_back 34 = .ok (.aload_n 0, 1) := zr0 zk_42 (zat_w (k := 2) (p := 2) (w := zw_cX7_back_2) zw_cX7_back_ok rfl (by decide +kernel))
theorem dX7_back_35 : decode cX7_back 35 = .ok (.aload_n 0, 1) := zr0 zk_42 (zat_w (k := 2) (p := 3) (w := zw_cX7_back_2) zw_cX7_back_ok rfl (by decide +kernel))
theorem dX7_back_36 : decode cX7_back 36 = .ok (.getfield 305, 3) := zr2u zk_180 (x0 := 1) (x1 := 49) (zat_w (k := 2) (p := 4) (w := zw_cX7_back_2) zw_cX7_back_ok rfl (by decide +kernel)) (by decide +kernel)
theorem dX7_back_39 : decode cX7_back 39 = .ok (.putfield 83, 3) := zr2u zk_181 (x0 := 0) (x1 := 83) (zat_w (k := 2) (p := 7) (w := zw_cX7_back_2) zw_cX7_back_ok rfl (by decide +kernel)) (by decide +kernel)
theorem dX7_back_42 : decode cX7_back 42 = .ok (.iconst 0, 1) := zr0 zk_3 (zat_w (k := 2) (p := 10) (w := zw_cX7_back_2) zw_cX7_back_ok rfl (by decide +kernel))
theorem dX7_back_43 : decode cX7_back 43 = .ok (.istore_n 1, 1) := zr0 zk_60 (zat_w (k := 2) (p := 11) (w := zw_cX7_back_2) zw_cX7_back_ok rfl (by decide +kernel))
theorem dX7_back_44 : decode cX7_back 44 = .ok (.iload_n 1, 1) := zr0 zk_27 (zat_w (k := 2) (p := 12) (w := zw_cX7_back_2) zw_cX7_back_ok rfl (by decide +kernel))
theorem dX7_back_45 : decode cX7_back 45 = .ok (.bipush 36, 2) := zr1s zk_16 (x0 := 36) (zat_w (k := 2) (p := 13) (w := zw_cX7_back_2) zw_cX7_back_ok rfl (by decide +kernel)) (by decide +kernel)
theorem dX7_back_47 : decode cX7_back 47 = .ok (.if_icmp .ge 21, 3) := zr2s zk_162 (x0 := 0) (x1 := 21) (zat_w (k := 2) (p := 15) (w := zw_cX7_back_2) zw_cX7_back_ok rfl (by decide +kernel)) (by decide +kernel)
theorem dX7_back_50 : decode cX7_back 50 = .ok (.aload_n 0, 1) := zr0 zk_42 (zat_w (k := 3) (p := 2) (w := zw_cX7_back_3) zw_cX7_back_ok rfl (by decide +kernel))
theorem dX7_back_51 : decode cX7_back 51 = .ok (.getfield 23, 3) := zr2u zk_180 (x0 := 0) (x1 := 23) (zat_w (k := 3) (p := 3) (w := zw_cX7_back_3) zw_cX7_back_ok rfl (by decide +kernel)) (by decide +kernel)
theorem dX7_back_54 : decode cX7_back 54 = .ok (.iload_n 1, 1) := zr0 zk_27 (zat_w (k := 3) (p := 6) (w := zw_cX7_back_3) zw_cX7_back_ok rfl (by decide +kernel))
theorem dX7_back_55 : decode cX7_back 55 = .ok (.aload_n 0, 1) := zr0 zk_42 (zat_w (k := 3) (p := 7) (w := zw_cX7_back_3) zw_cX7_back_ok rfl (by decide +kernel))
theorem dX7_back_56 : decode cX7_back 56 = .ok (.getfield 35, 3) := zr2u zk_180 (x0 := 0) (x1 := 35) (zat_w (k := 3) (p := 8) (w := zw_cX7_back_3) zw_cX7_back_ok rfl (by decide +kernel)) (by decide +kernel)
theorem dX7_back_59 : decode cX7_back 59 = .ok (.iload_n 1, 1) := zr0 zk_27 (zat_w (k := 3) (p := 11) (w := zw_cX7_back_3) zw_cX7_back_ok rfl (by decide +kernel))
theorem dX7_back_60 : decode cX7_back 60 = .ok (.iaload, 1) := zr0 zk_46 (zat_w (k := 3) (p := 12) (w := zw_cX7_back_3) zw_cX7_back_ok rfl (by decide +kernel))
theorem dX7_back_61 : decode cX7_back 61 = .ok (.iastore, 1) := zr0 zk_79 (zat_w (k := 3) (p := 13) (w := zw_cX7_back_3) zw_cX7_back_ok rfl (by decide +kernel))
theorem dX7_back_62 : decode cX7_back 62 = .ok (.iinc 1 1, 3) := zrii zk_132 (x0 := 1) (x1 := 1) (zat_w (k := 3) (p := 14) (w := zw_cX7_back_3) zw_cX7_back_ok rfl (by decide +kernel)) (by decide +kernel)
theorem dX7_back_65 : decode cX7_back 65 = .ok (.goto (-21), 3) := zr2s zk_167 (x0 := 255) (x1 := 235) (zat_w (k := 4) (p := 1) (w := zw_cX7_back_4) zw_cX7_back_ok rfl (by decide +kernel)) (by decide +kernel)
theorem dX7_back_68 : decode cX7_back 68 = .ok (.aload_n 0, 1) := zr0 zk_42 (zat_w (k := 4) (p := 4) (w := zw_cX7_back_4) zw_cX7_back_ok rfl (by decide +kernel))
theorem dX7_back_69 : decode cX7_back 69 = .ok (.getfield 72, 3) := zr2u zk_180 (x0 := 0) (x1 := 72) (zat_w (k := 4) (p := 5) (w := zw_cX7_back_4) zw_cX7_back_ok rfl (by decide +kernel)) (by decide +kernel)
theorem dX7_back_72 : decode cX7_back 72 = .ok (.ireturn, 1) := zr0 zk_172 (zat_w (k := 4) (p := 8) (w := zw_cX7_back_4) zw_cX7_back_ok rfl (by decide +kernel))
def zw_cX7_sheet_0 : List UInt8 := [27, 3, 6, 184, 0, 75, 153, 0, 23, 28, 2, 5, 184, 0, 75, 153, 0, 14, 28, 2]
def zw_cX7_sheet_1 : List UInt8 := [0, 14, 28, 2, 159, 0, 12, 29, 16, 40, 164, 0, 6, 16, 254, 172, 28, 2, 159, 0]
def zw_cX7_sheet_2 : List UInt8 := [28, 2, 159, 0, 10, 29, 156, 0, 6, 16, 242, 172, 42, 180, 0, 38, 27, 28, 79, 42]
def zw_cX7_sheet_3 : List UInt8 := [27, 28, 79, 42, 180, 0, 41, 27, 28, 2, 160, 0, 7, 3, 167, 0, 4, 29, 79, 3]
def zw_cX7_sheet_4 : List UInt8 := [4, 29, 79, 3, 54, 4, 21, 4, 16, 40, 162, 0, 22, 42, 180, 0, 44, 16, 40, 27]
def zw_cX7_sheet_5 : List UInt8 := [44, 16, 40, 27, 104, 21, 4, 96, 3, 79, 132, 4, 1, 167, 255, 233, 4, 172]
def zw_cX7_sheet_6 : List UInt8 := [4, 172]
def zw_cX7_sheet : List (List UInt8) := [zw_cX7_sheet_0, zw_cX7_sheet_1, zw_cX7_sheet_2, zw_cX7_sheet_3, zw_cX7_sheet_4, zw_cX7_sheet_5, zw_cX7_sheet_6]
theorem zw_cX7_sheet_ok : zwin 7 cX7_sheet.data.toList = zw_cX7_sheet := by decide +kernel
theorem dX7_sheet_0 : decode cX7_sheet 0 = .ok (.iload_n 1, 1) := zr0 zk_27 (zat_w (k := 0) (p := 0) (w := zw_cX7_sheet_0) zw_cX7_sheet_ok rfl (by decide +kernel))
theorem dX7_sheet_1 : decode cX7_sheet 1 = .ok (.iconst 0, 1) := zr0 zk_3 (zat_w (k := 0) (p := 1) (w := zw_cX7_sheet_0) zw_cX7_sheet_ok rfl (by decide +kernel))
theorem dX7_sheet_2 : decode cX7_sheet 2 = .ok (.iconst 3, 1) := zr0 zk_6 (zat_w (k := 0) (p := 2) (w := zw_cX7_sheet_0) zw_cX7_sheet_ok rfl (by decide +kernel))
theorem dX7_sheet_3 : decode cX7_sheet 3 = .ok (.invokestatic 75, 3) := zr2u zk_184 (x0 := 0) (x1 := 75) (zat_w (k := 0) (p := 3) (w := zw_cX7_sheet_0) zw_cX7_sheet_ok rfl (by decide +kernel)) (by decide +kernel)
theorem dX7_sheet_6 : decode cX7_sheet 6 = .ok (.ifCond .eq 23, 3) := zr2s zk_153 (x0 := 0) (x1 := 23) (zat_w (k := 0) (p := 6) (w := zw_cX7_sheet_0) zw_cX7_sheet_ok rfl (by decide +kernel)) (by decide +kernel)
theorem dX7_sheet_9 : decode cX7_sheet 9 = .ok (.iload_n 2, 1) := zr0 zk_28 (zat_w (k := 0) (p := 9) (w := zw_cX7_sheet_0) zw_cX7_sheet_ok rfl (by decide +kernel))
theorem dX7_sheet_10 : decode cX7_sheet 10 = .ok (.iconst (-1), 1) := zr0 zk_2 (zat_w (k := 0) (p := 10) (w := zw_cX7_sheet_0) zw_cX7_sheet_ok rfl (by decide +kernel))
theorem dX7_sheet_11 : decode cX7_sheet 11 = .ok (.iconst 2, 1) := zr0 zk_5 (zat_w (k := 0) (p := 11) (w := zw_cX7_sheet_0) zw_cX7_sheet_ok rfl (by decide +kernel))
theorem dX7_sheet_12 : decode cX7_sheet 12 = .ok (.invokestatic 75, 3) := zr2u zk_184 (x0 := 0) (x1 := 75) (zat_w (k := 0) (p := 12) (w := zw_cX7_sheet_0) zw_cX7_sheet_ok rfl (by decide +kernel)) (by decide +kernel)
theorem dX7_sheet_15 : decode cX7_sheet 15 = .ok (.ifCond .eq 14, 3) := zr2s zk_153 (x0 := 0) (x1 := 14) (zat_w (k := 0) (p := 15) (w := zw_cX7_sheet_0) zw_cX7_sheet_ok rfl (by decide +kernel)) (by decide +kernel)
theorem dX7_sheet_18 : decode cX7_sheet 18 = .ok (.iload_n 2, 1) := zr0 zk_28 (zat_w (k := 1) (p := 2) (w := zw_cX7_sheet_1) zw_cX7_sheet_ok rfl (by decide +kernel))
theorem dX7_sheet_19 : decode cX7_sheet 19 = .ok (.iconst (-1), 1) := zr0 zk_2 (zat_w (k := 1) (p := 3) (w := zw_cX7_sheet_1) zw_cX7_sheet_ok rfl (by decide +kernel))
theorem dX7_sheet_20 : decode cX7_sheet 20 = .ok (.if_icmp .eq 12, 3) := zr2s zk_159 (x0 := 0) (x1 := 12) (zat_w (k := 1) (p := 4) (w := zw_cX7_sheet_1) zw_cX7_sheet_ok rfl (by decide +kernel)) (by decide +kernel)
theorem dX7_sheet_23 : decode cX7_sheet 23 = .ok (.iload_n 3, 1) := zr0 zk_29 (zat_w (k := 1) (p := 7) (w := zw_cX7_sheet_1) zw_cX7_sheet_ok rfl (by decide +kernel))
theorem dX7_sheet_24 : decode cX7_sheet 24 = .ok (.bipush 40, 2) := zr1s zk_16 (x0 := 40) (zat_w (k := 1) (p := 8) (w := zw_cX7_sheet_1) zw_cX7_sheet_ok rfl (by decide +kernel)) (by decide +kernel)
theorem dX7_sheet_26 : decode cX7_sheet 26 = .ok (.if_icmp .le 6, 3) := zr2s zk_164 (x0 := 0) (x1 := 6) (zat_w (k := 1) (p := 10) (w := zw_cX7_sheet_1) zw_cX7_sheet_ok rfl (by decide +kernel)) (by decide +kernel)
theorem dX7_sheet_29 : decode cX7_sheet 29 = .ok (.bipush (-2), 2) := zr1s zk_16 (x0 := 254) (zat_w (k := 1) (p := 13) (w := zw_cX7_sheet_1) zw_cX7_sheet_ok rfl (by decide +kernel)) (by decide +kernel)
theorem dX7_sheet_31 : decode cX7_sheet 31 = .ok (.ireturn, 1) := zr0 zk_172 (zat_w (k := 1) (p := 15) (w := zw_cX7_sheet_1) zw_cX7_sheet_ok rfl (by decide +kernel))
theorem dX7_sheet_32 : decode cX7_sheet 32 = .ok (.iload_n 2, 1) := zr0 zk_28 (zat_w (k := 2) (p := 0) (w := zw_cX7_sheet_2) zw_cX7_sheet_ok rfl (by decide +kernel))
theorem dX7_sheet_33 : decode cX7_sheet 33 = .ok (.iconst (-1), 1) := zr0 zk_2 (zat_w (k := 2) (p := 1) (w := zw_cX7_sheet_2) zw_cX7_sheet_ok rfl (by decide +kernel))
theorem dX7_sheet_34 : decode cX7_sheet 34 = .ok (.if_icmp .eq 10, 3) := zr2s zk_159 (x0 := 0) (x1 := 10) (zat_w (k := 2) (p := 2) (w := zw_cX7_sheet_2) zw_cX7_sheet_ok rfl (by decide +kernel)) (by decide +kernel)
theorem dX7_sheet_37 : decode cX7_sheet 37 = .ok (.iload_n 3, 1) := zr0 zk_29 (zat_w (k := 2) (p := 5) (w := zw_cX7_sheet_2) zw_cX7_sheet_ok rfl (by decide +kernel))
theorem dX7_sheet_38 : decode cX7_sheet 38 = .ok (.ifCond .ge 6, 3) := zr2s zk_156 (x0 := 0) (x1 := 6) (zat_w (k := 2) (p := 6) (w := zw_cX7_sheet_2) zw_cX7_sheet_ok rfl (by decide +kernel)) (by decide +kernel)
theorem dX7_sheet_41 : decode cX7_sheet 41 = .ok (.bipush (-14), 2) := zr1s zk_16 (x0 := 242) (zat_w (k := 2) (p := 9) (w := zw_cX7_sheet_2) zw_cX7_sheet_ok rfl (by decide +kernel)) (by decide +kernel)
theorem dX7_sheet_43 : decode cX7_sheet 43 = .ok (.ireturn, 1) := zr0 zk_172 (zat_w (k := 2) (p := 11) (w := zw_cX7_sheet_2) zw_cX7_sheet_ok rfl (by decide +kernel))
theorem dX7_sheet_44 : decode cX7_sheet 44 = .ok (.aload_n 0, 1) := zr0 zk_42 (zat_w (k := 2) (p := 12) (w := zw_cX7_sheet_2) zw_cX7_sheet_ok rfl (by decide +kernel))
theorem dX7_sheet_45 : decode cX7_sheet 45 = .ok (.getfield 38, 3) := zr2u zk_180 (x0 := 0) (x1 := 38) (zat_w (k := 2) (p := 13) (w := zw_cX7_sheet_2) zw_cX7_sheet_ok rfl (by decide +kernel)) (by decide +kernel)
theorem dX7_sheet_48 : decode cX7_sheet 48 = .ok (.iload_n 1, 1) := zr0 zk_27 (zat_w (k := 3) (p := 0) (w := zw_cX7_sheet_3) zw_cX7_sheet_ok rfl (by decide +kernel))
theorem dX7_sheet_49 : decode cX7_sheet 49 = .ok (.iload_n 2, 1) := zr0 zk_28 (zat_w (k := 3) (p := 1) (w := zw_cX7_sheet_3) zw_cX7_sheet_ok rfl (by decide +kernel))
theorem dX7_sheet_50 : decode cX7_sheet 50 = .ok (.iastore, 1) := zr0 zk_79 (zat_w (k := 3) (p := 2) (w := zw_cX7_sheet_3) zw_cX7_sheet_ok rfl (by decide +kernel))
theorem dX7_sheet_51 : decode cX7_sheet 51 = .ok (.aload_n 0, 1) := zr0 zk_42 (zat_w (k := 3) (p := 3) (w := zw_cX7_sheet_3) zw_cX7_sheet_ok rfl (by decide +kernel))
theorem dX7_sheet_52 : decode cX7_sheet 52 = .ok (.getfield 41, 3) := zr2u zk_180 (x0 := 0) (x1 := 41) (zat_w (k := 3) (p := 4) (w := zw_cX7_sheet_3) zw_cX7_sheet_ok rfl (by decide +kernel)) (by decide +kernel)
theorem dX7_sheet_55 : decode cX7_sheet 55 = .ok (.iload_n 1, 1) := zr0 zk_27 (zat_w (k := 3) (p := 7) (w := zw_cX7_sheet_3) zw_cX7_sheet_ok rfl (by decide +kernel))
theorem dX7_sheet_56 : decode cX7_sheet 56 = .ok (.iload_n 2, 1) := zr0 zk_28 (zat_w (k := 3) (p := 8) (w := zw_cX7_sheet_3) zw_cX7_sheet_ok rfl (by decide +kernel))
theorem dX7_sheet_57 : decode cX7_sheet 57 = .ok (.iconst (-1), 1) := zr0 zk_2 (zat_w (k := 3) (p := 9) (w := zw_cX7_sheet_3) zw_cX7_sheet_ok rfl (by decide +kernel))
theorem dX7_sheet_58 : decode cX7_sheet 58 = .ok (.if_icmp .ne 7, 3) := zr2s zk_160 (x0 := 0) (x1 := 7) (zat_w (k := 3) (p := 10) (w := zw_cX7_sheet_3) zw_cX7_sheet_ok rfl (by decide +kernel)) (by decide +kernel)
theorem dX7_sheet_61 : decode cX7_sheet 61 = .ok (.iconst 0, 1) := zr0 zk_3 (zat_w (k := 3) (p := 13) (w := zw_cX7_sheet_3) zw_cX7_sheet_ok rfl (by decide +kernel))
theorem dX7_sheet_62 : decode cX7_sheet 62 = .ok (.goto 4, 3) := zr2s zk_167 (x0 := 0) (x1 := 4) (zat_w (k := 3) (p := 14) (w := zw_cX7_sheet_3) zw_cX7_sheet_ok rfl (by decide +kernel)) (by decide +kernel)
theorem dX7_sheet_65 : decode cX7_sheet 65 = .ok (.iload_n 3, 1) := zr0 zk_29 (zat_w (k := 4) (p := 1) (w := zw_cX7_sheet_4) zw_cX7_sheet_ok rfl (by decide +kernel))
theorem dX7_sheet_66 : decode cX7_sheet 66 = .ok (.iastore, 1) := zr0 zk_79 (zat_w (k := 4) (p := 2) (w := zw_cX7_sheet_4) zw_cX7_sheet_ok rfl (by decide +kernel))
theorem dX7_sheet_67 : decode cX7_sheet 67 = .ok (.iconst 0, 1) := zr0 zk_3 (zat_w (k := 4) (p := 3) (w := zw_cX7_sheet_4) zw_cX7_sheet_ok rfl (by decide +kernel))
theorem dX7_sheet_68 : decode cX7_sheet 68 = .ok (.istore 4, 2) := zr1u zk_54 (x0 := 4) (zat_w (k := 4) (p := 4) (w := zw_cX7_sheet_4) zw_cX7_sheet_ok rfl (by decide +kernel)) (by decide +kernel)
theorem dX7_sheet_70 : decode cX7_sheet 70 = .ok (.iload 4, 2) := zr1u zk_21 (x0 := 4) (zat_w (k := 4) (p := 6) (w := zw_cX7_sheet_4) zw_cX7_sheet_ok rfl (by decide +kernel)) (by decide +kernel)
theorem dX7_sheet_72 : decode cX7_sheet 72 = .ok (.bipush 40, 2) := zr1s zk_16 (x0 := 40) (zat_w (k := 4) (p := 8) (w := zw_cX7_sheet_4) zw_cX7_sheet_ok rfl (by decide +kernel)) (by decide +kernel)
theorem dX7_sheet_74 : decode cX7_sheet 74 = .ok (.if_icmp .ge 22, 3) := zr2s zk_162 (x0 := 0) (x1 := 22) (zat_w (k := 4) (p := 10) (w := zw_cX7_sheet_4) zw_cX7_sheet_ok rfl (by decide +kernel)) (by decide +kernel)
theorem dX7_sheet_77 : decode cX7_sheet 77 = .ok (.aload_n 0, 1) := zr0 zk_42 (zat_w (k := 4) (p := 13) (w := zw_cX7_sheet_4) zw_cX7_sheet_ok rfl (by decide +kernel))
theorem dX7_sheet_78 : decode cX7_sheet 78 = .ok (.getfield 44, 3) := zr2u zk_180 (x0 := 0) (x1 := 44) (zat_w (k := 4) (p := 14) (w := zw_cX7_sheet_4) zw_cX7_sheet_ok rfl (by decide +kernel)) (by decide +kernel)
theorem dX7_sheet_81 : decode cX7_sheet 81 = .ok (.bipush 40, 2) := zr1s zk_16 (x0 := 40) (zat_w (k := 5) (p := 1) (w := zw_cX7_sheet_5) zw_cX7_sheet_ok rfl (by decide +kernel)) (by decide +kernel)
theorem dX7_sheet_83 : decode cX7_sheet 83 = .ok (.iload_n 1, 1) := zr0 zk_27 (zat_w (k := 5) (p := 3) (w := zw_cX7_sheet_5) zw_cX7_sheet_ok rfl (by decide +kernel))
theorem dX7_sheet_84 : decode cX7_sheet 84 = .ok (.imul, 1) := zr0 zk_104 (zat_w (k := 5) (p := 4) (w := zw_cX7_sheet_5) zw_cX7_sheet_ok rfl (by decide +kernel))
theorem dX7_sheet_85 : decode cX7_sheet 85 = .ok (.iload 4, 2) := zr1u zk_21 (x0 := 4) (zat_w (k := 5) (p := 5) (w := zw_cX7_sheet_5) zw_cX7_sheet_ok rfl (by decide +kernel)) (by decide +kernel)
theorem dX7_sheet_87 : decode cX7_sheet 87 = .ok (.iadd, 1) := zr0 zk_96 (zat_w (k := 5) (p := 7) (w := zw_cX7_sheet_5) zw_cX7_sheet_ok rfl (by decide +kernel))
theorem dX7_sheet_88 : decode cX7_sheet 88 = .ok (.iconst 0, 1) := zr0 zk_3 (zat_w (k := 5) (p := 8) (w := zw_cX7_sheet_5) zw_cX7_sheet_ok rfl (by decide +kernel))
theorem dX7_sheet_89 : decode cX7_sheet 89 = .ok (.iastore, 1) := zr0 zk_79 (zat_w (k := 5) (p := 9) (w := zw_cX7_sheet_5) zw_cX7_sheet_ok rfl (by decide +kernel))
theorem dX7_sheet_90 : decode cX7_sheet 90 = .ok (.iinc 4 1, 3) := zrii zk_132 (x0 := 4) (x1 := 1) (zat_w (k := 5) (p := 10) (w := zw_cX7_sheet_5) zw_cX7_sheet_ok rfl (by decide +kernel)) (by decide +kernel)
theorem dX7_sheet_93 : decode cX7_sheet 93 = .ok (.goto (-23), 3) := zr2s zk_167 (x0 := 255) (x1 := 233) (zat_w (k := 5) (p := 13) (w := zw_cX7_sheet_5) zw_cX7_sheet_ok rfl (by decide +kernel)) (by decide +kernel)
theorem dX7_sheet_96 : decode cX7_sheet 96 = .ok (.iconst 1, 1) := zr0 zk_4 (zat_w (k := 6) (p := 0) (w := zw_cX7_sheet_6) zw_cX7_sheet_ok rfl (by decide +kernel))
theorem dX7_sheet_97 : decode cX7_sheet 97 = .ok (.ireturn, 1) := zr0 zk_172 (zat_w (k := 6) (p := 1) (w := zw_cX7_sheet_6) zw_cX7_sheet_ok rfl (by decide +kernel))
def zw_cX7_cell_0 : List UInt8 := [27, 3, 6, 184, 0, 75, 154, 0, 6, 16, 254, 172, 42, 180, 0, 38, 27, 46, 2, 160]
def zw_cX7_cell_1 : List UInt8 := [27, 46, 2, 160, 0, 6, 16, 245, 172, 28, 3, 42, 180, 0, 41, 27, 46, 4, 100, 184]
def zw_cX7_cell_2 : List UInt8 := [46, 4, 100, 184, 0, 75, 154, 0, 6, 16, 244, 172, 42, 180, 0, 44, 16, 40, 27, 104]
def zw_cX7_cell_3 : List UInt8 := [16, 40, 27, 104, 28, 96, 42, 180, 0, 38, 27, 46, 154, 0, 8, 29, 145, 167, 0, 19]
def zw_cX7_cell_4 : List UInt8 := [145, 167, 0, 19, 42, 180, 0, 38, 27, 46, 4, 160, 0, 8, 29, 147, 167, 0, 4, 29]
def zw_cX7_cell_5 : List UInt8 := [167, 0, 4, 29, 79, 4, 172]
def zw_cX7_cell : List (List UInt8) := [zw_cX7_cell_0, zw_cX7_cell_1, zw_cX7_cell_2, zw_cX7_cell_3, zw_cX7_cell_4, zw_cX7_cell_5]
theorem zw_cX7_cell_ok : zwin 6 cX7_cell.data.toList = zw_cX7_cell := by decide +kernel
theorem dX7_cell_0 : decode cX7_cell 0 = .ok (.iload_n 1, 1) := zr0 zk_27 (zat_w (k := 0) (p := 0) (w := zw_cX7_cell_0) zw_cX7_cell_ok rfl (by decide +kernel))
theorem dX7_cell_1 : decode cX7_cell 1 = .ok (.iconst 0, 1) := zr0 zk_3 (zat_w (k := 0) (p := 1) (w := zw_cX7_cell_0) zw_cX7_cell_ok rfl (by decide +kernel))
theorem dX7_cell_2 : decode cX7_cell 2 = .ok (.iconst 3, 1) := zr0 zk_6 (zat_w (k := 0) (p := 2) (w := zw_cX7_cell_0) zw_cX7_cell_ok rfl (by decide +kernel))
theorem dX7_cell_3 : decode cX7_cell 3 = .ok (.invokestatic 75, 3) := zr2u zk_184 (x0 := 0) (x1 := 75) (zat_w (k := 0) (p := 3) (w := zw_cX7_cell_0) zw_cX7_cell_ok rfl (by decide +kernel)) (by decide +kernel)
theorem dX7_cell_6 : decode cX7_cell 6 = .ok (.ifCond .ne 6, 3) := zr2s zk_154 (x0 := 0) (x1 := 6) (zat_w (k := 0) (p := 6) (w := zw_cX7_cell_0) zw_cX7_cell_ok rfl (by decide +kernel)) (by decide +kernel)
theorem dX7_cell_9 : decode cX7_cell 9 = .ok (.bipush (-2), 2) := zr1s zk_16 (x0 := 254) (zat_w (k := 0) (p := 9) (w := zw_cX7_cell_0) zw_cX7_cell_ok rfl (by decide +kernel)) (by decide +kernel)
theorem dX7_cell_11 : decode cX7_cell 11 = .ok (.ireturn, 1) := zr0 zk_172 (zat_w (k := 0) (p := 11) (w := zw_cX7_cell_0) zw_cX7_cell_ok rfl (by decide +kernel))
theorem dX7_cell_12 : decode cX7_cell 12 = .ok (.aload_n 0, 1) := zr0 zk_42 (zat_w (k := 0) (p := 12) (w := zw_cX7_cell_0) zw_cX7_cell_ok rfl (by decide +kernel))
theorem dX7_cell_13 : decode cX7_cell 13 = .ok (.getfield 38, 3) := zr2u zk_180 (x0 := 0) (x1 := 38) (zat_w (k := 0) (p := 13) (w := zw_cX7_cell_0) zw_cX7_cell_ok rfl (by decide +kernel)) (by decide +kernel)
theorem dX7_cell_16 : decode cX7_cell 16 = .ok (.iload_n 1, 1) := zr0 zk_27 (zat_w (k := 1) (p := 0) (w := zw_cX7_cell_1) zw_cX7_cell_ok rfl (by decide +kernel))
theorem dX7_cell_17 : decode cX7_cell 17 = .ok (.iaload, 1) := zr0 zk_46 (zat_w (k := 1) (p := 1) (w := zw_cX7_cell_1) zw_cX7_cell_ok rfl (by decide +kernel))
theorem dX7_cell_18 : decode cX7_cell 18 = .ok (.iconst (-1), 1) := zr0 zk_2 (zat_w (k := 1) (p := 2) (w := zw_cX7_cell_1) zw_cX7_cell_ok rfl (by decide +kernel))
theorem dX7_cell_19 : decode cX7_cell 19 = .ok (.if_icmp .ne 6, 3) := zr2s zk_160 (x0 := 0) (x1 := 6) (zat_w (k := 1) (p := 3) (w := zw_cX7_cell_1) zw_cX7_cell_ok rfl (by decide +kernel)) (by decide +kernel)
theorem dX7_cell_22 : decode cX7_cell 22 = .ok (.bipush (-11), 2) := zr1s zk_16 (x0 := 245) (zat_w (k := 1) (p := 6) (w := zw_cX7_cell_1) zw_cX7_cell_ok rfl (by decide +kernel)) (by decide +kernel)
theorem dX7_cell_24 : decode cX7_cell 24 = .ok (.ireturn, 1) := zr0 zk_172 (zat_w (k := 1) (p := 8) (w := zw_cX7_cell_1) zw_cX7_cell_ok rfl (by decide +kernel))
theorem dX7_cell_25 : decode cX7_cell 25 = .ok (.iload_n 2, 1) := zr0 zk_28 (zat_w (k := 1) (p := 9) (w := zw_cX7_cell_1) zw_cX7_cell_ok rfl (by decide +kernel))
theorem dX7_cell_26 : decode cX7_cell 26 = .ok (.iconst 0, 1) := zr0 zk_3 (zat_w (k := 1) (p := 10) (w := zw_cX7_cell_1) zw_cX7_cell_ok rfl (by decide +kernel))
theorem dX7_cell_27 : decode cX7_cell 27 = .ok (.aload_n 0, 1) := zr0 zk_42 (zat_w (k := 1) (p := 11) (w := zw_cX7_cell_1) zw_cX7_cell_ok rfl (by decide +kernel))
theorem dX7_cell_28 : decode cX7_cell 28 = .ok (.getfield 41, 3) := zr2u zk_180 (x0 := 0) (x1 := 41) (zat_w (k := 1) (p := 12) (w := zw_cX7_cell_1) zw_cX7_cell_ok rfl (by decide +kernel)) (by decide +kernel)
theorem dX7_cell_31 : decode cX7_cell 31 = .ok (.iload_n 1, 1) := zr0 zk_27 (zat_w (k := 1) (p := 15) (w := zw_cX7_cell_1) zw_cX7_cell_ok rfl (by decide +kernel))
theorem dX7_cell_32 : decode cX7_cell 32 = .ok (.iaload, 1) := zr0 zk_46 (zat_w (k := 2) (p := 0) (w := zw_cX7_cell_2) zw_cX7_cell_ok rfl (by decide +kernel))
theorem dX7_cell_33 : decode cX7_cell 33 = .ok (.iconst 1, 1) := zr0 zk_4 (zat_w (k := 2) (p := 1) (w := zw_cX7_cell_2) zw_cX7_cell_ok rfl (by decide +kernel))
theorem dX7_cell_34 : decode cX7_cell 34 = .ok (.isub, 1) := zr0 zk_100 (zat_w (k := 2) (p := 2) (w := zw_cX7_cell_2) zw_cX7_cell_ok rfl (by decide +kernel))
theorem dX7_cell_35 : decode cX7_cell 35 = .ok (.invokestatic 75, 3) := zr2u zk_184 (x0 := 0) (x1 := 75) (zat_w (k := 2) (p := 3) (w := zw_cX7_cell_2) zw_cX7_cell_ok rfl (by decide +kernel)) (by decide +kernel)
theorem dX7_cell_38 : decode cX7_cell 38 = .ok (.ifCond .ne 6, 3) := zr2s zk_154 (x0 := 0) (x1 := 6) (zat_w (k := 2) (p := 6) (w := zw_cX7_cell_2) zw_cX7_cell_ok rfl (by decide +kernel)) (by decide +kernel)
theorem dX7_cell_41 : decode cX7_cell 41 = .ok (.bipush (-12), 2) := zr1s zk_16 (x0 := 244) (zat_w (k := 2) (p := 9) (w := zw_cX7_cell_2) zw_cX7_cell_ok rfl (by decide +kernel)) (by decide +kernel)
theorem dX7_cell_43 : decode cX7_cell 43 = .ok (.ireturn, 1) := zr0 zk_172 (zat_w (k := 2) (p := 11) (w := zw_cX7_cell_2) zw_cX7_cell_ok rfl (by decide +kernel))
theorem dX7_cell_44 : decode cX7_cell 44 = .ok (.aload_n 0, 1) := zr0 zk_42 (zat_w (k := 2) (p := 12) (w := zw_cX7_cell_2) zw_cX7_cell_ok rfl (by decide +kernel))
theorem dX7_cell_45 : decode cX7_cell 45 = .ok (.getfield 44, 3) := zr2u zk_180 (x0 := 0) (x1 := 44) (zat_w (k := 2) (p := 13) (w := zw_cX7_cell_2) zw_cX7_cell_ok rfl (by decide +kernel)) (by decide +kernel)
theorem dX7_cell_48 : decode cX7_cell 48 = .ok (.bipush 40, 2) := zr1s zk_16 (x0 := 40) (zat_w (k := 3) (p := 0) (w := zw_cX7_cell_3) zw_cX7_cell_ok rfl (by decide +kernel)) (by decide +kernel)
theorem dX7_cell_50 : decode cX7_cell 50 = .ok (.iload_n 1, 1) := zr0 zk_27 (zat_w (k := 3) (p := 2) (w := zw_cX7_cell_3) zw_cX7_cell_ok rfl (by decide +kernel))
theorem dX7_cell_51 : decode cX7_cell 51 = .ok (.imul, 1) := zr0 zk_104 (zat_w (k := 3) (p := 3) (w := zw_cX7_cell_3) zw_cX7_cell_ok rfl (by decide +kernel))
theorem dX7_cell_52 : decode cX7_cell 52 = .ok (.iload_n 2, 1) := zr0 zk_28 (zat_w (k := 3) (p := 4) (w := zw_cX7_cell_3) zw_cX7_cell_ok rfl (by decide +kernel))
theorem dX7_cell_53 : decode cX7_cell 53 = .ok (.iadd, 1) := zr0 zk_96 (zat_w (k := 3) (p := 5) (w := zw_cX7_cell_3) zw_cX7_cell_ok rfl (by decide +kernel))
theorem dX7_cell_54 : decode cX7_cell 54 = .ok (.aload_n 0, 1) := zr0 zk_42 (zat_w (k := 3) (p := 6) (w := zw_cX7_cell_3) zw_cX7_cell_ok rfl (by decide +kernel))
theorem dX7_cell_55 : decode cX7_cell 55 = .ok (.getfield 38, 3) := zr2u zk_180 (x0 := 0) (x1 := 38) (zat_w (k := 3) (p := 7) (w := zw_cX7_cell_3) zw_cX7_cell_ok rfl (by decide +kernel)) (by decide +kernel)
theorem dX7_cell_58 : decode cX7_cell 58 = .ok (.iload_n 1, 1) := zr0 zk_27 (zat_w (k := 3) (p := 10) (w := zw_cX7_cell_3) zw_cX7_cell_ok rfl (by decide +kernel))
theorem dX7_cell_59 : decode cX7_cell 59 = .ok (.iaload, 1) := zr0 zk_46 (zat_w (k := 3) (p := 11) (w := zw_cX7_cell_3) zw_cX7_cell_ok rfl (by decide +kernel))
theorem dX7_cell_60 : decode cX7_cell 60 = .ok (.ifCond .ne 8, 3) := zr2s zk_154 (x0 := 0) (x1 := 8) (zat_w (k := 3) (p := 12) (w := zw_cX7_cell_3) zw_cX7_cell_ok rfl (by decide +kernel)) (by decide +kernel)
theorem dX7_cell_63 : decode cX7_cell 63 = .ok (.iload_n 3, 1) := zr0 zk_29 (zat_w (k := 3) (p := 15) (w := zw_cX7_cell_3) zw_cX7_cell_ok rfl (by decide +kernel))
theorem dX7_cell_64 : decode cX7_cell 64 = .ok (.i2b, 1) := zr0 zk_145 (zat_w (k := 4) (p := 0) (w := zw_cX7_cell_4) zw_cX7_cell_ok rfl (by decide +kernel))
theorem dX7_cell_65 : decode cX7_cell 65 = .ok (.goto 19, 3) := zr2s zk_167 (x0 := 0) (x1 := 19) (zat_w (k := 4) (p := 1) (w := zw_cX7_cell_4) zw_cX7_cell_ok rfl (by decide +kernel)) (by decide +kernel)
theorem dX7_cell_68 : decode cX7_cell 68 = .ok (.aload_n 0, 1) := zr0 zk_42 (zat_w (k := 4) (p := 4) (w := zw_cX7_cell_4) zw_cX7_cell_ok rfl (by decide +kernel))
theorem dX7_cell_69 : decode cX7_cell 69 = .ok (.getfield 38, 3) := zr2u zk_180 (x0 := 0) (x1 := 38) (zat_w (k := 4) (p := 5) (w := zw_cX7_cell_4) zw_cX7_cell_ok rfl (by decide +kernel)) (by decide +kernel)
theorem dX7_cell_72 : decode cX7_cell 72 = .ok (.iload_n 1, 1) := zr0 zk_27 (zat_w (k := 4) (p := 8) (w := zw_cX7_cell_4) zw_cX7_cell_ok rfl (by decide +kernel))
theorem dX7_cell_73 : decode cX7_cell 73 = .ok (.iaload, 1) := zr0 zk_46 (zat_w (k := 4) (p := 9) (w := zw_cX7_cell_4) zw_cX7_cell_ok rfl (by decide +kernel))
theorem dX7_cell_74 : decode cX7_cell 74 = .ok (.iconst 1, 1) := zr0 zk_4 (zat_w (k := 4) (p := 10) (w := zw_cX7_cell_4) zw_cX7_cell_ok rfl (by decide +kernel))
theorem dX7_cell_75 : decode cX7_cell 75 = .ok (.if_icmp .ne 8, 3) := zr2s zk_160 (x0 := 0) (x1 := 8) (zat_w (k := 4) (p := 11) (w := zw_cX7_cell_4) zw_cX7_cell_ok rfl (by decide +kernel)) (by decide +kernel)
theorem dX7_cell_78 : decode cX7_cell 78 = .ok (.iload_n 3, 1) := zr0 zk_29 (zat_w (k := 4) (p := 14) (w := zw_cX7_cell_4) zw_cX7_cell_ok rfl (by decide +kernel))
theorem dX7_cell_79 : decode cX7_cell 79 = .ok (.i2s, 1) := zr0 zk_147 (zat_w (k := 4) (p := 15) (w := zw_cX7_cell_4) zw_cX7_cell_ok rfl (by decide +kernel))
theorem dX7_cell_80 : decode cX7_cell 80 = .ok (.goto 4, 3) := zr2s zk_167 (x0 := 0) (x1 := 4) (zat_w (k := 5) (p := 0) (w := zw_cX7_cell_5) zw_cX7_cell_ok rfl (by decide +kernel)) (by decide +kernel)
theorem dX7_cell_83 : decode cX7_cell 83 = .ok (.iload_n 3, 1) := zr0 zk_29 (zat_w (k := 5) (p := 3) (w := zw_cX7_cell_5) zw_cX7_cell_ok rfl (by decide +kernel))
theorem dX7_cell_84 : decode cX7_cell 84 = .ok (.iastore, 1) := zr0 zk_79 (zat_w (k := 5) (p := 4) (w := zw_cX7_cell_5) zw_cX7_cell_ok rfl (by decide +kernel))
theorem dX7_cell_85 : decode cX7_cell 85 = .ok (.iconst 1, 1) := zr0 zk_4 (zat_w (k := 5) (p := 5) (w := zw_cX7_cell_5) zw_cX7_cell_ok rfl (by decide +kernel))
theorem dX7_cell_86 : decode cX7_cell 86 = .ok (.ireturn, 1) := zr0 zk_172 (zat_w (k := 5) (p := 6) (w := zw_cX7_cell_5) zw_cX7_cell_ok rfl (by decide +kernel))
def zw_cX7_copy_0 : List UInt8 := [27, 3, 6, 184, 0, 75, 153, 0, 12, 29, 3, 6, 184, 0, 75, 154, 0, 6, 16, 254]
def zw_cX7_copy_1 : List UInt8 := [0, 6, 16, 254, 172, 42, 180, 0, 38, 27, 46, 2, 159, 0, 13, 42, 180, 0, 38, 29]
def zw_cX7_copy_2 : List UInt8 := [180, 0, 38, 29, 46, 2, 160, 0, 6, 16, 245, 172, 42, 180, 0, 38, 27, 46, 42, 180]
def zw_cX7_copy_3 : List UInt8 := [27, 46, 42, 180, 0, 38, 29, 46, 159, 0, 6, 16, 243, 172, 21, 5, 155, 0, 60, 28]
def zw_cX7_copy_4 : List UInt8 := [155, 0, 60, 28, 155, 0, 56, 21, 4, 155, 0, 51, 28, 42, 180, 0, 41, 27, 46, 163]
def zw_cX7_copy_5 : List UInt8 := [41, 27, 46, 163, 0, 41, 21, 4, 42, 180, 0, 41, 29, 46, 163, 0, 30, 21, 5, 42]
def zw_cX7_copy_6 : List UInt8 := [30, 21, 5, 42, 180, 0, 41, 27, 46, 28, 100, 163, 0, 17, 21, 5, 42, 180, 0, 41]
def zw_cX7_copy_7 : List UInt8 := [42, 180, 0, 41, 29, 46, 21, 4, 100, 164, 0, 6, 16, 244, 172, 16, 40, 27, 104, 28]
def zw_cX7_copy_8 : List UInt8 := [40, 27, 104, 28, 96, 54, 6, 16, 40, 29, 104, 21, 4, 96, 54, 7, 3, 54, 8, 21]
def zw_cX7_copy_9 : List UInt8 := [3, 54, 8, 21, 8, 21, 5, 162, 0, 50, 21, 6, 21, 7, 162, 0, 13, 21, 5, 4]
def zw_cX7_copy_10 : List UInt8 := [13, 21, 5, 4, 100, 21, 8, 100, 167, 0, 5, 21, 8, 54, 9, 42, 180, 0, 44, 21]
def zw_cX7_copy_11 : List UInt8 := [180, 0, 44, 21, 7, 21, 9, 96, 42, 180, 0, 44, 21, 6, 21, 9, 96, 46, 79, 132]
def zw_cX7_copy_12 : List UInt8 := [96, 46, 79, 132, 8, 1, 167, 255, 205, 21, 5, 172]
def zw_cX7_copy : List (List UInt8) := [zw_cX7_copy_0, zw_cX7_copy_1, zw_cX7_copy_2, zw_cX7_copy_3, zw_cX7_copy_4, zw_cX7_copy_5, zw_cX7_copy_6, zw_cX7_copy_7, zw_cX7_copy_8, zw_cX7_copy_9, zw_cX7_copy_10, zw_cX7_copy_11, zw_cX7_copy_12]
theorem zw_cX7_copy_ok : zwin 13 cX7_copy.data.toList = zw_cX7_copy := by decide +kernel
theorem dX7_copy_0 : decode cX7_copy 0 = .ok (.iload_n 1, 1) := zr0 zk_27 (zat_w (k := 0) (p := 0) (w := zw_cX7_copy_0) zw_cX7_copy_ok rfl (by decide +kernel))
theorem dX7_copy_1 : decode cX7_copy 1 = .ok (.iconst 0, 1) := zr0 zk_3 (zat_w (k := 0) (p := 1) (w := zw_cX7_copy_0) zw_cX7_copy_ok rfl (by decide +kernel))
theorem dX7_copy_2 : decode cX7_copy 2 = .ok (.iconst 3, 1) := zr0 zk_6 (zat_w (k := 0) (p := 2) (w := zw_cX7_copy_0) zw_cX7_copy_ok rfl (by decide +kernel))
theorem dX7_copy_3 : decode cX7_copy 3 = .ok (.invokestatic 75, 3) := zr2u zk_184 (x0 := 0) (x1 := 75) (zat_w (k := 0) (p := 3) (w := zw_cX7_copy_0) zw_cX7_copy_ok rfl (by decide +kernel)) (by decide +kernel)
theorem dX7_copy_6 : decode cX7_copy 6 = .ok (.ifCond .eq 12, 3) := zr2s zk_153 (x0 := 0) (x1 := 12) (zat_w (k := 0) (p := 6) (w := zw_cX7_copy_0) zw_cX7_copy_ok rfl (by decide +kernel)) (by decide +kernel)
theorem dX7_copy_9 : decode cX7_copy 9 = .ok (.iload_n 3, 1) := zr0 zk_29 (zat_w (k := 0) (p := 9) (w := zw_cX7_copy_0) zw_cX7_copy_ok rfl (by decide +kernel))
theorem dX7_copy_10 : decode cX7_copy 10 = .ok (.iconst 0, 1) := zr0 zk_3 (zat_w (k := 0) (p := 10) (w := zw_cX7_copy_0) zw_cX7_copy_ok rfl (by decide +kernel))
theorem dX7_copy_11 : decode cX7_copy 11 = .ok (.iconst 3, 1) := zr0 zk_6 (zat_w (k := 0) (p := 11) (w := zw_cX7_copy_0) zw_cX7_copy_ok rfl (by decide +kernel))
theorem dX7_copy_12 : decode cX7_copy 12 = .ok (.invokestatic 75, 3) := zr2u zk_184 (x0 := 0) (x1 := 75) (zat_w (k := 0) (p := 12) (w := zw_cX7_copy_0) zw_cX7_copy_ok rfl (by decide +kernel)) (by decide +kernel)
theorem dX7_copy_15 : decode cX7_copy 15 = .ok (.ifCond .ne 6, 3) := zr2s zk_154 (x0 := 0) (x1 := 6) (zat_w (k := 0) (p := 15) (w := zw_cX7_copy_0) zw_cX7_copy_ok rfl (by decide +kernel)) (by decide +kernel)
theorem dX7_copy_18 : decode cX7_copy 18 = .ok (.bipush (-2), 2) := zr1s zk_16 (x0 := 254) (zat_w (k := 1) (p := 2) (w := zw_cX7_copy_1) zw_cX7_copy_ok rfl (by decide +kernel)) (by decide +kernel)
theorem dX7_copy_20 : decode cX7_copy 20 = .ok (.ireturn, 1) := zr0 zk_172 (zat_w (k := 1) (p := 4) (w := zw_cX7_copy_1) zw_cX7_copy_ok rfl (by decide +kernel))
theorem dX7_copy_21 : decode cX7_copy 21 = .ok (.aload_n 0, 1) := zr0 zk_42 (zat_w (k := 1) (p := 5) (w := zw_cX7_copy_1) zw_cX7_copy_ok rfl (by decide +kernel))
theorem dX7_copy_22 : decode cX7_copy 22 = .ok (.getfield 38, 3) := zr2u zk_180 (x0 := 0) (x1 := 38) (zat_w (k := 1) (p := 6) (w := zw_cX7_copy_1) zw_cX7_copy_ok rfl (by decide +kernel)) (by decide +kernel)
theorem dX7_copy_25 : decode cX7_copy 25 = .ok (.iload_n 1, 1) := zr0 zk_27 (zat_w (k := 1) (p := 9) (w := zw_cX7_copy_1) zw_cX7_copy_ok rfl (by decide +kernel))
theorem dX7_copy_26 : decode cX7_copy 26 = .ok (.iaload, 1) := zr0 zk_46 (zat_w (k := 1) (p := 10) (w := zw_cX7_copy_1) zw_cX7_copy_ok rfl (by decide +kernel))
theorem dX7_copy_27 : decode cX7_copy 27 = .ok (.iconst (-1), 1) := zr0 zk_2 (zat_w (k := 1) (p := 11) (w := zw_cX7_copy_1) zw_cX7_copy_ok rfl (by decide +kernel))
theorem dX7_copy_28 : decode cX7_copy 28 = .ok (.if_icmp .eq 13, 3) := zr2s zk_159 (x0 := 0) (x1 := 13) (zat_w (k := 1) (p := 12) (w := zw_cX7_copy_1) zw_cX7_copy_ok rfl (by decide +kernel)) (by decide +kernel)
theorem dX7_copy_31 : decode cX7_copy 31 = .ok (.aload_n 0, 1) := zr0 zk_42 (zat_w (k := 1) (p := 15) (w := zw_cX7_copy_1) zw_cX7_copy_ok rfl (by decide +kernel))
theorem dX7_copy_32 : decode cX7_copy 32 = .ok (.getfield 38, 3) := zr2u zk_180 (x0 := 0) (x1 := 38) (zat_w (k := 2) (p := 0) (w := zw_cX7_copy_2) zw_cX7_copy_ok rfl (by decide +kernel)) (by decide +kernel)
theorem dX7_copy_35 : decode cX7_copy 35 = .ok (.iload_n 3, 1) := zr0 zk_29 (zat_w (k := 2) (p := 3) (w := zw_cX7_copy_2) zw_cX7_copy_ok rfl (by decide +kernel))
theorem dX7_copy_36 : decode cX7_copy 36 = .ok (.iaload, 1) := zr0 zk_46 (zat_w (k := 2) (p := 4) (w := zw_cX7_copy_2) zw_cX7_copy_ok rfl (by decide +kernel))
theorem dX7_copy_37 : decode cX7_copy 37 = .ok (.iconst (-1), 1) := zr0 zk_2 (zat_w (k := 2) (p := 5) (w := zw_cX7_copy_2) zw_cX7_copy_ok rfl (by decide +kernel))
theorem dX7_copy_38 : decode cX7_copy 38 = .ok (.if_icmp .ne 6, 3) := zr2s zk_160 (x0 := 0) (x1 := 6) (zat_w (k := 2) (p := 6) (w := zw_cX7_copy_2) zw_cX7_copy_ok rfl (by decide +kernel)) (by decide +kernel)
theorem dX7_copy_41 : decode cX7_copy 41 = .ok (.bipush (-11), 2) := zr1s zk_16 (x0 := 245) (zat_w (k := 2) (p := 9) (w := zw_cX7_copy_2) zw_cX7_copy_ok rfl (by decide +kernel)) (by decide +kernel)
theorem dX7_copy_43 : decode cX7_copy 43 = .ok (.ireturn, 1) := zr0 zk_172 (zat_w (k := 2) (p := 11) (w := zw_cX7_copy_2) zw_cX7_copy_ok rfl (by decide +kernel))
theorem dX7_copy_44 : decode cX7_copy 44 = .ok (.aload_n 0, 1) := zr0 zk_42 (zat_w (k := 2) (p := 12) (w := zw_cX7_copy_2) zw_cX7_copy_ok rfl (by decide +kernel))
theorem dX7_copy_45 : decode cX7_copy 45 = .ok (.getfield 38, 3) := zr2u zk_180 (x0 := 0) (x1 := 38) (zat_w (k := 2) (p := 13) (w := zw_cX7_copy_2) zw_cX7_copy_ok rfl (by decide +kernel)) (by decide +kernel)
theorem dX7_copy_48 : decode cX7_copy 48 = .ok (.iload_n 1, 1) := zr0 zk_27 (zat_w (k := 3) (p := 0) (w := zw_cX7_copy_3) zw_cX7_copy_ok rfl (by decide +kernel))
theorem dX7_copy_49 : decode cX7_copy 49 = .ok (.iaload, 1) := zr0 zk_46 (zat_w (k := 3) (p := 1) (w := zw_cX7_copy_3) zw_cX7_copy_ok rfl (by decide +kernel))
theorem dX7_copy_50 : decode cX7_copy 50 = .ok (.aload_n 0, 1) := zr0 zk_42 (zat_w (k := 3) (p := 2) (w := zw_cX7_copy_3) zw_cX7_copy_ok rfl (by decide +kernel))
theorem dX7_copy_51 : decode cX7_copy 51 = .ok (.getfield 38, 3) := zr2u zk_180 (x0 := 0) (x1 := 38) (zat_w (k := 3) (p := 3) (w := zw_cX7_copy_3) zw_cX7_copy_ok rfl (by decide +kernel)) (by decide +kernel)
theorem dX7_copy_54 : decode cX7_copy 54 = .ok (.iload_n 3, 1) := zr0 zk_29 (zat_w (k := 3) (p := 6) (w := zw_cX7_copy_3) zw_cX7_copy_ok rfl (by decide +kernel))
theorem dX7_copy_55 : decode cX7_copy 55 = .ok (.iaload, 1) := zr0 zk_46 (zat_w (k := 3) (p := 7) (w := zw_cX7_copy_3) zw_cX7_copy_ok rfl (by decide +kernel))
theorem dX7_copy_56 : decode cX7_copy 56 = .ok (.if_icmp .eq 6, 3) := zr2s zk_159 (x0 := 0) (x1 := 6) (zat_w (k := 3) (p := 8) (w := zw_cX7_copy_3) zw_cX7_copy_ok rfl (by decide +kernel)) (by decide +kernel)
theorem dX7_copy_59 : decode cX7_copy 59 = .ok (.bipush (-13), 2) := zr1s zk_16 (x0 := 243) (zat_w (k := 3) (p := 11) (w := zw_cX7_copy_3) zw_cX7_copy_ok rfl (by decide +kernel)) (by decide +kernel)
theorem dX7_copy_61 : decode cX7_copy 61 = .ok (.ireturn, 1) := zr0 zk_172 (zat_w (k := 3) (p := 13) (w := zw_cX7_copy_3) zw_cX7_copy_ok rfl (by decide +kernel))
theorem dX7_copy_62 : decode cX7_copy 62 = .ok (.iload 5, 2) := zr1u zk_21 (x0 := 5) (zat_w (k := 3) (p := 14) (w := zw_cX7_copy_3) zw_cX7_copy_ok rfl (by decide +kernel)) (by decide +kernel)
theorem dX7_copy_64 : decode cX7_copy 64 = .ok (.ifCond .lt 60, 3) := zr2s zk_155 (x0 := 0) (x1 := 60) (zat_w (k := 4) (p := 0) (w := zw_cX7_copy_4) zw_cX7_copy_ok rfl (by decide +kernel)) (by decide +kernel)
theorem dX7_copy_67 : decode cX7_copy 67 = .ok (.iload_n 2, 1) := zr0 zk_28 (zat_w (k := 4) (p := 3) (w := zw_cX7_copy_4) zw_cX7_copy_ok rfl (by decide +kernel))
theorem dX7_copy_68 : decode cX7_copy 68 = .ok (.ifCond .lt 56, 3) := zr2s zk_155 (x0 := 0) (x1 := 56) (zat_w (k := 4) (p := 4) (w := zw_cX7_copy_4) zw_cX7_copy_ok rfl (by decide +kernel)) (by decide +kernel)
theorem dX7_copy_71 : decode cX7_copy 71 = .ok (.iload 4, 2) := zr1u zk_21 (x0 := 4) (zat_w (k := 4) (p := 7) (w := zw_cX7_copy_4) zw_cX7_copy_ok rfl (by decide +kernel)) (by decide +kernel)
theorem dX7_copy_73 : decode cX7_copy 73 = .ok (.ifCond .lt 51, 3) := zr2s zk_155 (x0 := 0) (x1 := 51) (zat_w (k := 4) (p := 9) (w := zw_cX7_copy_4) zw_cX7_copy_ok rfl (by decide +kernel)) (by decide +kernel)
theorem dX7_copy_76 : decode cX7_copy 76 = .ok (.iload_n 2, 1) := zr0 zk_28 (zat_w (k := 4) (p := 12) (w := zw_cX7_copy_4) zw_cX7_copy_ok rfl (by decide +kernel))
theorem dX7_copy_77 : decode cX7_copy 77 = .ok (.aload_n 0, 1) := zr0 zk_42 (zat_w (k := 4) (p := 13) (w := zw_cX7_copy_4) zw_cX7_copy_ok rfl (by decide +kernel))
theorem dX7_copy_78 : decode cX7_copy 78 = .ok (.getfield 41, 3) := zr2u zk_180 (x0 := 0) (x1 := 41) (zat_w (k := 4) (p := 14) (w := zw_cX7_copy_4) zw_cX7_copy_ok rfl (by decide +kernel)) (by decide +kernel)
theorem dX7_copy_81 : decode cX7_copy 81 = .ok (.iload_n 1, 1) := zr0 zk_27 (zat_w (k := 5) (p := 1) (w := zw_cX7_copy_5) zw_cX7_copy_ok rfl (by decide +kernel))
theorem dX7_copy_82 : decode cX7_copy 82 = .ok (.iaload, 1) := zr0 zk_46 (zat_w (k := 5) (p := 2) (w := zw_cX7_copy_5) zw_cX7_copy_ok rfl (by decide +kernel))
theorem dX7_copy_83 : decode cX7_copy 83 = .ok (.if_icmp .gt 41, 3) := zr2s zk_163 (x0 := 0) (x1 := 41) (zat_w (k := 5) (p := 3) (w := zw_cX7_copy_5) zw_cX7_copy_ok rfl (by decide +kernel)) (by decide +kernel)
theorem dX7_copy_86 : decode cX7_copy 86 = .ok (.iload 4, 2) := zr1u zk_21 (x0 := 4) (zat_w (k := 5) (p := 6) (w := zw_cX7_copy_5) zw_cX7_copy_ok rfl (by decide +kernel)) (by decide +kernel)
theorem dX7_copy_88 : decode cX7_copy 88 = .ok (.aload_n 0, 1) := zr0 zk_42 (zat_w (k := 5) (p := 8) (w := zw_cX7_copy_5) zw_cX7_copy_ok rfl (by decide +kernel))
theorem dX7_copy_89 : decode cX7_copy 89 = .ok (.getfield 41, 3) := zr2u zk_180 (x0 := 0) (x1 := 41) (zat_w (k := 5) (p := 9) (w := zw_cX7_copy_5) zw_cX7_copy_ok rfl (by decide +kernel)) (by decide +kernel)
theorem dX7_copy_92 : decode cX7_copy 92 = .ok (.iload_n 3, 1) := zr0 zk_29 (zat_w (k := 5) (p := 12) (w := zw_cX7_copy_5) zw_cX7_copy_ok rfl (by decide +kernel))
theorem dX7_copy_93 : decode cX7_copy 93 = .ok (.iaload, 1) := zr0 zk_46 (zat_w (k := 5) (p := 13) (w := zw_cX7_copy_5) zw_cX7_copy_ok rfl (by decide +kernel))
theorem dX7_copy_94 : decode cX7_copy 94 = .ok (.if_icmp .gt 30, 3) := zr2s zk_163 (x0 := 0) (x1 := 30) (zat_w (k := 5) (p := 14) (w := zw_cX7_copy_5) zw_cX7_copy_ok rfl (by decide +kernel)) (by decide +kernel)
theorem dX7_copy_97 : decode cX7_copy 97 = .ok (.iload 5, 2) := zr1u zk_21 (x0 := 5) (zat_w (k := 6) (p := 1) (w := zw_cX7_copy_6) zw_cX7_copy_ok rfl (by decide +kernel)) (by decide +kernel)
theorem dX7_copy_99 : decode cX7_copy 99 = .ok (.aload_n 0, 1) := zr0 zk_42 (zat_w (k := 6) (p := 3) (w := zw_cX7_copy_6) zw_cX7_copy_ok rfl (by decide +kernel))
theorem dX7_copy_100 : decode cX7_copy 100 = .ok (.getfield 41, 3) := zr2u zk_180 (x0 := 0) (x1 := 41) (zat_w (k := 6) (p := 4) (w := zw_cX7_copy_6) zw_cX7_copy_ok rfl (by decide +kernel)) (by decide +kernel)
theorem dX7_copy_103 : decode cX7_copy 103 = .ok (.iload_n 1, 1) := zr0 zk_27 (zat_w (k := 6) (p := 7) (w := zw_cX7_copy_6) zw_cX7_copy_ok rfl (by decide +kernel))
theorem dX7_copy_104 : decode cX7_copy 104 = .ok (.iaload, 1) := zr0 zk_46 (zat_w (k := 6) (p := 8) (w := zw_cX7_copy_6) zw_cX7_copy_ok rfl (by decide +kernel))
theorem dX7_copy_105 : decode cX7_copy 105 = .ok (.iload_n 2, 1) := zr0 zk_28 (zat_w (k := 6) (p := 9) (w := zw_cX7_copy_6) zw_cX7_copy_ok rfl (by decide +kernel))
theorem dX7_copy_106 : decode cX7_copy 106 = .ok (.isub, 1) := zr0 zk_100 (zat_w (k := 6) (p := 10) (w := zw_cX7_copy_6) zw_cX7_copy_ok rfl (by decide +kernel))
theorem dX7_copy_107 : decode cX7_copy 107 = .ok (.if_icmp .gt 17, 3) := zr2s zk_163 (x0 := 0) (x1 := 17) (zat_w (k := 6) (p := 11) (w := zw_cX7_copy_6) zw_cX7_copy_ok rfl (by decide +kernel)) (by decide +kernel)
theorem dX7_copy_110 : decode cX7_copy 110 = .ok (.iload 5, 2) := zr1u zk_21 (x0 := 5) (zat_w (k := 6) (p := 14) (w := zw_cX7_copy_6) zw_cX7_copy_ok rfl (by decide +kernel)) (by decide +kernel)
theorem dX7_copy_112 : decode cX7_copy 112 = .ok (.aload_n 0, 1) := zr0 zk_42 (zat_w (k := 7) (p := 0) (w := zw_cX7_copy_7) zw_cX7_copy_ok rfl (by decide +kernel))
theorem dX7_copy_113 : decode cX7_copy 113 = .ok (.getfield 41, 3) := zr2u zk_180 (x0 := 0) (x1 := 41) (zat_w (k := 7) (p := 1) (w := zw_cX7_copy_7) zw_cX7_copy_ok rfl (by decide +kernel)) (by decide +kernel)
theorem dX7_copy_116 : decode cX7_copy 116 = .ok (.iload_n 3, 1) := zr0 zk_29 (zat_w (k := 7) (p := 4) (w := zw_cX7_copy_7) zw_cX7_copy_ok rfl (by decide +kernel))
theorem dX7_copy_117 : decode cX7_copy 117 = .ok (.iaload, 1) := zr0 zk_46 (zat_w (k := 7) (p := 5) (w := zw_cX7_copy_7) zw_cX7_copy_ok rfl (by decide +kernel))
theorem dX7_copy_118 : decode cX7_copy 118 = .ok (.iload 4, 2) := zr1u zk_21 (x0 := 4) (zat_w (k := 7) (p := 6) (w := zw_cX7_copy_7) zw_cX7_copy_ok rfl (by decide +kernel)) (by decide +kernel)
theorem dX7_copy_120 : decode cX7_copy 120 = .ok (.isub, 1) := zr0 zk_100 (zat_w (k := 7) (p := 8) (w := zw_cX7_copy_7) zw_cX7_copy_ok rfl (by decide +kernel))
theorem dX7_copy_121 : decode cX7_copy 121 = .ok (.if_icmp .le 6, 3) := zr2s zk_164 (x0 := 0) (x1 := 6) (zat_w (k := 7) (p := 9) (w := zw_cX7_copy_7) zw_cX7_copy_ok rfl (by decide +kernel)) (by decide +kernel)
theorem dX7_copy_124 : decode cX7_copy 124 = .ok (.bipush (-12), 2) := zr1s zk_16 (x0 := 244) (zat_w (k := 7) (p := 12) (w := zw_cX7_copy_7) zw_cX7_copy_ok rfl (by decide +kernel)) (by decide +kernel)
theorem dX7_copy_126 : decode cX7_copy 126 = .ok (.ireturn, 1) := zr0 zk_172 (zat_w (k := 7) (p := 14) (w := zw_cX7_copy_7) zw_cX7_copy_ok rfl (by decide +kernel))
theorem dX7_copy_127 : decode cX7_copy 127 = .ok (.bipush 40, 2) := zr1s zk_16 (x0 := 40) (zat_w (k := 7) (p := 15) (w := zw_cX7_copy_7) zw_cX7_copy_ok rfl (by decide +kernel)) (by decide +kernel)
theorem dX7_copy_129 : decode cX7_copy 129 = .ok (.iload_n 1, 1) := zr0 zk_27 (zat_w (k := 8) (p := 1) (w := zw_cX7_copy_8) zw_cX7_copy_ok rfl (by decide +kernel))
theorem dX7_copy_130 : decode cX7_copy 130 = .ok (.imul, 1) := zr0 zk_104 (zat_w (k := 8) (p := 2) (w := zw_cX7_copy_8) zw_cX7_copy_ok rfl (by decide +kernel))
theorem dX7_copy_131 : decode cX7_copy 131 = .ok (.iload_n 2, 1) := zr0 zk_28 (zat_w (k := 8) (p := 3) (w := zw_cX7_copy_8) zw_cX7_copy_ok rfl (by decide +kernel))
theorem dX7_copy_132 : decode cX7_copy 132 = .ok (.iadd, 1) := zr0 zk_96 (zat_w (k := 8) (p := 4) (w := zw_cX7_copy_8) zw_cX7_copy_ok rfl (by decide +kernel))
theorem dX7_copy_133 : decode cX7_copy 133 = .ok (.istore 6, 2) := zr1u zk_54 (x0 := 6) (zat_w (k := 8) (p := 5) (w := zw_cX7_copy_8) zw_cX7_copy_ok rfl (by decide +kernel)) (by decide +kernel)
theorem dX7_copy_135 : decode cX7_copy 135 = .ok (.bipush 40, 2) := zr1s zk_16 (x0 := 40) (zat_w (k := 8) (p := 7) (w := zw_cX7_copy_8) zw_cX7_copy_ok rfl (by decide +kernel)) (by decide +kernel)
theorem dX7_copy_137 : decode cX7_copy 137 = .ok (.iload_n 3, 1) := zr0 zk_29 (zat_w (k := 8) (p := 9) (w := zw_cX7_copy_8) zw_cX7_copy_ok rfl (by decide +kernel))
theorem dX7_copy_138 : decode cX7_copy 138 = .ok (.imul, 1) := zr0 zk_104 (zat_w (k := 8) (p := 10) (w := zw_cX7_copy_8) zw_cX7_copy_ok rfl (by decide +kernel))
theorem dX7_copy_139 : decode cX7_copy 139 = .ok (.iload 4, 2) := zr1u zk_21 (x0 := 4) (zat_w (k := 8) (p := 11) (w := zw_cX7_copy_8) zw_cX7_copy_ok rfl (by decide +kernel)) (by decide +kernel)
theorem dX7_copy_141 : decode cX7_copy 141 = .ok (.iadd, 1) := zr0 zk_96 (zat_w (k := 8) (p := 13) (w := zw_cX7_copy_8) zw_cX7_copy_ok rfl (by decide +kernel))
theorem dX7_copy_142 : decode cX7_copy 142 = .ok (.istore 7, 2) := zr1u zk_54 (x0 := 7) (zat_w (k := 8) (p := 14) (w := zw_cX7_copy_8) zw_cX7_copy_ok rfl (by decide +kernel)) (by decide +kernel)
theorem dX7_copy_144 : decode cX7_copy 144 = .ok (.iconst 0, 1) := zr0 zk_3 (zat_w (k := 9) (p := 0) (w := zw_cX7_copy_9) zw_cX7_copy_ok rfl (by decide +kernel))
theorem dX7_copy_145 : decode cX7_copy 145 = .ok (.istore 8, 2) := zr1u zk_54 (x0 := 8) (zat_w (k := 9) (p := 1) (w := zw_cX7_copy_9) zw_cX7_copy_ok rfl (by decide +kernel)) (by decide +kernel)
theorem dX7_copy_147 : decode cX7_copy 147 = .ok (.iload 8, 2) := zr1u zk_21 (x0 := 8) (zat_w (k := 9) (p := 3) (w := zw_cX7_copy_9) zw_cX7_copy_ok rfl (by decide +kernel)) (by decide +kernel)
theorem dX7_copy_149 : decode cX7_copy 149 = .ok (.iload 5, 2) := zr1u zk_21 (x0 := 5) (zat_w (k := 9) (p := 5) (w := zw_cX7_copy_9) zw_cX7_copy_ok rfl (by decide +kernel)) (by decide +kernel)
theorem dX7_copy_151 : decode cX7_copy 151 = .ok (.if_icmp .ge 50, 3) := zr2s zk_162 (x0 := 0) (x1 := 50) (zat_w (k := 9) (p := 7) (w := zw_cX7_copy_9) zw_cX7_copy_ok rfl (by decide +kernel)) (by decide +kernel)
theorem dX7_copy_154 : decode cX7_copy 154 = .ok (.iload 6, 2) := zr1u zk_21 (x0 := 6) (zat_w (k := 9) (p := 10) (w := zw_cX7_copy_9) zw_cX7_copy_ok rfl (by decide +kernel)) (by decide +kernel)
theorem dX7_copy_156 : decode cX7_copy 156 = .ok (.iload 7, 2) := zr1u zk_21 (x0 := 7) (zat_w (k := 9) (p := 12) (w := zw_cX7_copy_9) zw_cX7_copy_ok rfl (by decide +kernel)) (by decide +kernel)
theorem dX7_copy_158 : decode cX7_copy 158 = .ok (.if_icmp .ge 13, 3) := zr2s zk_162 (x0 := 0) (x1 := 13) (zat_w (k := 9) (p := 14) (w := zw_cX7_copy_9) zw_cX7_copy_ok rfl (by decide +kernel)) (by decide +kernel)
theorem dX7_copy_161 : decode cX7_copy 161 = .ok (.iload 5, 2) := zr1u zk_21 (x0 := 5) (zat_w (k := 10) (p := 1) (w := zw_cX7_copy_10) zw_cX7_copy_ok rfl (by decide +kernel)) (by decide +kernel)
theorem dX7_copy_163 : decode cX7_copy 163 = .ok (.iconst 1, 1) := zr0 zk_4 (zat_w (k := 10) (p := 3) (w := zw_cX7_copy_10) zw_cX7_copy_ok rfl (by decide +kernel))
theorem dX7_copy_164 : decode cX7_copy 164 = .ok (.isub, 1) := zr0 zk_100 (zat_w (k := 10) (p := 4) (w := zw_cX7_copy_10) zw_cX7_copy_ok rfl (by decide +kernel))
theorem dX7_copy_165 : decode cX7_copy 165 = .ok (.iload 8, 2) := zr1u zk_21 (x0 := 8) (zat_w (k := 10) (p := 5) (w := zw_cX7_copy_10) zw_cX7_copy_ok rfl (by decide +kernel)) (by decide +kernel)
theorem dX7_copy_167 : decode cX7_copy 167 = .ok (.isub, 1) := zr0 zk_100 (zat_w (k := 10) (p := 7) (w := zw_cX7_copy_10) zw_cX7_copy_ok rfl (by decide +kernel))
theorem dX7_copy_168 : decode cX7_copy 168 = .ok (.goto 5, 3) := zr2s zk_167 (x0 := 0) (x1 := 5) (zat_w (k := 10) (p := 8) (w := zw_cX7_copy_10) zw_cX7_copy_ok rfl (by decide +kernel)) (by decide +kernel)
theorem dX7_copy_171 : decode cX7_copy 171 = .ok (.iload 8, 2) := zr1u zk_21 (x0 := 8) (zat_w (k := 10) (p := 11) (w := zw_cX7_copy_10) zw_cX7_copy_ok rfl (by decide +kernel)) (by decide +kernel)
theorem dX7_copy_173 : decode cX7_copy 173 = .ok (.istore 9, 2) := zr1u zk_54 (x0 := 9) (zat_w (k := 10) (p := 13) (w := zw_cX7_copy_10) zw_cX7_copy_ok rfl (by decide +kernel)) (by decide +kernel)
theorem dX7_copy_175 : decode cX7_copy 175 = .ok (.aload_n 0, 1) := zr0 zk_42 (zat_w (k := 10) (p := 15) (w := zw_cX7_copy_10) zw_cX7_copy_ok rfl (by decide +kernel))
theorem dX7_copy_176 : decode cX7_copy 176 = .ok (.getfield 44, 3) := zr2u zk_180 (x0 := 0) (x1 := 44) (zat_w (k := 11) (p := 0) (w := zw_cX7_copy_11) zw_cX7_copy_ok rfl (by decide +kernel)) (by decide +kernel)
theorem dX7_copy_179 : decode cX7_copy 179 = .ok (.iload 7, 2) := zr1u zk_21 (x0 := 7) (zat_w (k := 11) (p := 3) (w := zw_cX7_copy_11) zw_cX7_copy_ok rfl (by decide +kernel)) (by decide +kernel)
theorem dX7_copy_181 : decode cX7_copy 181 = .ok (.iload 9, 2) := zr1u zk_21 (x0 := 9) (zat_w (k := 11) (p := 5) (w := zw_cX7_copy_11) zw_cX7_copy_ok rfl (by decide +kernel)) (by decide +kernel)
theorem dX7_copy_183 : decode cX7_copy 183 = .ok (.iadd, 1) := zr0 zk_96 (zat_w (k := 11) (p := 7) (w := zw_cX7_copy_11) zw_cX7_copy_ok rfl (by decide +kernel))
theorem dX7_copy_184 : decode cX7_copy 184 = .ok (.aload_n 0, 1) := zr0 zk_42 (zat_w (k := 11) (p := 8) (w := zw_cX7_copy_11) zw_cX7_copy_ok rfl (by decide +kernel))
theorem dX7_copy_185 : decode cX7_copy 185 = .ok (.getfield 44, 3) := zr2u zk_180 (x0 := 0) (x1 := 44) (zat_w (k := 11) (p := 9) (w := zw_cX7_copy_11) zw_cX7_copy_ok rfl (by decide +kernel)) (by decide +kernel)
theorem dX7_copy_188 : decode cX7_copy 188 = .ok (.iload 6, 2) := zr1u zk_21 (x0 := 6) (zat_w (k := 11) (p := 12) (w := zw_cX7_copy_11) zw_cX7_copy_ok rfl (by decide +kernel)) (by decide +kernel)
theorem dX7_copy_190 : decode cX7_copy 190 = .ok (.iload 9, 2) := zr1u zk_21 (x0 := 9) (zat_w (k := 11) (p := 14) (w := zw_cX7_copy_11) zw_cX7_copy_ok rfl (by decide +kernel)) (by decide +kernel)
theorem dX7_copy_192 : decode cX7_copy 192 = .ok (.iadd, 1) := zr0 zk_96 (zat_w (k := 12) (p := 0) (w := zw_cX7_copy_12) zw_cX7_copy_ok rfl (by decide +kernel))
theorem dX7_copy_193 : decode cX7_copy 193 = .ok (.iaload, 1) := zr0 zk_46 (zat_w (k := 12) (p := 1) (w := zw_cX7_copy_12) zw_cX7_copy_ok rfl (by decide +kernel))
theorem dX7_copy_194 : decode cX7_copy 194 = .ok (.iastore, 1) := zr0 zk_79 (zat_w (k := 12) (p := 2) (w := zw_cX7_copy_12) zw_cX7_copy_ok rfl (by decide +kernel))
theorem dX7_copy_195 : decode cX7_copy 195 = .ok (.iinc 8 1, 3) := zrii zk_132 (x0 := 8) (x1 := 1) (zat_w (k := 12) (p := 3) (w := zw_cX7_copy_12) zw_cX7_copy_ok rfl (by decide +kernel)) (by decide +kernel)
theorem dX7_copy_198 : decode cX7_copy 198 = .ok (.goto (-51), 3) := zr2s zk_167 (x0 := 255) (x1 := 205) (zat_w (k := 12) (p := 6) (w := zw_cX7_copy_12) zw_cX7_copy_ok rfl (by decide +kernel)) (by decide +kernel)
theorem dX7_copy_201 : decode cX7_copy 201 = .ok (.iload 5, 2) := zr1u zk_21 (x0 := 5) (zat_w (k := 12) (p := 9) (w := zw_cX7_copy_12) zw_cX7_copy_ok rfl (by decide +kernel)) (by decide +kernel)
theorem dX7_copy_203 : decode cX7_copy 203 = .ok (.ireturn, 1) := zr0 zk_172 (zat_w (k := 12) (p := 11) (w := zw_cX7_copy_12) zw_cX7_copy_ok rfl (by decide +kernel))
def zw_cX7_clerksBy_0 : List UInt8 := [27, 3, 6, 184, 0, 75, 153, 0, 22, 28, 3, 5, 184, 0, 75, 153, 0, 13, 21, 4]
def zw_cX7_clerksBy_1 : List UInt8 := [0, 13, 21, 4, 3, 8, 184, 0, 75, 154, 0, 6, 16, 254, 172, 42, 180, 0, 38, 27]
def zw_cX7_clerksBy_2 : List UInt8 := [180, 0, 38, 27, 46, 2, 160, 0, 6, 16, 245, 172, 42, 180, 0, 38, 27, 46, 28, 159]
def zw_cX7_clerksBy_3 : List UInt8 := [27, 46, 28, 159, 0, 6, 16, 243, 172, 3, 54, 5, 3, 54, 6, 21, 6, 21, 4, 162]
def zw_cX7_clerksBy_4 : List UInt8 := [6, 21, 4, 162, 0, 85, 29, 5, 21, 6, 104, 96, 54, 7, 29, 155, 0, 22, 21, 7]
def zw_cX7_clerksBy_5 : List UInt8 := [0, 22, 21, 7, 29, 161, 0, 16, 21, 7, 42, 180, 0, 41, 27, 46, 5, 100, 164, 0]
def zw_cX7_clerksBy_6 : List UInt8 := [5, 100, 164, 0, 6, 16, 244, 172, 16, 40, 27, 104, 21, 7, 96, 54, 8, 21, 5, 42]
def zw_cX7_clerksBy_7 : List UInt8 := [8, 21, 5, 42, 42, 180, 0, 44, 21, 8, 46, 42, 180, 0, 44, 21, 8, 4, 96, 46]
def zw_cX7_clerksBy_8 : List UInt8 := [8, 4, 96, 46, 182, 1, 52, 155, 0, 7, 4, 167, 0, 4, 3, 96, 54, 5, 132, 6]
def zw_cX7_clerksBy_9 : List UInt8 := [54, 5, 132, 6, 1, 167, 255, 170, 21, 5, 172]
def zw_cX7_clerksBy : List (List UInt8) := [zw_cX7_clerksBy_0, zw_cX7_clerksBy_1, zw_cX7_clerksBy_2, zw_cX7_clerksBy_3, zw_cX7_clerksBy_4, zw_cX7_clerksBy_5, zw_cX7_clerksBy_6, zw_cX7_clerksBy_7, zw_cX7_clerksBy_8, zw_cX7_clerksBy_9]
theorem zw_cX7_clerksBy_ok : zwin 10 cX7_clerksBy.data.toList = zw_cX7_clerksBy := by decide +kernel
theorem dX7_clerksBy_0 : decode cX7_clerksBy 0 = .ok (.iload_n 1, 1) := zr0 zk_27 (zat_w (k := 0) (p := 0) (w := zw_cX7_clerksBy_0) zw_cX7_clerksBy_ok rfl (by decide +kernel))
theorem dX7_clerksBy_1 : decode cX7_clerksBy 1 = .ok (.iconst 0, 1) := zr0 zk_3 (zat_w (k := 0) (p := 1) (w := zw_cX7_clerksBy_0) zw_cX7_clerksBy_ok rfl (by decide +kernel))
theorem dX7_clerksBy_2 : decode cX7_clerksBy 2 = .ok (.iconst 3, 1) := zr0 zk_6 (zat_w (k := 0) (p := 2) (w := zw_cX7_clerksBy_0) zw_cX7_clerksBy_ok rfl (by decide +kernel))
theorem dX7_clerksBy_3 : decode cX7_clerksBy 3 = .ok (.invokestatic 75, 3) := zr2u zk_184 (x0 := 0) (x1 := 75) (zat_w (k := 0) (p := 3) (w := zw_cX7_clerksBy_0) zw_cX7_clerksBy_ok rfl (by decide +kernel)) (by decide +kernel)
theorem dX7_clerksBy_6 : decode cX7_clerksBy 6 = .ok (.ifCond .eq 22, 3) := zr2s zk_153 (x0 := 0) (x1 := 22) (zat_w (k := 0) (p := 6) (w := zw_cX7_clerksBy_0) zw_cX7_clerksBy_ok rfl (by decide +kernel)) (by decide +kernel)
theorem dX7_clerksBy_9 : decode cX7_clerksBy 9 = .ok (.iload_n 2, 1) := zr0 zk_28 (zat_w (k := 0) (p := 9) (w := zw_cX7_clerksBy_0) zw_cX7_clerksBy_ok rfl (by decide +kernel))
theorem dX7_clerksBy_10 : decode cX7_clerksBy 10 = .ok (.iconst 0, 1) := zr0 zk_3 (zat_w (k := 0) (p := 10) (w := zw_cX7_clerksBy_0) zw_cX7_clerksBy_ok rfl (by decide +kernel))
theorem dX7_clerksBy_11 : decode cX7_clerksBy 11 = .ok (.iconst 2, 1) := zr0 zk_5 (zat_w (k := 0) (p := 11) (w := zw_cX7_clerksBy_0) zw_cX7_clerksBy_ok rfl (by decide +kernel))
theorem dX7_clerksBy_12 : decode cX7_clerksBy 12 = .ok (.invokestatic 75, 3) := zr2u zk_184 (x0 := 0) (x1 := 75) (zat_w (k := 0) (p := 12) (w := zw_cX7_clerksBy_0) zw_cX7_clerksBy_ok rfl (by decide +kernel)) (by decide +kernel)
theorem dX7_clerksBy_15 : decode cX7_clerksBy 15 = .ok (.ifCond .eq 13, 3) := zr2s zk_153 (x0 := 0) (x1 := 13) (zat_w (k := 0) (p := 15) (w := zw_cX7_clerksBy_0) zw_cX7_clerksBy_ok rfl (by decide +kernel)) (by decide +kernel)
theorem dX7_clerksBy_18 : decode cX7_clerksBy 18 = .ok (.iload 4, 2) := zr1u zk_21 (x0 := 4) (zat_w (k := 1) (p := 2) (w := zw_cX7_clerksBy_1) zw_cX7_clerksBy_ok rfl (by decide +kernel)) (by decide +kernel)
theorem dX7_clerksBy_20 : decode cX7_clerksBy 20 = .ok (.iconst 0, 1) := zr0 zk_3 (zat_w (k := 1) (p := 4) (w := zw_cX7_clerksBy_1) zw_cX7_clerksBy_ok rfl (by decide +kernel))
theorem dX7_clerksBy_21 : decode cX7_clerksBy 21 = .ok (.iconst 5, 1) := zr0 zk_8 (zat_w (k := 1) (p := 5) (w := zw_cX7_clerksBy_1) zw_cX7_clerksBy_ok rfl (by decide +kernel))
theorem dX7_clerksBy_22 : decode cX7_clerksBy 22 = .ok (.invokestatic 75, 3) := zr2u zk_184 (x0 := 0) (x1 := 75) (zat_w (k := 1) (p := 6) (w := zw_cX7_clerksBy_1) zw_cX7_clerksBy_ok rfl (by decide +kernel)) (by decide +kernel)
theorem dX7_clerksBy_25 : decode cX7_clerksBy 25 = .ok (.ifCond .ne 6, 3) := zr2s zk_154 (x0 := 0) (x1 := 6) (zat_w (k := 1) (p := 9) (w := zw_cX7_clerksBy_1) zw_cX7_clerksBy_ok rfl (by decide +kernel)) (by decide +kernel)
theorem dX7_clerksBy_28 : decode cX7_clerksBy 28 = .ok (.bipush (-2), 2) := zr1s zk_16 (x0 := 254) (zat_w (k := 1) (p := 12) (w := zw_cX7_clerksBy_1) zw_cX7_clerksBy_ok rfl (by decide +kernel)) (by decide +kernel)
theorem dX7_clerksBy_30 : decode cX7_clerksBy 30 = .ok (.ireturn, 1) := zr0 zk_172 (zat_w (k := 1) (p := 14) (w := zw_cX7_clerksBy_1) zw_cX7_clerksBy_ok rfl (by decide +kernel))
theorem dX7_clerksBy_31 : decode cX7_clerksBy 31 = .ok (.aload_n 0, 1) := zr0 zk_42 (zat_w (k := 1) (p := 15) (w := zw_cX7_clerksBy_1) zw_cX7_clerksBy_ok rfl (by decide +kernel))
theorem dX7_clerksBy_32 : decode cX7_clerksBy 32 = .ok (.getfield 38, 3) := zr2u zk_180 (x0 := 0) (x1 := 38) (zat_w (k := 2) (p := 0) (w := zw_cX7_clerksBy_2) zw_cX7_clerksBy_ok rfl (by decide +kernel)) (by decide +kernel)
theorem dX7_clerksBy_35 : decode cX7_clerksBy 35 = .ok (.iload_n 1, 1) := zr0 zk_27 (zat_w (k := 2) (p := 3) (w := zw_cX7_clerksBy_2) zw_cX7_clerksBy_ok rfl (by decide +kernel))
theorem dX7_clerksBy_36 : decode cX7_clerksBy 36 = .ok (.iaload, 1) := zr0 zk_46 (zat_w (k := 2) (p := 4) (w := zw_cX7_clerksBy_2) zw_cX7_clerksBy_ok rfl (by decide +kernel))
theorem dX7_clerksBy_37 : decode cX7_clerksBy 37 = .ok (.iconst (-1), 1) := zr0 zk_2 (zat_w (k := 2) (p := 5) (w := zw_cX7_clerksBy_2) zw_cX7_clerksBy_ok rfl (by decide +kernel))
theorem dX7_clerksBy_38 : decode cX7_clerksBy 38 = .ok (.if_icmp .ne 6, 3) := zr2s zk_160 (x0 := 0) (x1 := 6) (zat_w (k := 2) (p := 6) (w := zw_cX7_clerksBy_2) zw_cX7_clerksBy_ok rfl (by decide +kernel)) (by decide +kernel)
theorem dX7_clerksBy_41 : decode cX7_clerksBy 41 = .ok (.bipush (-11), 2) := zr1s zk_16 (x0 := 245) (zat_w (k := 2) (p := 9) (w := zw_cX7_clerksBy_2) zw_cX7_clerksBy_ok rfl (by decide +kernel)) (by decide +kernel)
theorem dX7_clerksBy_43 : decode cX7_clerksBy 43 = .ok (.ireturn, 1) := zr0 zk_172 (zat_w (k := 2) (p := 11) (w := zw_cX7_clerksBy_2) zw_cX7_clerksBy_ok rfl (by decide +kernel))
theorem dX7_clerksBy_44 : decode cX7_clerksBy 44 = .ok (.aload_n 0, 1) := zr0 zk_42 (zat_w (k := 2) (p := 12) (w := zw_cX7_clerksBy_2) zw_cX7_clerksBy_ok rfl (by decide +kernel))
theorem dX7_clerksBy_45 : decode cX7_clerksBy 45 = .ok (.getfield 38, 3) := zr2u zk_180 (x0 := 0) (x1 := 38) (zat_w (k := 2) (p := 13) (w := zw_cX7_clerksBy_2) zw_cX7_clerksBy_ok rfl (by decide +kernel)) (by decide +kernel)
theorem dX7_clerksBy_48 : decode cX7_clerksBy 48 = .ok (.iload_n 1, 1) := zr0 zk_27 (zat_w (k := 3) (p := 0) (w := zw_cX7_clerksBy_3) zw_cX7_clerksBy_ok rfl (by decide +kernel))
theorem dX7_clerksBy_49 : decode cX7_clerksBy 49 = .ok (.iaload, 1) := zr0 zk_46 (zat_w (k := 3) (p := 1) (w := zw_cX7_clerksBy_3) zw_cX7_clerksBy_ok rfl (by decide +kernel))
theorem dX7_clerksBy_50 : decode cX7_clerksBy 50 = .ok (.iload_n 2, 1) := zr0 zk_28 (zat_w (k := 3) (p := 2) (w := zw_cX7_clerksBy_3) zw_cX7_clerksBy_ok rfl (by decide +kernel))
theorem dX7_clerksBy_51 : decode cX7_clerksBy 51 = .ok (.if_icmp .eq 6, 3) := zr2s zk_159 (x0 := 0) (x1 := 6) (zat_w (k := 3) (p := 3) (w := zw_cX7_clerksBy_3) zw_cX7_clerksBy_ok rfl (by decide +kernel)) (by decide +kernel)
theorem dX7_clerksBy_54 : decode cX7_clerksBy 54 = .ok (.bipush (-13), 2) := zr1s zk_16 (x0 := 243) (zat_w (k := 3) (p := 6) (w := zw_cX7_clerksBy_3) zw_cX7_clerksBy_ok rfl (by decide +kernel)) (by decide +kernel)
theorem dX7_clerksBy_56 : decode cX7_clerksBy 56 = .ok (.ireturn, 1) := zr0 zk_172 (zat_w (k := 3) (p := 8) (w := zw_cX7_clerksBy_3) zw_cX7_clerksBy_ok rfl (by decide +kernel))
theorem dX7_clerksBy_57 : decode cX7_clerksBy 57 = .ok (.iconst 0, 1) := zr0 zk_3 (zat_w (k := 3) (p := 9) (w := zw_cX7_clerksBy_3) zw_cX7_clerksBy_ok rfl (by decide +kernel))
theorem dX7_clerksBy_58 : decode cX7_clerksBy 58 = .ok (.istore 5, 2) := zr1u zk_54 (x0 := 5) (zat_w (k := 3) (p := 10) (w := zw_cX7_clerksBy_3) zw_cX7_clerksBy_ok rfl (by decide +kernel)) (by decide +kernel)
theorem dX7_clerksBy_60 : decode cX7_clerksBy 60 = .ok (.iconst 0, 1) := zr0 zk_3 (zat_w (k := 3) (p := 12) (w := zw_cX7_clerksBy_3) zw_cX7_clerksBy_ok rfl (by decide +kernel))
theorem dX7_clerksBy_61 : decode cX7_clerksBy 61 = .ok (.istore 6, 2) := zr1u zk_54 (x0 := 6) (zat_w (k := 3) (p := 13) (w := zw_cX7_clerksBy_3) zw_cX7_clerksBy_ok rfl (by decide +kernel)) (by decide +kernel)
theorem dX7_clerksBy_63 : decode cX7_clerksBy 63 = .ok (.iload 6, 2) := zr1u zk_21 (x0 := 6) (zat_w (k := 3) (p := 15) (w := zw_cX7_clerksBy_3) zw_cX7_clerksBy_ok rfl (by decide +kernel)) (by decide +kernel)
theorem dX7_clerksBy_65 : decode cX7_clerksBy 65 = .ok (.iload 4, 2) := zr1u zk_21 (x0 := 4) (zat_w (k := 4) (p := 1) (w := zw_cX7_clerksBy_4) zw_cX7_clerksBy_ok rfl (by decide +kernel)) (by decide +kernel)
theorem dX7_clerksBy_67 : decode cX7_clerksBy 67 = .ok (.if_icmp .ge 85, 3) := zr2s zk_162 (x0 := 0) (x1 := 85) (zat_w (k := 4) (p := 3) (w := zw_cX7_clerksBy_4) zw_cX7_clerksBy_ok rfl (by decide +kernel)) (by decide +kernel)
theorem dX7_clerksBy_70 : decode cX7_clerksBy 70 = .ok (.iload_n 3, 1) := zr0 zk_29 (zat_w (k := 4) (p := 6) (w := zw_cX7_clerksBy_4) zw_cX7_clerksBy_ok rfl (by decide +kernel))
theorem dX7_clerksBy_71 : decode cX7_clerksBy 71 = .ok (.iconst 2, 1) := zr0 zk_5 (zat_w (k := 4) (p := 7) (w := zw_cX7_clerksBy_4) zw_cX7_clerksBy_ok rfl (by decide +kernel))
theorem dX7_clerksBy_72 : decode cX7_clerksBy 72 = .ok (.iload 6, 2) := zr1u zk_21 (x0 := 6) (zat_w (k := 4) (p := 8) (w := zw_cX7_clerksBy_4) zw_cX7_clerksBy_ok rfl (by decide +kernel)) (by decide +kernel)
theorem dX7_clerksBy_74 : decode cX7_clerksBy 74 = .ok (.imul, 1) := zr0 zk_104 (zat_w (k := 4) (p := 10) (w := zw_cX7_clerksBy_4) zw_cX7_clerksBy_ok rfl (by decide +kernel))
theorem dX7_clerksBy_75 : decode cX7_clerksBy 75 = .ok (.iadd, 1) := zr0 zk_96 (zat_w (k := 4) (p := 11) (w := zw_cX7_clerksBy_4) zw_cX7_clerksBy_ok rfl (by decide +kernel))
theorem dX7_clerksBy_76 : decode cX7_clerksBy 76 = .ok (.istore 7, 2) := zr1u zk_54 (x0 := 7) (zat_w (k := 4) (p := 12) (w := zw_cX7_clerksBy_4) zw_cX7_clerksBy_ok rfl (by decide +kernel)) (by decide +kernel)
theorem dX7_clerksBy_78 : decode cX7_clerksBy 78 = .ok (.iload_n 3, 1) := zr0 zk_29 (zat_w (k := 4) (p := 14) (w := zw_cX7_clerksBy_4) zw_cX7_clerksBy_ok rfl (by decide +kernel))
theorem dX7_clerksBy_79 : decode cX7_clerksBy 79 = .ok (.ifCond .lt 22, 3) := zr2s zk_155 (x0 := 0) (x1 := 22) (zat_w (k := 4) (p := 15) (w := zw_cX7_clerksBy_4) zw_cX7_clerksBy_ok rfl (by decide +kernel)) (by decide +kernel)
theorem dX7_clerksBy_82 : decode cX7_clerksBy 82 = .ok (.iload 7, 2) := zr1u zk_21 (x0 := 7) (zat_w (k := 5) (p := 2) (w := zw_cX7_clerksBy_5) zw_cX7_clerksBy_ok rfl (by decide +kernel)) (by decide +kernel)
theorem dX7_clerksBy_84 : decode cX7_clerksBy 84 = .ok (.iload_n 3, 1) := zr0 zk_29 (zat_w (k := 5) (p := 4) (w := zw_cX7_clerksBy_5) zw_cX7_clerksBy_ok rfl (by decide +kernel))
theorem dX7_clerksBy_85 : decode cX7_clerksBy 85 = .ok (.if_icmp .lt 16, 3) := zr2s zk_161 (x0 := 0) (x1 := 16) (zat_w (k := 5) (p := 5) (w := zw_cX7_clerksBy_5) zw_cX7_clerksBy_ok rfl (by decide +kernel)) (by decide +kernel)
theorem dX7_clerksBy_88 : decode cX7_clerksBy 88 = .ok (.iload 7, 2) := zr1u zk_21 (x0 := 7) (zat_w (k := 5) (p := 8) (w := zw_cX7_clerksBy_5) zw_cX7_clerksBy_ok rfl (by decide +kernel)) (by decide +kernel)
theorem dX7_clerksBy_90 : decode cX7_clerksBy 90 = .ok (.aload_n 0, 1) := zr0 zk_42 (zat_w (k := 5) (p := 10) (w := zw_cX7_clerksBy_5) zw_cX7_clerksBy_ok rfl (by decide +kernel))
theorem dX7_clerksBy_91 : decode cX7_clerksBy 91 = .ok (.getfield 41, 3) := zr2u zk_180 (x0 := 0) (x1 := 41) (zat_w (k := 5) (p := 11) (w := zw_cX7_clerksBy_5) zw_cX7_clerksBy_ok rfl (by decide +kernel)) (by decide +kernel)
theorem dX7_clerksBy_94 : decode cX7_clerksBy 94 = .ok (.iload_n 1, 1) := zr0 zk_27 (zat_w (k := 5) (p := 14) (w := zw_cX7_clerksBy_5) zw_cX7_clerksBy_ok rfl (by decide +kernel))
theorem dX7_clerksBy_95 : decode cX7_clerksBy 95 = .ok (.iaload, 1) := zr0 zk_46 (zat_w (k := 5) (p := 15) (w := zw_cX7_clerksBy_5) zw_cX7_clerksBy_ok rfl (by decide +kernel))
theorem dX7_clerksBy_96 : decode cX7_clerksBy 96 = .ok (.iconst 2, 1) := zr0 zk_5 (zat_w (k := 6) (p := 0) (w := zw_cX7_clerksBy_6) zw_cX7_clerksBy_ok rfl (by decide +kernel))
theorem dX7_clerksBy_97 : decode cX7_clerksBy 97 = .ok (.isub, 1) := zr0 zk_100 (zat_w (k := 6) (p := 1) (w := zw_cX7_clerksBy_6) zw_cX7_clerksBy_ok rfl (by decide +kernel))
theorem dX7_clerksBy_98 : decode cX7_clerksBy 98 = .ok (.if_icmp .le 6, 3) := zr2s zk_164 (x0 := 0) (x1 := 6) (zat_w (k := 6) (p := 2) (w := zw_cX7_clerksBy_6) zw_cX7_clerksBy_ok rfl (by decide +kernel)) (by decide +kernel)
theorem dX7_clerksBy_101 : decode cX7_clerksBy 101 = .ok (.bipush (-12), 2) := zr1s zk_16 (x0 := 244) (zat_w (k := 6) (p := 5) (w := zw_cX7_clerksBy_6) zw_cX7_clerksBy_ok rfl (by decide +kernel)) (by decide +kernel)
theorem dX7_clerksBy_103 : decode cX7_clerksBy 103 = .ok (.ireturn, 1) := zr0 zk_172 (zat_w (k := 6) (p := 7) (w := zw_cX7_clerksBy_6) zw_cX7_clerksBy_ok rfl (by decide +kernel))
theorem dX7_clerksBy_104 : decode cX7_clerksBy 104 = .ok (.bipush 40, 2) := zr1s zk_16 (x0 := 40) (zat_w (k := 6) (p := 8) (w := zw_cX7_clerksBy_6) zw_cX7_clerksBy_ok rfl (by decide +kernel)) (by decide +kernel)
theorem dX7_clerksBy_106 : decode cX7_clerksBy 106 = .ok (.iload_n 1, 1) := zr0 zk_27 (zat_w (k := 6) (p := 10) (w := zw_cX7_clerksBy_6) zw_cX7_clerksBy_ok rfl (by decide +kernel))
theorem dX7_clerksBy_107 : decode cX7_clerksBy 107 = .ok (.imul, 1) := zr0 zk_104 (zat_w (k := 6) (p := 11) (w := zw_cX7_clerksBy_6) zw_cX7_clerksBy_ok rfl (by decide +kernel))
theorem dX7_clerksBy_108 : decode cX7_clerksBy 108 = .ok (.iload 7, 2) := zr1u zk_21 (x0 := 7) (zat_w (k := 6) (p := 12) (w := zw_cX7_clerksBy_6) zw_cX7_clerksBy_ok rfl (by decide +kernel)) (by decide +kernel)
theorem dX7_clerksBy_110 : decode cX7_clerksBy 110 = .ok (.iadd, 1) := zr0 zk_96 (zat_w (k := 6) (p := 14) (w := zw_cX7_clerksBy_6) zw_cX7_clerksBy_ok rfl (by decide +kernel))
theorem dX7_clerksBy_111 : decode cX7_clerksBy 111 = .ok (.istore 8, 2) := zr1u zk_54 (x0 := 8) (zat_w (k := 6) (p := 15) (w := zw_cX7_clerksBy_6) zw_cX7_clerksBy_ok rfl (by decide +kernel)) (by decide +kernel)
theorem dX7_clerksBy_113 : decode cX7_clerksBy 113 = .ok (.iload 5, 2) := zr1u zk_21 (x0 := 5) (zat_w (k := 7) (p := 1) (w := zw_cX7_clerksBy_7) zw_cX7_clerksBy_ok rfl (by decide +kernel)) (by decide +kernel)
theorem dX7_clerksBy_115 : decode cX7_clerksBy 115 = .ok (.aload_n 0, 1) := zr0 zk_42 (zat_w (k := 7) (p := 3) (w := zw_cX7_clerksBy_7) zw_cX7_clerksBy_ok rfl (by decide +kernel))
theorem dX7_clerksBy_116 : decode cX7_clerksBy 116 = .ok (.aload_n 0, 1) := zr0 zk_42 (zat_w (k := 7) (p := 4) (w := zw_cX7_clerksBy_7) zw_cX7_clerksBy_ok rfl (by decide +kernel))
theorem dX7_clerksBy_117 : decode cX7_clerksBy 117 = .ok (.getfield 44, 3) := zr2u zk_180 (x0 := 0) (x1 := 44) (zat_w (k := 7) (p := 5) (w := zw_cX7_clerksBy_7) zw_cX7_clerksBy_ok rfl (by decide +kernel)) (by decide +kernel)
theorem dX7_clerksBy_120 : decode cX7_clerksBy 120 = .ok (.iload 8, 2) := zr1u zk_21 (x0 := 8) (zat_w (k := 7) (p := 8) (w := zw_cX7_clerksBy_7) zw_cX7_clerksBy_ok rfl (by decide +kernel)) (by decide +kernel)
theorem dX7_clerksBy_122 : decode cX7_clerksBy 122 = .ok (.iaload, 1) := zr0 zk_46 (zat_w (k := 7) (p := 10) (w := zw_cX7_clerksBy_7) zw_cX7_clerksBy_ok rfl (by decide +kernel))
theorem dX7_clerksBy_123 : decode cX7_clerksBy 123 = .ok (.aload_n 0, 1) := zr0 zk_42 (zat_w (k := 7) (p := 11) (w := zw_cX7_clerksBy_7) zw_cX7_clerksBy_ok rfl (by decide +kernel))
theorem dX7_clerksBy_124 : decode cX7_clerksBy 124 = .ok (.getfield 44, 3) := zr2u zk_180 (x0 := 0) (x1 := 44) (zat_w (k := 7) (p := 12) (w := zw_cX7_clerksBy_7) zw_cX7_clerksBy_ok rfl (by decide +kernel)) (by decide +kernel)
theorem dX7_clerksBy_127 : decode cX7_clerksBy 127 = .ok (.iload 8, 2) := zr1u zk_21 (x0 := 8) (zat_w (k := 7) (p := 15) (w := zw_cX7_clerksBy_7) zw_cX7_clerksBy_ok rfl (by decide +kernel)) (by decide +kernel)
theorem dX7_clerksBy_129 : decode cX7_clerksBy 129 = .ok (.iconst 1, 1) := zr0 zk_4 (zat_w (k := 8) (p := 1) (w := zw_cX7_clerksBy_8) zw_cX7_clerksBy_ok rfl (by decide +kernel))
theorem dX7_clerksBy_130 : decode cX7_clerksBy 130 = .ok (.iadd, 1) := zr0 zk_96 (zat_w (k := 8) (p := 2) (w := zw_cX7_clerksBy_8) zw_cX7_clerksBy_ok rfl (by decide +kernel))
theorem dX7_clerksBy_131 : decode cX7_clerksBy 131 = .ok (.iaload, 1) := zr0 zk_46 (zat_w (k := 8) (p := 3) (w := zw_cX7_clerksBy_8) zw_cX7_clerksBy_ok rfl (by decide +kernel))
theorem dX7_clerksBy_132 : decode cX7_clerksBy 132 = .ok (.invokevirtual 308, 3) := zr2u zk_182 (x0 := 1) (x1 := 52) (zat_w (k := 8) (p := 4) (w := zw_cX7_clerksBy_8) zw_cX7_clerksBy_ok rfl (by decide +kernel)) (by decide +kernel)
theorem dX7_clerksBy_135 : decode cX7_clerksBy 135 = .ok (.ifCond .lt 7, 3) := zr2s zk_155 (x0 := 0) (x1 := 7) (zat_w (k := 8) (p := 7) (w := zw_cX7_clerksBy_8) zw_cX7_clerksBy_ok rfl (by decide +kernel)) (by decide +kernel)
theorem dX7_clerksBy_138 : decode cX7_clerksBy 138 = .ok (.iconst 1, 1) := zr0 zk_4 (zat_w (k := 8) (p := 10) (w := zw_cX7_clerksBy_8) zw_cX7_clerksBy_ok rfl (by decide +kernel))
theorem dX7_clerksBy_139 : decode cX7_clerksBy 139 = .ok (.goto 4, 3) := zr2s zk_167 (x0 := 0) (x1 := 4) (zat_w (k := 8) (p := 11) (w := zw_cX7_clerksBy_8) zw_cX7_clerksBy_ok rfl (by decide +kernel)) (by decide +kernel)
theorem dX7_clerksBy_142 : decode cX7_clerksBy 142 = .ok (.iconst 0, 1) := zr0 zk_3 (zat_w (k := 8) (p := 14) (w := zw_cX7_clerksBy_8) zw_cX7_clerksBy_ok rfl (by decide +kernel))
theorem dX7_clerksBy_143 : decode cX7_clerksBy 143 = .ok (.iadd, 1) := zr0 zk_96 (zat_w (k := 8) (p := 15) (w := zw_cX7_clerksBy_8) zw_cX7_clerksBy_ok rfl (by decide +kernel))
theorem dX7_clerksBy_144 : decode cX7_clerksBy 144 = .ok (.istore 5, 2) := zr1u zk_54 (x0 := 5) (zat_w (k := 9) (p := 0) (w := zw_cX7_clerksBy_9) zw_cX7_clerksBy_ok rfl (by decide +kernel)) (by decide +kernel)
theorem dX7_clerksBy_146 : decode cX7_clerksBy 146 = .ok (.iinc 6 1, 3) := zrii zk_132 (x0 := 6) (x1 := 1) (zat_w (k := 9) (p := 2) (w := zw_cX7_clerksBy_9) zw_cX7_clerksBy_ok rfl (by decide +kernel)) (by decide +kernel)
theorem dX7_clerksBy_149 : decode cX7_clerksBy 149 = .ok (.goto (-86), 3) := zr2s zk_167 (x0 := 255) (x1 := 170) (zat_w (k := 9) (p := 5) (w := zw_cX7_clerksBy_9) zw_cX7_clerksBy_ok rfl (by decide +kernel)) (by decide +kernel)
theorem dX7_clerksBy_152 : decode cX7_clerksBy 152 = .ok (.iload 5, 2) := zr1u zk_21 (x0 := 5) (zat_w (k := 9) (p := 8) (w := zw_cX7_clerksBy_9) zw_cX7_clerksBy_ok rfl (by decide +kernel)) (by decide +kernel)
theorem dX7_clerksBy_154 : decode cX7_clerksBy 154 = .ok (.ireturn, 1) := zr0 zk_172 (zat_w (k := 9) (p := 10) (w := zw_cX7_clerksBy_9) zw_cX7_clerksBy_ok rfl (by decide +kernel))
theorem dX7_isUnder_0 : decode cX7_isUnder 0 = .ok (.iload_n 1, 1) := zr0 zk_27 (zat_s (by decide +kernel))
theorem dX7_isUnder_1 : decode cX7_isUnder 1 = .ok (.ifCond .eq 28, 3) := zr2s zk_153 (x0 := 0) (x1 := 28) (zat_s (by decide +kernel)) (by decide +kernel)
theorem dX7_isUnder_4 : decode cX7_isUnder 4 = .ok (.iload_n 0, 1) := zr0 zk_26 (zat_s (by decide +kernel))
theorem dX7_isUnder_5 : decode cX7_isUnder 5 = .ok (.iload_n 1, 1) := zr0 zk_27 (zat_s (by decide +kernel))
theorem dX7_isUnder_6 : decode cX7_isUnder 6 = .ok (.if_icmp .eq 23, 3) := zr2s zk_159 (x0 := 0) (x1 := 23) (zat_s (by decide +kernel)) (by decide +kernel)
theorem dX7_isUnder_9 : decode cX7_isUnder 9 = .ok (.iload_n 1, 1) := zr0 zk_27 (zat_s (by decide +kernel))
theorem dX7_isUnder_10 : decode cX7_isUnder 10 = .ok (.iconst 1, 1) := zr0 zk_4 (zat_s (by decide +kernel))
theorem dX7_isUnder_11 : decode cX7_isUnder 11 = .ok (.if_icmp .ne 8, 3) := zr2s zk_160 (x0 := 0) (x1 := 8) (zat_s (by decide +kernel)) (by decide +kernel)
theorem dX7_isUnder_14 : decode cX7_isUnder 14 = .ok (.iload_n 0, 1) := zr0 zk_26 (zat_s (by decide +kernel))
theorem dX7_isUnder_15 : decode cX7_isUnder 15 = .ok (.iconst 3, 1) := zr0 zk_6 (zat_s (by decide +kernel))
theorem dX7_isUnder_16 : decode cX7_isUnder 16 = .ok (.if_icmp .eq 13, 3) := zr2s zk_159 (x0 := 0) (x1 := 13) (zat_s (by decide +kernel)) (by decide +kernel)
theorem dX7_isUnder_19 : decode cX7_isUnder 19 = .ok (.iload_n 1, 1) := zr0 zk_27 (zat_s (by decide +kernel))
theorem dX7_isUnder_20 : decode cX7_isUnder 20 = .ok (.iconst 2, 1) := zr0 zk_5 (zat_s (by decide +kernel))
theorem dX7_isUnder_21 : decode cX7_isUnder 21 = .ok (.if_icmp .ne 12, 3) := zr2s zk_160 (x0 := 0) (x1 := 12) (zat_s (by decide +kernel)) (by decide +kernel)
theorem dX7_isUnder_24 : decode cX7_isUnder 24 = .ok (.iload_n 0, 1) := zr0 zk_26 (zat_s (by decide +kernel))
theorem dX7_isUnder_25 : decode cX7_isUnder 25 = .ok (.iconst 4, 1) := zr0 zk_7 (zat_s (by decide +kernel))
theorem dX7_isUnder_26 : decode cX7_isUnder 26 = .ok (.if_icmp .ne 7, 3) := zr2s zk_160 (x0 := 0) (x1 := 7) (zat_s (by decide +kernel)) (by decide +kernel)
theorem dX7_isUnder_29 : decode cX7_isUnder 29 = .ok (.iconst 1, 1) := zr0 zk_4 (zat_s (by decide +kernel))
theorem dX7_isUnder_30 : decode cX7_isUnder 30 = .ok (.goto 4, 3) := zr2s zk_167 (x0 := 0) (x1 := 4) (zat_s (by decide +kernel)) (by decide +kernel)
theorem dX7_isUnder_33 : decode cX7_isUnder 33 = .ok (.iconst 0, 1) := zr0 zk_3 (zat_s (by decide +kernel))
theorem dX7_isUnder_34 : decode cX7_isUnder 34 = .ok (.ireturn, 1) := zr0 zk_172 (zat_s (by decide +kernel))
def zw_cX7_taken_0 : List UInt8 := [28, 3, 16, 6, 184, 0, 75, 154, 0, 6, 16, 254, 172, 27, 3, 16, 10, 184, 0, 75]
def zw_cX7_taken_1 : List UInt8 := [10, 184, 0, 75, 154, 0, 6, 16, 244, 172, 27, 8, 162, 0, 42, 27, 42, 180, 0, 72]
def zw_cX7_taken_2 : List UInt8 := [42, 180, 0, 72, 161, 0, 8, 16, 245, 167, 0, 28, 28, 16, 6, 162, 0, 20, 42, 180]
def zw_cX7_taken_3 : List UInt8 := [0, 20, 42, 180, 0, 16, 27, 46, 28, 184, 1, 55, 153, 0, 7, 27, 167, 0, 5, 16]
def zw_cX7_taken_4 : List UInt8 := [167, 0, 5, 16, 243, 172, 3, 62, 3, 54, 4, 21, 4, 16, 6, 162, 0, 26, 29, 42]
def zw_cX7_taken_5 : List UInt8 := [0, 26, 29, 42, 180, 0, 23, 16, 6, 27, 8, 100, 104, 21, 4, 96, 46, 96, 62, 132]
def zw_cX7_taken_6 : List UInt8 := [46, 96, 62, 132, 4, 1, 167, 255, 229, 29, 154, 0, 8, 16, 245, 167, 0, 15, 28, 16]
def zw_cX7_taken_7 : List UInt8 := [0, 15, 28, 16, 6, 160, 0, 7, 29, 167, 0, 5, 16, 243, 172]
def zw_cX7_taken : List (List UInt8) := [zw_cX7_taken_0, zw_cX7_taken_1, zw_cX7_taken_2, zw_cX7_taken_3, zw_cX7_taken_4, zw_cX7_taken_5, zw_cX7_taken_6, zw_cX7_taken_7]
theorem zw_cX7_taken_ok : zwin 8 cX7_taken.data.toList = zw_cX7_taken := by decide +kernel
theorem dX7_taken_0 : decode cX7_taken 0 = .ok (.iload_n 2, 1) := zr0 zk_28 (zat_w (k := 0) (p := 0) (w := zw_cX7_taken_0) zw_cX7_taken_ok rfl (by decide +kernel))
theorem dX7_taken_1 : decode cX7_taken 1 = .ok (.iconst 0, 1) := zr0 zk_3 (zat_w (k := 0) (p := 1) (w := zw_cX7_taken_0) zw_cX7_taken_ok rfl (by decide +kernel))
theorem dX7_taken_2 : decode cX7_taken 2 = .ok (.bipush 6, 2) := zr1s zk_16 (x0 := 6) (zat_w (k := 0) (p := 2) (w := zw_cX7_taken_0) zw_cX7_taken_ok rfl (by decide +kernel)) (by decide +kernel)
theorem dX7_taken_4 : decode cX7_taken 4 = .ok (.invokestatic 75, 3) := zr2u zk_184 (x0 := 0) (x1 := 75) (zat_w (k := 0) (p := 4) (w := zw_cX7_taken_0) zw_cX7_taken_ok rfl (by decide +kernel)) (by decide +kernel)
theorem dX7_taken_7 : decode cX7_taken 7 = .ok (.ifCond .ne 6, 3) := zr2s zk_154 (x0 := 0) (x1 := 6) (zat_w (k := 0) (p := 7) (w := zw_cX7_taken_0) zw_cX7_taken_ok rfl (by decide +kernel)) (by decide +kernel)
theorem dX7_taken_10 : decode cX7_taken 10 = .ok (.bipush (-2), 2) := zr1s zk_16 (x0 := 254) (zat_w (k := 0) (p := 10) (w := zw_cX7_taken_0) zw_cX7_taken_ok rfl (by decide +kernel)) (by decide +kernel)
theorem dX7_taken_12 : decode cX7_taken 12 = .ok (.ireturn, 1) := zr0 zk_172 (zat_w (k := 0) (p := 12) (w := zw_cX7_taken_0) zw_cX7_taken_ok rfl (by decide +kernel))
theorem dX7_taken_13 : decode cX7_taken 13 = .ok (.iload_n 1, 1) := zr0 zk_27 (zat_w (k := 0) (p := 13) (w := zw_cX7_taken_0) zw_cX7_taken_ok rfl (by decide +kernel))
theorem dX7_taken_14 : decode cX7_taken 14 = .ok (.iconst 0, 1) := zr0 zk_3 (zat_w (k := 0) (p := 14) (w := zw_cX7_taken_0) zw_cX7_taken_ok rfl (by decide +kernel))
theorem dX7_taken_15 : decode cX7_taken 15 = .ok (.bipush 10, 2) := zr1s zk_16 (x0 := 10) (zat_w (k := 0) (p := 15) (w := zw_cX7_taken_0) zw_cX7_taken_ok rfl (by decide +kernel)) (by decide +kernel)
theorem dX7_taken_17 : decode cX7_taken 17 = .ok (.invokestatic 75, 3) := zr2u zk_184 (x0 := 0) (x1 := 75) (zat_w (k := 1) (p := 1) (w := zw_cX7_taken_1) zw_cX7_taken_ok rfl (by decide +kernel)) (by decide +kernel)
theorem dX7_taken_20 : decode cX7_taken 20 = .ok (.ifCond .ne 6, 3) := zr2s zk_154 (x0 := 0) (x1 := 6) (zat_w (k := 1) (p := 4) (w := zw_cX7_taken_1) zw_cX7_taken_ok rfl (by decide +kernel)) (by decide +kernel)
theorem dX7_taken_23 : decode cX7_taken 23 = .ok (.bipush (-12), 2) := zr1s zk_16 (x0 := 244) (zat_w (k := 1) (p := 7) (w := zw_cX7_taken_1) zw_cX7_taken_ok rfl (by decide +kernel)) (by decide +kernel)
theorem dX7_taken_25 : decode cX7_taken 25 = .ok (.ireturn, 1) := zr0 zk_172 (zat_w (k := 1) (p := 9) (w := zw_cX7_taken_1) zw_cX7_taken_ok rfl (by decide +kernel))
theorem dX7_taken_26 : decode cX7_taken 26 = .ok (.iload_n 1, 1) := zr0 zk_27 (zat_w (k := 1) (p := 10) (w := zw_cX7_taken_1) zw_cX7_taken_ok rfl (by decide +kernel))
theorem dX7_taken_27 : decode cX7_taken 27 = .ok (.iconst 5, 1) := zr0 zk_8 (zat_w (k := 1) (p := 11) (w := zw_cX7_taken_1) zw_cX7_taken_ok rfl (by decide +kernel))
theorem dX7_taken_28 : decode cX7_taken 28 = .ok (.if_icmp .ge 42, 3) := zr2s zk_162 (x0 := 0) (x1 := 42) (zat_w (k := 1) (p := 12) (w := zw_cX7_taken_1) zw_cX7_taken_ok rfl (by decide +kernel)) (by decide +kernel)
theorem dX7_taken_31 : decode cX7_taken 31 = .ok (.iload_n 1, 1) := zr0 zk_27 (zat_w (k := 1) (p := 15) (w := zw_cX7_taken_1) zw_cX7_taken_ok rfl (by decide +kernel))
theorem dX7_taken_32 : decode cX7_taken 32 = .ok (.aload_n 0, 1) := zr0 zk_42 (zat_w (k := 2) (p := 0) (w := zw_cX7_taken_2) zw_cX7_taken_ok rfl (by decide +kernel))
theorem dX7_taken_33 : decode cX7_taken 33 = .ok (.getfield 72, 3) := zr2u zk_180 (x0 := 0) (x1 := 72) (zat_w (k := 2) (p := 1) (w := zw_cX7_taken_2) zw_cX7_taken_ok rfl (by decide +kernel)) (by decide +kernel)
theorem dX7_taken_36 : decode cX7_taken 36 = .ok (.if_icmp .lt 8, 3) := zr2s zk_161 (x0 := 0) (x1 := 8) (zat_w (k := 2) (p := 4) (w := zw_cX7_taken_2) zw_cX7_taken_ok rfl (by decide +kernel)) (by decide +kernel)
theorem dX7_taken_39 : decode cX7_taken 39 = .ok (.bipush (-11), 2) := zr1s zk_16 (x0 := 245) (zat_w (k := 2) (p := 7) (w := zw_cX7_taken_2) zw_cX7_taken_ok rfl (by decide +kernel)) (by decide +kernel)
theorem dX7_taken_41 : decode cX7_taken 41 = .ok (.goto 28, 3) := zr2s zk_167 (x0 := 0) (x1 := 28) (zat_w (k := 2) (p := 9) (w := zw_cX7_taken_2) zw_cX7_taken_ok rfl (by decide +kernel)) (by decide +kernel)
theorem dX7_taken_44 : decode cX7_taken 44 = .ok (.iload_n 2, 1) := zr0 zk_28 (zat_w (k := 2) (p := 12) (w := zw_cX7_taken_2) zw_cX7_taken_ok rfl (by decide +kernel))
theorem dX7_taken_45 : decode cX7_taken 45 = .ok (.bipush 6, 2) := zr1s zk_16 (x0 := 6) (zat_w (k := 2) (p := 13) (w := zw_cX7_taken_2) zw_cX7_taken_ok rfl (by decide +kernel)) (by decide +kernel)
theorem dX7_taken_47 : decode cX7_taken 47 = .ok (.if_icmp .ge 20, 3) := zr2s zk_162 (x0 := 0) (x1 := 20) (zat_w (k := 2) (p := 15) (w := zw_cX7_taken_2) zw_cX7_taken_ok rfl (by decide +kernel)) (by decide +kernel)
theorem dX7_taken_50 : decode cX7_taken 50 = .ok (.aload_n 0, 1) := zr0 zk_42 (zat_w (k := 3) (p := 2) (w := zw_cX7_taken_3) zw_cX7_taken_ok rfl (by decide +kernel))
theorem dX7_taken_51 : decode cX7_taken 51 = .ok (.getfield 16, 3) := zr2u zk_180 (x0 := 0) (x1 := 16) (zat_w (k := 3) (p := 3) (w := zw_cX7_taken_3) zw_cX7_taken_ok rfl (by decide +kernel)) (by decide +kernel)
theorem dX7_taken_54 : decode cX7_taken 54 = .ok (.iload_n 1, 1) := zr0 zk_27 (zat_w (k := 3) (p := 6) (w := zw_cX7_taken_3) zw_cX7_taken_ok rfl (by decide +kernel))
theorem dX7_taken_55 : decode cX7_taken 55 = .ok (.iaload, 1) := zr0 zk_46 (zat_w (k := 3) (p := 7) (w := zw_cX7_taken_3) zw_cX7_taken_ok rfl (by decide +kernel))
theorem dX7_taken_56 : decode cX7_taken 56 = .ok (.iload_n 2, 1) := zr0 zk_28 (zat_w (k := 3) (p := 8) (w := zw_cX7_taken_3) zw_cX7_taken_ok rfl (by decide +kernel))
theorem dX7_taken_57 : decode cX7_taken 57 = .ok (.invokestatic 311, 3) := zr2u zk_184 (x0 := 1) (x1 := 55) (zat_w (k := 3) (p := 9) (w := zw_cX7_taken_3) zw_cX7_taken_ok rfl (by decide +kernel)) (by decide +kernel)
theorem dX7_taken_60 : decode cX7_taken 60 = .ok (.ifCond .eq 7, 3) := zr2s zk_153 (x0 := 0) (x1 := 7) (zat_w (k := 3) (p := 12) (w := zw_cX7_taken_3) zw_cX7_taken_ok rfl (by decide +kernel)) (by decide +kernel)
theorem dX7_taken_63 : decode cX7_taken 63 = .ok (.iload_n 1, 1) := zr0 zk_27 (zat_w (k := 3) (p := 15) (w := zw_cX7_taken_3) zw_cX7_taken_ok rfl (by decide +kernel))
theorem dX7_taken_64 : decode cX7_taken 64 = .ok (.goto 5, 3) := zr2s zk_167 (x0 := 0) (x1 := 5) (zat_w (k := 4) (p := 0) (w := zw_cX7_taken_4) zw_cX7_taken_ok rfl (by decide +kernel)) (by decide +kernel)
theorem dX7_taken_67 : decode cX7_taken 67 = .ok (.bipush (-13), 2) := zr1s zk_16 (x0 := 243) (zat_w (k := 4) (p := 3) (w := zw_cX7_taken_4) zw_cX7_taken_ok rfl (by decide +kernel)) (by decide +kernel)
theorem dX7_taken_69 : decode cX7_taken 69 = .ok (.ireturn, 1) := zr0 zk_172 (zat_w (k := 4) (p := 5) (w := zw_cX7_taken_4) zw_cX7_taken_ok rfl (by decide +kernel))
theorem dX7_taken_70 : decode cX7_taken 70 = .ok (.iconst 0, 1) := zr0 zk_3 (zat_w (k := 4) (p := 6) (w := zw_cX7_taken_4) zw_cX7_taken_ok rfl (by decide +kernel))
theorem dX7_taken_71 : decode cX7_taken 71 = .ok (.istore_n 3, 1) := zr0 zk_62 (zat_w (k := 4) (p := 7) (w := zw_cX7_taken_4) zw_cX7_taken_ok rfl (by decide +kernel))
theorem dX7_taken_72 : decode cX7_taken 72 = .ok (.iconst 0, 1) := zr0 zk_3 (zat_w (k := 4) (p := 8) (w := zw_cX7_taken_4) zw_cX7_taken_ok rfl (by decide +kernel))
theorem dX7_taken_73 : decode cX7_taken 73 = .ok (.istore 4, 2) := zr1u zk_54 (x0 := 4) (zat_w (k := 4) (p := 9) (w := zw_cX7_taken_4) zw_cX7_taken_ok rfl (by decide +kernel)) (by decide +kernel)
theorem dX7_taken_75 : decode cX7_taken 75 = .ok (.iload 4, 2) := zr1u zk_21 (x0 := 4) (zat_w (k := 4) (p := 11) (w := zw_cX7_taken_4) zw_cX7_taken_ok rfl (by decide +kernel)) (by decide +kernel)
theorem dX7_taken_77 : decode cX7_taken 77 = .ok (.bipush 6, 2) := zr1s zk_16 (x0 := 6) (zat_w (k := 4) (p := 13) (w := zw_cX7_taken_4) zw_cX7_taken_ok rfl (by decide +kernel)) (by decide +kernel)
theorem dX7_taken_79 : decode cX7_taken 79 = .ok (.if_icmp .ge 26, 3) := zr2s zk_162 (x0 := 0) (x1 := 26) (zat_w (k := 4) (p := 15) (w := zw_cX7_taken_4) zw_cX7_taken_ok rfl (by decide +kernel)) (by decide +kernel)
theorem dX7_taken_82 : decode cX7_taken 82 = .ok (.iload_n 3, 1) := zr0 zk_29 (zat_w (k := 5) (p := 2) (w := zw_cX7_taken_5) zw_cX7_taken_ok rfl (by decide +kernel))
theorem dX7_taken_83 : decode cX7_taken 83 = .ok (.aload_n 0, 1) := zr0 zk_42 (zat_w (k := 5) (p := 3) (w := zw_cX7_taken_5) zw_cX7_taken_ok rfl (by decide +kernel))
theorem dX7_taken_84 : decode cX7_taken 84 = .ok (.getfield 23, 3) := zr2u zk_180 (x0 := 0) (x1 := 23) (zat_w (k := 5) (p := 4) (w := zw_cX7_taken_5) zw_cX7_taken_ok rfl (by decide +kernel)) (by decide +kernel)
theorem dX7_taken_87 : decode cX7_taken 87 = .ok (.bipush 6, 2) := zr1s zk_16 (x0 := 6) (zat_w (k := 5) (p := 7) (w := zw_cX7_taken_5) zw_cX7_taken_ok rfl (by decide +kernel)) (by decide +kernel)
theorem dX7_taken_89 : decode cX7_taken 89 = .ok (.iload_n 1, 1) := zr0 zk_27 (zat_w (k := 5) (p := 9) (w := zw_cX7_taken_5) zw_cX7_taken_ok rfl (by decide +kernel))
theorem dX7_taken_90 : decode cX7_taken 90 = .ok (.iconst 5, 1) := zr0 zk_8 (zat_w (k := 5) (p := 10) (w := zw_cX7_taken_5) zw_cX7_taken_ok rfl (by decide +kernel))
theorem dX7_taken_91 : decode cX7_taken 91 = .ok (.isub, 1) := zr0 zk_100 (zat_w (k := 5) (p := 11) (w := zw_cX7_taken_5) zw_cX7_taken_ok rfl (by decide +kernel))
theorem dX7_taken_92 : decode cX7_taken 92 = .ok (.imul, 1) := zr0 zk_104 (zat_w (k := 5) (p := 12) (w := zw_cX7_taken_5) zw_cX7_taken_ok rfl (by decide +kernel))
theorem dX7_taken_93 : decode cX7_taken 93 = .ok (.iload 4, 2) := zr1u zk_21 (x0 := 4) (zat_w (k := 5) (p := 13) (w := zw_cX7_taken_5) zw_cX7_taken_ok rfl (by decide +kernel)) (by decide +kernel)
theorem dX7_taken_95 : decode cX7_taken 95 = .ok (.iadd, 1) := zr0 zk_96 (zat_w (k := 5) (p := 15) (w := zw_cX7_taken_5) zw_cX7_taken_ok rfl (by decide +kernel))
theorem dX7_taken_96 : decode cX7_taken 96 = .ok (.iaload, 1) := zr0 zk_46 (zat_w (k := 6) (p := 0) (w := zw_cX7_taken_6) zw_cX7_taken_ok rfl (by decide +kernel))
theorem dX7_taken_97 : decode cX7_taken 97 = .ok (.iadd, 1) := zr0 zk_96 (zat_w (k := 6) (p := 1) (w := zw_cX7_taken_6) zw_cX7_taken_ok rfl (by decide +kernel))
theorem dX7_taken_98 : decode cX7_taken 98 = .ok (.istore_n 3, 1) := zr0 zk_62 (zat_w (k := 6) (p := 2) (w := zw_cX7_taken_6) zw_cX7_taken_ok rfl (by decide +kernel))
theorem dX7_taken_99 : decode cX7_taken 99 = .ok (.iinc 4 1, 3) := zrii zk_132 (x0 := 4) (x1 := 1) (zat_w (k := 6) (p := 3) (w := zw_cX7_taken_6) zw_cX7_taken_ok rfl (by decide +kernel)) (by decide +kernel)
theorem dX7_taken_102 : decode cX7_taken 102 = .ok (.goto (-27), 3) := zr2s zk_167 (x0 := 255) (x1 := 229) (zat_w (k := 6) (p := 6) (w := zw_cX7_taken_6) zw_cX7_taken_ok rfl (by decide +kernel)) (by decide +kernel)
theorem dX7_taken_105 : decode cX7_taken 105 = .ok (.iload_n 3, 1) := zr0 zk_29 (zat_w (k := 6) (p := 9) (w := zw_cX7_taken_6) zw_cX7_taken_ok rfl (by decide +kernel))
theorem dX7_taken_106 : decode cX7_taken 106 = .ok (.ifCond .ne 8, 3) := zr2s zk_154 (x0 := 0) (x1 := 8) (zat_w (k := 6) (p := 10) (w := zw_cX7_taken_6) zw_cX7_taken_ok rfl (by decide +kernel)) (by decide +kernel)
theorem dX7_taken_109 : decode cX7_taken 109 = .ok (.bipush (-11), 2) := zr1s zk_16 (x0 := 245) (zat_w (k := 6) (p := 13) (w := zw_cX7_taken_6) zw_cX7_taken_ok rfl (by decide +kernel)) (by decide +kernel)
theorem dX7_taken_111 : decode cX7_taken 111 = .ok (.goto 15, 3) := zr2s zk_167 (x0 := 0) (x1 := 15) (zat_w (k := 6) (p := 15) (w := zw_cX7_taken_6) zw_cX7_taken_ok rfl (by decide +kernel)) (by decide +kernel)
theorem dX7_taken_114 : decode cX7_taken 114 = .ok (.iload_n 2, 1) := zr0 zk_28 (zat_w (k := 7) (p := 2) (w := zw_cX7_taken_7) zw_cX7_taken_ok rfl (by decide +kernel))
theorem dX7_taken_115 : decode cX7_taken 115 = .ok (.bipush 6, 2) := zr1s zk_16 (x0 := 6) (zat_w (k := 7) (p := 3) (w := zw_cX7_taken_7) zw_cX7_taken_ok rfl (by decide +kernel)) (by decide +kernel)
theorem dX7_taken_117 : decode cX7_taken 117 = .ok (.if_icmp .ne 7, 3) := zr2s zk_160 (x0 := 0) (x1 := 7) (zat_w (k := 7) (p := 5) (w := zw_cX7_taken_7) zw_cX7_taken_ok rfl (by decide +kernel)) (by decide +kernel)
theorem dX7_taken_120 : decode cX7_taken 120 = .ok (.iload_n 3, 1) := zr0 zk_29 (zat_w (k := 7) (p := 8) (w := zw_cX7_taken_7) zw_cX7_taken_ok rfl (by decide +kernel))
theorem dX7_taken_121 : decode cX7_taken 121 = .ok (.goto 5, 3) := zr2s zk_167 (x0 := 0) (x1 := 5) (zat_w (k := 7) (p := 9) (w := zw_cX7_taken_7) zw_cX7_taken_ok rfl (by decide +kernel)) (by decide +kernel)
theorem dX7_taken_124 : decode cX7_taken 124 = .ok (.bipush (-13), 2) := zr1s zk_16 (x0 := 243) (zat_w (k := 7) (p := 12) (w := zw_cX7_taken_7) zw_cX7_taken_ok rfl (by decide +kernel)) (by decide +kernel)
theorem dX7_taken_126 : decode cX7_taken 126 = .ok (.ireturn, 1) := zr0 zk_172 (zat_w (k := 7) (p := 14) (w := zw_cX7_taken_7) zw_cX7_taken_ok rfl (by decide +kernel))
end Zj_10_dX7_3
section Zj_11_world
def mc_up {α : Type} (f : Nat → α) (k : Nat) (x : α) : Nat → α := fun j => if j = k then x else f j
def ww_law : List Int32 := [110, 111, 117, 103, 104, 116, 32, 49, 32, 59, 32, 115, 108, 105, 112, 115, 32, 51, 32, 59, 32, 99, 111, 115, 116, 115, 32, 111, 102, 102, 32, 59]
def ww_words : List Int32 := [110, 111, 117, 103, 104, 116, 32, 32, 115, 108, 105, 112, 115, 32, 32, 32, 99, 111, 115, 116, 115, 32, 32, 32, 109, 111, 114, 101, 32, 32, 32, 32, 99, 108, 101, 114, 107, 32, 32, 32, 118, 32, 32, 32, 32, 32, 32, 32, 111, 102, 102, 32, 32, 32, 32, 32, 98, 97, 115, 101, 32, 32, 32, 32, 121, 101, 97, 114, 32, 32, 32, 32, 111, 114, 32, 32, 32, 32, 32, 32, 97, 110, 100, 32, 32, 32, 32, 32, 110, 111, 116, 32, 32, 32, 32, 32]
/-- both objects, and the texts behind them. Of the class: numbers s, rows a, the row q of texts; what is written anew at each use: numbers u, rows c, the text h of the hand. Of the other side: numbers m, rows b; written anew: n, d. -/
def WW (s : Nat → Int32) (a : Nat → List Int32) (q : List (Option Nat)) (u : Nat → Int32) (c : Nat → List Int32) (h : Nat) (m : Nat → Int32) (b : Nat → List Int32) (n : Nat → Int32) (d : Nat → List Int32) (z : mc_W) : mc_W :=
  .inl (6, [.int (s 0), .int (s 1), .int (s 2), .ref 1, .ref 2, .ref 3, .ref 5, .int (s 3), .int (s 4), .ref 6, .ref 9, .ref 10, .ref 13, .ref 17]) ::
  .inr (.inl (a 0)) ::
  .inr (.inl (a 1)) ::
  .inl (5, [.ref 4, .int 1, .int 2]) ::
  .inr (.inl [1, 3, -4]) ::
  .inr (.inr (1, q)) ::
  .inl (4, [.ref 7, .int (s 5), .int (u 0), .int (u 1), .int (u 2), .ref 8, .int (u 3), .int (u 4), .int (u 5)]) ::
  .inr (.inl (a 2)) ::
  .inr (.inl (c 0)) ::
  .inr (.inr (2, [some 21, some 23, some 25, some 27])) ::
  .inl (0, [.ref 11, .ref 12]) ::
  .inr (.inl (a 3)) ::
  .inr (.inl (c 1)) ::
  .inl (2, [.int (s 6), .int (s 7), .int (s 8), .int (s 9), .int (s 10), .ref 14]) ::
  .inl (0, [.ref 15, .ref 16]) ::
  .inr (.inl (a 4)) ::
  .inr (.inl (c 2)) ::
  .inl (1, [.int (u 6), .ref h, .ref 18, .ref 19, .ref 20, .int (u 7)]) ::
  .inr (.inl (c 3)) ::
  .inr (.inl (c 4)) ::
  .inr (.inl (c 5)) ::
  .inl (3, [.ref 22, .int (s 11), .int (s 12)]) ::
  .inr (.inl (a 5)) ::
  .inl (3, [.ref 24, .int (s 13), .int (s 14)]) ::
  .inr (.inl (a 6)) ::
  .inl (3, [.ref 26, .int (s 15), .int (s 16)]) ::
  .inr (.inl (a 7)) ::
  .inl (3, [.ref 28, .int (s 17), .int (s 18)]) ::
  .inr (.inl (a 8)) ::
  .inl (7, [.int (m 0), .int (m 1), .int (m 2), .ref 30, .ref 31, .ref 32, .ref 33, .int (m 3), .ref 34, .ref 35, .int (m 4), .int (m 5), .int (m 6), .int (m 7), .int (m 8), .int (m 9), .int (m 10), .ref 36, .ref 37, .ref 38, .ref 39, .ref 40, .int (n 0), .int (n 1), .int (n 2), .int (n 3), .ref 41, .ref 42, .int (n 4), .int (n 5), .int (n 6), .ref 43, .ref 44, .ref 45, .int (n 7)]) ::
  .inr (.inl (b 0)) ::
  .inr (.inl (b 1)) ::
  .inr (.inl (b 2)) ::
  .inr (.inl (b 3)) ::
  .inr (.inl (b 4)) ::
  .inr (.inl (b 5)) ::
  .inr (.inl (b 6)) ::
  .inr (.inl (b 7)) ::
  .inr (.inl (b 8)) ::
  .inr (.inl (b 9)) ::
  .inr (.inl ww_law) ::
  .inr (.inl ww_words) ::
  .inr (.inl (d 0)) ::
  .inr (.inl (d 1)) ::
  .inr (.inl (d 2)) ::
  .inr (.inl (d 3)) :: z
section World
variable {own : String} {cc : ByteArray} {nL : Nat} {J : mc_J} {pc : Nat} {L : List (Option Value)} {st : List Value} {kc ks i : Nat}
variable {s u m n : Nat → Int32} {a c b d : Nat → List Int32} {q : List (Option Nat)} {h : Nat} {z : mc_W} {v x j : Int32}
theorem put_x_base (hd : decode cc pc = .ok (.putfield i, 3)) (hf : mc_FP own i 6 0 .int false) (kk : mc_E own cc nL J (pc + 3) L st (WW (mc_up s 0 v) a q u c h m b n d z) kc ks) : mc_E own cc nL J pc L (.int v :: .ref 0 :: st) (WW s a q u c h m b n d z) kc ks := e_put hd hf rfl (Nat.le_of_ble_eq_true rfl) rfl kk
theorem put_x_year (hd : decode cc pc = .ok (.putfield i, 3)) (hf : mc_FP own i 6 1 .int false) (kk : mc_E own cc nL J (pc + 3) L st (WW (mc_up s 1 v) a q u c h m b n d z) kc ks) : mc_E own cc nL J pc L (.int v :: .ref 0 :: st) (WW s a q u c h m b n d z) kc ks := e_put hd hf rfl (Nat.le_of_ble_eq_true rfl) rfl kk
theorem put_x_clerks (hd : decode cc pc = .ok (.putfield i, 3)) (hf : mc_FP own i 6 2 .int false) (kk : mc_E own cc nL J (pc + 3) L st (WW (mc_up s 2 v) a q u c h m b n d z) kc ks) : mc_E own cc nL J pc L (.int v :: .ref 0 :: st) (WW s a q u c h m b n d z) kc ks := e_put hd hf rfl (Nat.le_of_ble_eq_true rfl) rfl kk
theorem put_x_textCount (hd : decode cc pc = .ok (.putfield i, 3)) (hf : mc_FP own i 6 7 .int false) (kk : mc_E own cc nL J (pc + 3) L st (WW (mc_up s 3 v) a q u c h m b n d z) kc ks) : mc_E own cc nL J pc L (.int v :: .ref 0 :: st) (WW s a q u c h m b n d z) kc ks := e_put hd hf rfl (Nat.le_of_ble_eq_true rfl) rfl kk
theorem put_x_lawNumber (hd : decode cc pc = .ok (.putfield i, 3)) (hf : mc_FP own i 6 8 .int false) (kk : mc_E own cc nL J (pc + 3) L st (WW (mc_up s 4 v) a q u c h m b n d z) kc ks) : mc_E own cc nL J pc L (.int v :: .ref 0 :: st) (WW s a q u c h m b n d z) kc ks := e_put hd hf rfl (Nat.le_of_ble_eq_true rfl) rfl kk
theorem ast_kindOf (hd : decode cc pc = .ok (.iastore, 1)) (hi : vp_in j (a 0).length) (kk : mc_E own cc nL J (pc + 1) L st (WW s (mc_up a 0 ((a 0).set j.toNatClampNeg x)) q u c h m b n d z) kc ks) : mc_E own cc nL J pc L (.int x :: .int j :: .ref 1 :: st) (WW s a q u c h m b n d z) kc ks := e_iast hd rfl hi kk
theorem ald_kindOf (hd : decode cc pc = .ok (.iaload, 1)) (hi : vp_in j (a 0).length) (kk : mc_E own cc nL J (pc + 1) L (.int ((a 0).getD j.toNatClampNeg 0) :: st) (WW s a q u c h m b n d z) kc ks) : mc_E own cc nL J pc L (.int j :: .ref 1 :: st) (WW s a q u c h m b n d z) kc ks := e_iald hd rfl hi rfl kk
theorem aldv_kindOf (hd : decode cc pc = .ok (.iaload, 1)) (hi : vp_in j (a 0).length) (hx : (a 0).getD j.toNatClampNeg 0 = x) (kk : mc_E own cc nL J (pc + 1) L (.int x :: st) (WW s a q u c h m b n d z) kc ks) : mc_E own cc nL J pc L (.int j :: .ref 1 :: st) (WW s a q u c h m b n d z) kc ks := e_iald hd rfl hi hx kk
theorem ast_moreOf (hd : decode cc pc = .ok (.iastore, 1)) (hi : vp_in j (a 1).length) (kk : mc_E own cc nL J (pc + 1) L st (WW s (mc_up a 1 ((a 1).set j.toNatClampNeg x)) q u c h m b n d z) kc ks) : mc_E own cc nL J pc L (.int x :: .int j :: .ref 2 :: st) (WW s a q u c h m b n d z) kc ks := e_iast hd rfl hi kk
theorem ald_moreOf (hd : decode cc pc = .ok (.iaload, 1)) (hi : vp_in j (a 1).length) (kk : mc_E own cc nL J (pc + 1) L (.int ((a 1).getD j.toNatClampNeg 0) :: st) (WW s a q u c h m b n d z) kc ks) : mc_E own cc nL J pc L (.int j :: .ref 2 :: st) (WW s a q u c h m b n d z) kc ks := e_iald hd rfl hi rfl kk
theorem aldv_moreOf (hd : decode cc pc = .ok (.iaload, 1)) (hi : vp_in j (a 1).length) (hx : (a 1).getD j.toNatClampNeg 0 = x) (kk : mc_E own cc nL J (pc + 1) L (.int x :: st) (WW s a q u c h m b n d z) kc ks) : mc_E own cc nL J pc L (.int j :: .ref 2 :: st) (WW s a q u c h m b n d z) kc ks := e_iald hd rfl hi hx kk
theorem put_tape_size (hd : decode cc pc = .ok (.putfield i, 3)) (hf : mc_FP own i 4 1 .int false) (kk : mc_E own cc nL J (pc + 3) L st (WW (mc_up s 5 v) a q u c h m b n d z) kc ks) : mc_E own cc nL J pc L (.int v :: .ref 6 :: st) (WW s a q u c h m b n d z) kc ks := e_put hd hf rfl (Nat.le_of_ble_eq_true rfl) rfl kk
theorem put_tape_at (hd : decode cc pc = .ok (.putfield i, 3)) (hf : mc_FP own i 4 2 .int false) (kk : mc_E own cc nL J (pc + 3) L st (WW s a q (mc_up u 0 v) c h m b n d z) kc ks) : mc_E own cc nL J pc L (.int v :: .ref 6 :: st) (WW s a q u c h m b n d z) kc ks := e_put hd hf rfl (Nat.le_of_ble_eq_true rfl) rfl kk
theorem put_tape_next (hd : decode cc pc = .ok (.putfield i, 3)) (hf : mc_FP own i 4 3 .int false) (kk : mc_E own cc nL J (pc + 3) L st (WW s a q (mc_up u 1 v) c h m b n d z) kc ks) : mc_E own cc nL J pc L (.int v :: .ref 6 :: st) (WW s a q u c h m b n d z) kc ks := e_put hd hf rfl (Nat.le_of_ble_eq_true rfl) rfl kk
theorem put_tape_token (hd : decode cc pc = .ok (.putfield i, 3)) (hf : mc_FP own i 4 4 .int false) (kk : mc_E own cc nL J (pc + 3) L st (WW s a q (mc_up u 2 v) c h m b n d z) kc ks) : mc_E own cc nL J pc L (.int v :: .ref 6 :: st) (WW s a q u c h m b n d z) kc ks := e_put hd hf rfl (Nat.le_of_ble_eq_true rfl) rfl kk
theorem put_tape_codeSize (hd : decode cc pc = .ok (.putfield i, 3)) (hf : mc_FP own i 4 6 .int false) (kk : mc_E own cc nL J (pc + 3) L st (WW s a q (mc_up u 3 v) c h m b n d z) kc ks) : mc_E own cc nL J pc L (.int v :: .ref 6 :: st) (WW s a q u c h m b n d z) kc ks := e_put hd hf rfl (Nat.le_of_ble_eq_true rfl) rfl kk
theorem put_tape_slipsAt (hd : decode cc pc = .ok (.putfield i, 3)) (hf : mc_FP own i 4 7 .int false) (kk : mc_E own cc nL J (pc + 3) L st (WW s a q (mc_up u 4 v) c h m b n d z) kc ks) : mc_E own cc nL J pc L (.int v :: .ref 6 :: st) (WW s a q u c h m b n d z) kc ks := e_put hd hf rfl (Nat.le_of_ble_eq_true rfl) rfl kk
theorem put_tape_costsAt (hd : decode cc pc = .ok (.putfield i, 3)) (hf : mc_FP own i 4 8 .int false) (kk : mc_E own cc nL J (pc + 3) L st (WW s a q (mc_up u 5 v) c h m b n d z) kc ks) : mc_E own cc nL J pc L (.int v :: .ref 6 :: st) (WW s a q u c h m b n d z) kc ks := e_put hd hf rfl (Nat.le_of_ble_eq_true rfl) rfl kk
theorem ast_bytes (hd : decode cc pc = .ok (.iastore, 1)) (hi : vp_in j (a 2).length) (kk : mc_E own cc nL J (pc + 1) L st (WW s (mc_up a 2 ((a 2).set j.toNatClampNeg x)) q u c h m b n d z) kc ks) : mc_E own cc nL J pc L (.int x :: .int j :: .ref 7 :: st) (WW s a q u c h m b n d z) kc ks := e_iast hd rfl hi kk
theorem ald_bytes (hd : decode cc pc = .ok (.iaload, 1)) (hi : vp_in j (a 2).length) (kk : mc_E own cc nL J (pc + 1) L (.int ((a 2).getD j.toNatClampNeg 0) :: st) (WW s a q u c h m b n d z) kc ks) : mc_E own cc nL J pc L (.int j :: .ref 7 :: st) (WW s a q u c h m b n d z) kc ks := e_iald hd rfl hi rfl kk
theorem aldv_bytes (hd : decode cc pc = .ok (.iaload, 1)) (hi : vp_in j (a 2).length) (hx : (a 2).getD j.toNatClampNeg 0 = x) (kk : mc_E own cc nL J (pc + 1) L (.int x :: st) (WW s a q u c h m b n d z) kc ks) : mc_E own cc nL J pc L (.int j :: .ref 7 :: st) (WW s a q u c h m b n d z) kc ks := e_iald hd rfl hi hx kk
theorem ast_code (hd : decode cc pc = .ok (.iastore, 1)) (hi : vp_in j (c 0).length) (kk : mc_E own cc nL J (pc + 1) L st (WW s a q u (mc_up c 0 ((c 0).set j.toNatClampNeg x)) h m b n d z) kc ks) : mc_E own cc nL J pc L (.int x :: .int j :: .ref 8 :: st) (WW s a q u c h m b n d z) kc ks := e_iast hd rfl hi kk
theorem ald_code (hd : decode cc pc = .ok (.iaload, 1)) (hi : vp_in j (c 0).length) (kk : mc_E own cc nL J (pc + 1) L (.int ((c 0).getD j.toNatClampNeg 0) :: st) (WW s a q u c h m b n d z) kc ks) : mc_E own cc nL J pc L (.int j :: .ref 8 :: st) (WW s a q u c h m b n d z) kc ks := e_iald hd rfl hi rfl kk
theorem aldv_code (hd : decode cc pc = .ok (.iaload, 1)) (hi : vp_in j (c 0).length) (hx : (c 0).getD j.toNatClampNeg 0 = x) (kk : mc_E own cc nL J (pc + 1) L (.int x :: st) (WW s a q u c h m b n d z) kc ks) : mc_E own cc nL J pc L (.int j :: .ref 8 :: st) (WW s a q u c h m b n d z) kc ks := e_iald hd rfl hi hx kk
theorem ast_owed (hd : decode cc pc = .ok (.iastore, 1)) (hi : vp_in j (a 3).length) (kk : mc_E own cc nL J (pc + 1) L st (WW s (mc_up a 3 ((a 3).set j.toNatClampNeg x)) q u c h m b n d z) kc ks) : mc_E own cc nL J pc L (.int x :: .int j :: .ref 11 :: st) (WW s a q u c h m b n d z) kc ks := e_iast hd rfl hi kk
theorem ald_owed (hd : decode cc pc = .ok (.iaload, 1)) (hi : vp_in j (a 3).length) (kk : mc_E own cc nL J (pc + 1) L (.int ((a 3).getD j.toNatClampNeg 0) :: st) (WW s a q u c h m b n d z) kc ks) : mc_E own cc nL J pc L (.int j :: .ref 11 :: st) (WW s a q u c h m b n d z) kc ks := e_iald hd rfl hi rfl kk
theorem aldv_owed (hd : decode cc pc = .ok (.iaload, 1)) (hi : vp_in j (a 3).length) (hx : (a 3).getD j.toNatClampNeg 0 = x) (kk : mc_E own cc nL J (pc + 1) L (.int x :: st) (WW s a q u c h m b n d z) kc ks) : mc_E own cc nL J pc L (.int j :: .ref 11 :: st) (WW s a q u c h m b n d z) kc ks := e_iald hd rfl hi hx kk
theorem ast_reach (hd : decode cc pc = .ok (.iastore, 1)) (hi : vp_in j (c 1).length) (kk : mc_E own cc nL J (pc + 1) L st (WW s a q u (mc_up c 1 ((c 1).set j.toNatClampNeg x)) h m b n d z) kc ks) : mc_E own cc nL J pc L (.int x :: .int j :: .ref 12 :: st) (WW s a q u c h m b n d z) kc ks := e_iast hd rfl hi kk
theorem ald_reach (hd : decode cc pc = .ok (.iaload, 1)) (hi : vp_in j (c 1).length) (kk : mc_E own cc nL J (pc + 1) L (.int ((c 1).getD j.toNatClampNeg 0) :: st) (WW s a q u c h m b n d z) kc ks) : mc_E own cc nL J pc L (.int j :: .ref 12 :: st) (WW s a q u c h m b n d z) kc ks := e_iald hd rfl hi rfl kk
theorem aldv_reach (hd : decode cc pc = .ok (.iaload, 1)) (hi : vp_in j (c 1).length) (hx : (c 1).getD j.toNatClampNeg 0 = x) (kk : mc_E own cc nL J (pc + 1) L (.int x :: st) (WW s a q u c h m b n d z) kc ks) : mc_E own cc nL J pc L (.int j :: .ref 12 :: st) (WW s a q u c h m b n d z) kc ks := e_iald hd rfl hi hx kk
theorem put_kept_there (hd : decode cc pc = .ok (.putfield i, 3)) (hf : mc_FP own i 2 0 .boolean false) (hv : mc_fit .boolean (.int v) = true) (kk : mc_E own cc nL J (pc + 3) L st (WW (mc_up s 6 v) a q u c h m b n d z) kc ks) : mc_E own cc nL J pc L (.int v :: .ref 13 :: st) (WW s a q u c h m b n d z) kc ks := e_put hd hf rfl (Nat.le_of_ble_eq_true rfl) hv kk
theorem put_kept_base (hd : decode cc pc = .ok (.putfield i, 3)) (hf : mc_FP own i 2 1 .int false) (kk : mc_E own cc nL J (pc + 3) L st (WW (mc_up s 7 v) a q u c h m b n d z) kc ks) : mc_E own cc nL J pc L (.int v :: .ref 13 :: st) (WW s a q u c h m b n d z) kc ks := e_put hd hf rfl (Nat.le_of_ble_eq_true rfl) rfl kk
theorem put_kept_year (hd : decode cc pc = .ok (.putfield i, 3)) (hf : mc_FP own i 2 2 .int false) (kk : mc_E own cc nL J (pc + 3) L st (WW (mc_up s 8 v) a q u c h m b n d z) kc ks) : mc_E own cc nL J pc L (.int v :: .ref 13 :: st) (WW s a q u c h m b n d z) kc ks := e_put hd hf rfl (Nat.le_of_ble_eq_true rfl) rfl kk
theorem put_kept_clerks (hd : decode cc pc = .ok (.putfield i, 3)) (hf : mc_FP own i 2 3 .int false) (kk : mc_E own cc nL J (pc + 3) L st (WW (mc_up s 9 v) a q u c h m b n d z) kc ks) : mc_E own cc nL J pc L (.int v :: .ref 13 :: st) (WW s a q u c h m b n d z) kc ks := e_put hd hf rfl (Nat.le_of_ble_eq_true rfl) rfl kk
theorem put_kept_lawNumber (hd : decode cc pc = .ok (.putfield i, 3)) (hf : mc_FP own i 2 4 .int false) (kk : mc_E own cc nL J (pc + 3) L st (WW (mc_up s 10 v) a q u c h m b n d z) kc ks) : mc_E own cc nL J pc L (.int v :: .ref 13 :: st) (WW s a q u c h m b n d z) kc ks := e_put hd hf rfl (Nat.le_of_ble_eq_true rfl) rfl kk
theorem ast_kowed (hd : decode cc pc = .ok (.iastore, 1)) (hi : vp_in j (a 4).length) (kk : mc_E own cc nL J (pc + 1) L st (WW s (mc_up a 4 ((a 4).set j.toNatClampNeg x)) q u c h m b n d z) kc ks) : mc_E own cc nL J pc L (.int x :: .int j :: .ref 15 :: st) (WW s a q u c h m b n d z) kc ks := e_iast hd rfl hi kk
theorem ald_kowed (hd : decode cc pc = .ok (.iaload, 1)) (hi : vp_in j (a 4).length) (kk : mc_E own cc nL J (pc + 1) L (.int ((a 4).getD j.toNatClampNeg 0) :: st) (WW s a q u c h m b n d z) kc ks) : mc_E own cc nL J pc L (.int j :: .ref 15 :: st) (WW s a q u c h m b n d z) kc ks := e_iald hd rfl hi rfl kk
theorem aldv_kowed (hd : decode cc pc = .ok (.iaload, 1)) (hi : vp_in j (a 4).length) (hx : (a 4).getD j.toNatClampNeg 0 = x) (kk : mc_E own cc nL J (pc + 1) L (.int x :: st) (WW s a q u c h m b n d z) kc ks) : mc_E own cc nL J pc L (.int j :: .ref 15 :: st) (WW s a q u c h m b n d z) kc ks := e_iald hd rfl hi hx kk
theorem ast_kreach (hd : decode cc pc = .ok (.iastore, 1)) (hi : vp_in j (c 2).length) (kk : mc_E own cc nL J (pc + 1) L st (WW s a q u (mc_up c 2 ((c 2).set j.toNatClampNeg x)) h m b n d z) kc ks) : mc_E own cc nL J pc L (.int x :: .int j :: .ref 16 :: st) (WW s a q u c h m b n d z) kc ks := e_iast hd rfl hi kk
theorem ald_kreach (hd : decode cc pc = .ok (.iaload, 1)) (hi : vp_in j (c 2).length) (kk : mc_E own cc nL J (pc + 1) L (.int ((c 2).getD j.toNatClampNeg 0) :: st) (WW s a q u c h m b n d z) kc ks) : mc_E own cc nL J pc L (.int j :: .ref 16 :: st) (WW s a q u c h m b n d z) kc ks := e_iald hd rfl hi rfl kk
theorem aldv_kreach (hd : decode cc pc = .ok (.iaload, 1)) (hi : vp_in j (c 2).length) (hx : (c 2).getD j.toNatClampNeg 0 = x) (kk : mc_E own cc nL J (pc + 1) L (.int x :: st) (WW s a q u c h m b n d z) kc ks) : mc_E own cc nL J pc L (.int j :: .ref 16 :: st) (WW s a q u c h m b n d z) kc ks := e_iald hd rfl hi hx kk
theorem put_hand_kind (hd : decode cc pc = .ok (.putfield i, 3)) (hf : mc_FP own i 1 0 .int false) (kk : mc_E own cc nL J (pc + 3) L st (WW s a q (mc_up u 6 v) c h m b n d z) kc ks) : mc_E own cc nL J pc L (.int v :: .ref 17 :: st) (WW s a q u c h m b n d z) kc ks := e_put hd hf rfl (Nat.le_of_ble_eq_true rfl) rfl kk
theorem put_hand_law {h1 : Nat} (hd : decode cc pc = .ok (.putfield i, 3)) (hf : mc_FP own i 1 1 (.object RX5) false) (kk : mc_E own cc nL J (pc + 3) L st (WW s a q u c h1 m b n d z) kc ks) : mc_E own cc nL J pc L (.ref h1 :: .ref 17 :: st) (WW s a q u c h m b n d z) kc ks := e_put hd hf rfl (Nat.le_of_ble_eq_true rfl) rfl kk
theorem put_hand_many (hd : decode cc pc = .ok (.putfield i, 3)) (hf : mc_FP own i 1 5 .int false) (kk : mc_E own cc nL J (pc + 3) L st (WW s a q (mc_up u 7 v) c h m b n d z) kc ks) : mc_E own cc nL J pc L (.int v :: .ref 17 :: st) (WW s a q u c h m b n d z) kc ks := e_put hd hf rfl (Nat.le_of_ble_eq_true rfl) rfl kk
theorem ast_names (hd : decode cc pc = .ok (.iastore, 1)) (hi : vp_in j (c 3).length) (kk : mc_E own cc nL J (pc + 1) L st (WW s a q u (mc_up c 3 ((c 3).set j.toNatClampNeg x)) h m b n d z) kc ks) : mc_E own cc nL J pc L (.int x :: .int j :: .ref 18 :: st) (WW s a q u c h m b n d z) kc ks := e_iast hd rfl hi kk
theorem ald_names (hd : decode cc pc = .ok (.iaload, 1)) (hi : vp_in j (c 3).length) (kk : mc_E own cc nL J (pc + 1) L (.int ((c 3).getD j.toNatClampNeg 0) :: st) (WW s a q u c h m b n d z) kc ks) : mc_E own cc nL J pc L (.int j :: .ref 18 :: st) (WW s a q u c h m b n d z) kc ks := e_iald hd rfl hi rfl kk
theorem aldv_names (hd : decode cc pc = .ok (.iaload, 1)) (hi : vp_in j (c 3).length) (hx : (c 3).getD j.toNatClampNeg 0 = x) (kk : mc_E own cc nL J (pc + 1) L (.int x :: st) (WW s a q u c h m b n d z) kc ks) : mc_E own cc nL J pc L (.int j :: .ref 18 :: st) (WW s a q u c h m b n d z) kc ks := e_iald hd rfl hi hx kk
theorem ast_stack (hd : decode cc pc = .ok (.iastore, 1)) (hi : vp_in j (c 4).length) (kk : mc_E own cc nL J (pc + 1) L st (WW s a q u (mc_up c 4 ((c 4).set j.toNatClampNeg x)) h m b n d z) kc ks) : mc_E own cc nL J pc L (.int x :: .int j :: .ref 19 :: st) (WW s a q u c h m b n d z) kc ks := e_iast hd rfl hi kk
theorem ald_stack (hd : decode cc pc = .ok (.iaload, 1)) (hi : vp_in j (c 4).length) (kk : mc_E own cc nL J (pc + 1) L (.int ((c 4).getD j.toNatClampNeg 0) :: st) (WW s a q u c h m b n d z) kc ks) : mc_E own cc nL J pc L (.int j :: .ref 19 :: st) (WW s a q u c h m b n d z) kc ks := e_iald hd rfl hi rfl kk
theorem aldv_stack (hd : decode cc pc = .ok (.iaload, 1)) (hi : vp_in j (c 4).length) (hx : (c 4).getD j.toNatClampNeg 0 = x) (kk : mc_E own cc nL J (pc + 1) L (.int x :: st) (WW s a q u c h m b n d z) kc ks) : mc_E own cc nL J pc L (.int j :: .ref 19 :: st) (WW s a q u c h m b n d z) kc ks := e_iald hd rfl hi hx kk
theorem ast_row (hd : decode cc pc = .ok (.iastore, 1)) (hi : vp_in j (c 5).length) (kk : mc_E own cc nL J (pc + 1) L st (WW s a q u (mc_up c 5 ((c 5).set j.toNatClampNeg x)) h m b n d z) kc ks) : mc_E own cc nL J pc L (.int x :: .int j :: .ref 20 :: st) (WW s a q u c h m b n d z) kc ks := e_iast hd rfl hi kk
theorem ald_row (hd : decode cc pc = .ok (.iaload, 1)) (hi : vp_in j (c 5).length) (kk : mc_E own cc nL J (pc + 1) L (.int ((c 5).getD j.toNatClampNeg 0) :: st) (WW s a q u c h m b n d z) kc ks) : mc_E own cc nL J pc L (.int j :: .ref 20 :: st) (WW s a q u c h m b n d z) kc ks := e_iald hd rfl hi rfl kk
theorem aldv_row (hd : decode cc pc = .ok (.iaload, 1)) (hi : vp_in j (c 5).length) (hx : (c 5).getD j.toNatClampNeg 0 = x) (kk : mc_E own cc nL J (pc + 1) L (.int x :: st) (WW s a q u c h m b n d z) kc ks) : mc_E own cc nL J pc L (.int j :: .ref 20 :: st) (WW s a q u c h m b n d z) kc ks := e_iald hd rfl hi hx kk
theorem put_sh0_sort (hd : decode cc pc = .ok (.putfield i, 3)) (hf : mc_FP own i 3 1 .int false) (kk : mc_E own cc nL J (pc + 3) L st (WW (mc_up s 11 v) a q u c h m b n d z) kc ks) : mc_E own cc nL J pc L (.int v :: .ref 21 :: st) (WW s a q u c h m b n d z) kc ks := e_put hd hf rfl (Nat.le_of_ble_eq_true rfl) rfl kk
theorem put_sh0_size (hd : decode cc pc = .ok (.putfield i, 3)) (hf : mc_FP own i 3 2 .int false) (kk : mc_E own cc nL J (pc + 3) L st (WW (mc_up s 12 v) a q u c h m b n d z) kc ks) : mc_E own cc nL J pc L (.int v :: .ref 21 :: st) (WW s a q u c h m b n d z) kc ks := e_put hd hf rfl (Nat.le_of_ble_eq_true rfl) rfl kk
theorem ast_num0 (hd : decode cc pc = .ok (.iastore, 1)) (hi : vp_in j (a 5).length) (kk : mc_E own cc nL J (pc + 1) L st (WW s (mc_up a 5 ((a 5).set j.toNatClampNeg x)) q u c h m b n d z) kc ks) : mc_E own cc nL J pc L (.int x :: .int j :: .ref 22 :: st) (WW s a q u c h m b n d z) kc ks := e_iast hd rfl hi kk
theorem ald_num0 (hd : decode cc pc = .ok (.iaload, 1)) (hi : vp_in j (a 5).length) (kk : mc_E own cc nL J (pc + 1) L (.int ((a 5).getD j.toNatClampNeg 0) :: st) (WW s a q u c h m b n d z) kc ks) : mc_E own cc nL J pc L (.int j :: .ref 22 :: st) (WW s a q u c h m b n d z) kc ks := e_iald hd rfl hi rfl kk
theorem aldv_num0 (hd : decode cc pc = .ok (.iaload, 1)) (hi : vp_in j (a 5).length) (hx : (a 5).getD j.toNatClampNeg 0 = x) (kk : mc_E own cc nL J (pc + 1) L (.int x :: st) (WW s a q u c h m b n d z) kc ks) : mc_E own cc nL J pc L (.int j :: .ref 22 :: st) (WW s a q u c h m b n d z) kc ks := e_iald hd rfl hi hx kk
theorem put_sh1_sort (hd : decode cc pc = .ok (.putfield i, 3)) (hf : mc_FP own i 3 1 .int false) (kk : mc_E own cc nL J (pc + 3) L st (WW (mc_up s 13 v) a q u c h m b n d z) kc ks) : mc_E own cc nL J pc L (.int v :: .ref 23 :: st) (WW s a q u c h m b n d z) kc ks := e_put hd hf rfl (Nat.le_of_ble_eq_true rfl) rfl kk
theorem put_sh1_size (hd : decode cc pc = .ok (.putfield i, 3)) (hf : mc_FP own i 3 2 .int false) (kk : mc_E own cc nL J (pc + 3) L st (WW (mc_up s 14 v) a q u c h m b n d z) kc ks) : mc_E own cc nL J pc L (.int v :: .ref 23 :: st) (WW s a q u c h m b n d z) kc ks := e_put hd hf rfl (Nat.le_of_ble_eq_true rfl) rfl kk
theorem ast_num1 (hd : decode cc pc = .ok (.iastore, 1)) (hi : vp_in j (a 6).length) (kk : mc_E own cc nL J (pc + 1) L st (WW s (mc_up a 6 ((a 6).set j.toNatClampNeg x)) q u c h m b n d z) kc ks) : mc_E own cc nL J pc L (.int x :: .int j :: .ref 24 :: st) (WW s a q u c h m b n d z) kc ks := e_iast hd rfl hi kk
theorem ald_num1 (hd : decode cc pc = .ok (.iaload, 1)) (hi : vp_in j (a 6).length) (kk : mc_E own cc nL J (pc + 1) L (.int ((a 6).getD j.toNatClampNeg 0) :: st) (WW s a q u c h m b n d z) kc ks) : mc_E own cc nL J pc L (.int j :: .ref 24 :: st) (WW s a q u c h m b n d z) kc ks := e_iald hd rfl hi rfl kk
theorem aldv_num1 (hd : decode cc pc = .ok (.iaload, 1)) (hi : vp_in j (a 6).length) (hx : (a 6).getD j.toNatClampNeg 0 = x) (kk : mc_E own cc nL J (pc + 1) L (.int x :: st) (WW s a q u c h m b n d z) kc ks) : mc_E own cc nL J pc L (.int j :: .ref 24 :: st) (WW s a q u c h m b n d z) kc ks := e_iald hd rfl hi hx kk
theorem put_sh2_sort (hd : decode cc pc = .ok (.putfield i, 3)) (hf : mc_FP own i 3 1 .int false) (kk : mc_E own cc nL J (pc + 3) L st (WW (mc_up s 15 v) a q u c h m b n d z) kc ks) : mc_E own cc nL J pc L (.int v :: .ref 25 :: st) (WW s a q u c h m b n d z) kc ks := e_put hd hf rfl (Nat.le_of_ble_eq_true rfl) rfl kk
theorem put_sh2_size (hd : decode cc pc = .ok (.putfield i, 3)) (hf : mc_FP own i 3 2 .int false) (kk : mc_E own cc nL J (pc + 3) L st (WW (mc_up s 16 v) a q u c h m b n d z) kc ks) : mc_E own cc nL J pc L (.int v :: .ref 25 :: st) (WW s a q u c h m b n d z) kc ks := e_put hd hf rfl (Nat.le_of_ble_eq_true rfl) rfl kk
theorem ast_num2 (hd : decode cc pc = .ok (.iastore, 1)) (hi : vp_in j (a 7).length) (kk : mc_E own cc nL J (pc + 1) L st (WW s (mc_up a 7 ((a 7).set j.toNatClampNeg x)) q u c h m b n d z) kc ks) : mc_E own cc nL J pc L (.int x :: .int j :: .ref 26 :: st) (WW s a q u c h m b n d z) kc ks := e_iast hd rfl hi kk
theorem ald_num2 (hd : decode cc pc = .ok (.iaload, 1)) (hi : vp_in j (a 7).length) (kk : mc_E own cc nL J (pc + 1) L (.int ((a 7).getD j.toNatClampNeg 0) :: st) (WW s a q u c h m b n d z) kc ks) : mc_E own cc nL J pc L (.int j :: .ref 26 :: st) (WW s a q u c h m b n d z) kc ks := e_iald hd rfl hi rfl kk
theorem aldv_num2 (hd : decode cc pc = .ok (.iaload, 1)) (hi : vp_in j (a 7).length) (hx : (a 7).getD j.toNatClampNeg 0 = x) (kk : mc_E own cc nL J (pc + 1) L (.int x :: st) (WW s a q u c h m b n d z) kc ks) : mc_E own cc nL J pc L (.int j :: .ref 26 :: st) (WW s a q u c h m b n d z) kc ks := e_iald hd rfl hi hx kk
theorem put_sh3_sort (hd : decode cc pc = .ok (.putfield i, 3)) (hf : mc_FP own i 3 1 .int false) (kk : mc_E own cc nL J (pc + 3) L st (WW (mc_up s 17 v) a q u c h m b n d z) kc ks) : mc_E own cc nL J pc L (.int v :: .ref 27 :: st) (WW s a q u c h m b n d z) kc ks := e_put hd hf rfl (Nat.le_of_ble_eq_true rfl) rfl kk
theorem put_sh3_size (hd : decode cc pc = .ok (.putfield i, 3)) (hf : mc_FP own i 3 2 .int false) (kk : mc_E own cc nL J (pc + 3) L st (WW (mc_up s 18 v) a q u c h m b n d z) kc ks) : mc_E own cc nL J pc L (.int v :: .ref 27 :: st) (WW s a q u c h m b n d z) kc ks := e_put hd hf rfl (Nat.le_of_ble_eq_true rfl) rfl kk
theorem ast_num3 (hd : decode cc pc = .ok (.iastore, 1)) (hi : vp_in j (a 8).length) (kk : mc_E own cc nL J (pc + 1) L st (WW s (mc_up a 8 ((a 8).set j.toNatClampNeg x)) q u c h m b n d z) kc ks) : mc_E own cc nL J pc L (.int x :: .int j :: .ref 28 :: st) (WW s a q u c h m b n d z) kc ks := e_iast hd rfl hi kk
theorem ald_num3 (hd : decode cc pc = .ok (.iaload, 1)) (hi : vp_in j (a 8).length) (kk : mc_E own cc nL J (pc + 1) L (.int ((a 8).getD j.toNatClampNeg 0) :: st) (WW s a q u c h m b n d z) kc ks) : mc_E own cc nL J pc L (.int j :: .ref 28 :: st) (WW s a q u c h m b n d z) kc ks := e_iald hd rfl hi rfl kk
theorem aldv_num3 (hd : decode cc pc = .ok (.iaload, 1)) (hi : vp_in j (a 8).length) (hx : (a 8).getD j.toNatClampNeg 0 = x) (kk : mc_E own cc nL J (pc + 1) L (.int x :: st) (WW s a q u c h m b n d z) kc ks) : mc_E own cc nL J pc L (.int j :: .ref 28 :: st) (WW s a q u c h m b n d z) kc ks := e_iald hd rfl hi hx kk
theorem put_y_base0 (hd : decode cc pc = .ok (.putfield i, 3)) (hf : mc_FP own i 7 0 .int false) (kk : mc_E own cc nL J (pc + 3) L st (WW s a q u c h (mc_up m 0 v) b n d z) kc ks) : mc_E own cc nL J pc L (.int v :: .ref 29 :: st) (WW s a q u c h m b n d z) kc ks := e_put hd hf rfl (Nat.le_of_ble_eq_true rfl) rfl kk
theorem put_y_year0 (hd : decode cc pc = .ok (.putfield i, 3)) (hf : mc_FP own i 7 1 .int false) (kk : mc_E own cc nL J (pc + 3) L st (WW s a q u c h (mc_up m 1 v) b n d z) kc ks) : mc_E own cc nL J pc L (.int v :: .ref 29 :: st) (WW s a q u c h m b n d z) kc ks := e_put hd hf rfl (Nat.le_of_ble_eq_true rfl) rfl kk
theorem put_y_clerks (hd : decode cc pc = .ok (.putfield i, 3)) (hf : mc_FP own i 7 2 .int false) (kk : mc_E own cc nL J (pc + 3) L st (WW s a q u c h (mc_up m 2 v) b n d z) kc ks) : mc_E own cc nL J pc L (.int v :: .ref 29 :: st) (WW s a q u c h m b n d z) kc ks := e_put hd hf rfl (Nat.le_of_ble_eq_true rfl) rfl kk
theorem put_y_taped (hd : decode cc pc = .ok (.putfield i, 3)) (hf : mc_FP own i 7 7 .int false) (kk : mc_E own cc nL J (pc + 3) L st (WW s a q u c h (mc_up m 3 v) b n d z) kc ks) : mc_E own cc nL J pc L (.int v :: .ref 29 :: st) (WW s a q u c h m b n d z) kc ks := e_put hd hf rfl (Nat.le_of_ble_eq_true rfl) rfl kk
theorem put_y_texts (hd : decode cc pc = .ok (.putfield i, 3)) (hf : mc_FP own i 7 10 .int false) (kk : mc_E own cc nL J (pc + 3) L st (WW s a q u c h (mc_up m 4 v) b n d z) kc ks) : mc_E own cc nL J pc L (.int v :: .ref 29 :: st) (WW s a q u c h m b n d z) kc ks := e_put hd hf rfl (Nat.le_of_ble_eq_true rfl) rfl kk
theorem put_y_rule (hd : decode cc pc = .ok (.putfield i, 3)) (hf : mc_FP own i 7 11 .int false) (kk : mc_E own cc nL J (pc + 3) L st (WW s a q u c h (mc_up m 5 v) b n d z) kc ks) : mc_E own cc nL J pc L (.int v :: .ref 29 :: st) (WW s a q u c h m b n d z) kc ks := e_put hd hf rfl (Nat.le_of_ble_eq_true rfl) rfl kk
theorem put_y_hasImage (hd : decode cc pc = .ok (.putfield i, 3)) (hf : mc_FP own i 7 12 .boolean false) (hv : mc_fit .boolean (.int v) = true) (kk : mc_E own cc nL J (pc + 3) L st (WW s a q u c h (mc_up m 6 v) b n d z) kc ks) : mc_E own cc nL J pc L (.int v :: .ref 29 :: st) (WW s a q u c h m b n d z) kc ks := e_put hd hf rfl (Nat.le_of_ble_eq_true rfl) hv kk
theorem put_y_imageClerks (hd : decode cc pc = .ok (.putfield i, 3)) (hf : mc_FP own i 7 13 .int false) (kk : mc_E own cc nL J (pc + 3) L st (WW s a q u c h (mc_up m 7 v) b n d z) kc ks) : mc_E own cc nL J pc L (.int v :: .ref 29 :: st) (WW s a q u c h m b n d z) kc ks := e_put hd hf rfl (Nat.le_of_ble_eq_true rfl) rfl kk
theorem put_y_imageBase (hd : decode cc pc = .ok (.putfield i, 3)) (hf : mc_FP own i 7 14 .int false) (kk : mc_E own cc nL J (pc + 3) L st (WW s a q u c h (mc_up m 8 v) b n d z) kc ks) : mc_E own cc nL J pc L (.int v :: .ref 29 :: st) (WW s a q u c h m b n d z) kc ks := e_put hd hf rfl (Nat.le_of_ble_eq_true rfl) rfl kk
theorem put_y_imageYear (hd : decode cc pc = .ok (.putfield i, 3)) (hf : mc_FP own i 7 15 .int false) (kk : mc_E own cc nL J (pc + 3) L st (WW s a q u c h (mc_up m 9 v) b n d z) kc ks) : mc_E own cc nL J pc L (.int v :: .ref 29 :: st) (WW s a q u c h m b n d z) kc ks := e_put hd hf rfl (Nat.le_of_ble_eq_true rfl) rfl kk
theorem put_y_imageRule (hd : decode cc pc = .ok (.putfield i, 3)) (hf : mc_FP own i 7 16 .int false) (kk : mc_E own cc nL J (pc + 3) L st (WW s a q u c h (mc_up m 10 v) b n d z) kc ks) : mc_E own cc nL J pc L (.int v :: .ref 29 :: st) (WW s a q u c h m b n d z) kc ks := e_put hd hf rfl (Nat.le_of_ble_eq_true rfl) rfl kk
theorem put_y_at (hd : decode cc pc = .ok (.putfield i, 3)) (hf : mc_FP own i 7 22 .int false) (kk : mc_E own cc nL J (pc + 3) L st (WW s a q u c h m b (mc_up n 0 v) d z) kc ks) : mc_E own cc nL J pc L (.int v :: .ref 29 :: st) (WW s a q u c h m b n d z) kc ks := e_put hd hf rfl (Nat.le_of_ble_eq_true rfl) rfl kk
theorem put_y_begun (hd : decode cc pc = .ok (.putfield i, 3)) (hf : mc_FP own i 7 23 .int false) (kk : mc_E own cc nL J (pc + 3) L st (WW s a q u c h m b (mc_up n 1 v) d z) kc ks) : mc_E own cc nL J pc L (.int v :: .ref 29 :: st) (WW s a q u c h m b n d z) kc ks := e_put hd hf rfl (Nat.le_of_ble_eq_true rfl) rfl kk
theorem put_y_token (hd : decode cc pc = .ok (.putfield i, 3)) (hf : mc_FP own i 7 24 .int false) (kk : mc_E own cc nL J (pc + 3) L st (WW s a q u c h m b (mc_up n 2 v) d z) kc ks) : mc_E own cc nL J pc L (.int v :: .ref 29 :: st) (WW s a q u c h m b n d z) kc ks := e_put hd hf rfl (Nat.le_of_ble_eq_true rfl) rfl kk
theorem put_y_value (hd : decode cc pc = .ok (.putfield i, 3)) (hf : mc_FP own i 7 25 .int false) (kk : mc_E own cc nL J (pc + 3) L st (WW s a q u c h m b (mc_up n 3 v) d z) kc ks) : mc_E own cc nL J pc L (.int v :: .ref 29 :: st) (WW s a q u c h m b n d z) kc ks := e_put hd hf rfl (Nat.le_of_ble_eq_true rfl) rfl kk
theorem put_y_heldMany (hd : decode cc pc = .ok (.putfield i, 3)) (hf : mc_FP own i 7 28 .int false) (kk : mc_E own cc nL J (pc + 3) L st (WW s a q u c h m b (mc_up n 4 v) d z) kc ks) : mc_E own cc nL J pc L (.int v :: .ref 29 :: st) (WW s a q u c h m b n d z) kc ks := e_put hd hf rfl (Nat.le_of_ble_eq_true rfl) rfl kk
theorem put_y_opens (hd : decode cc pc = .ok (.putfield i, 3)) (hf : mc_FP own i 7 29 .int false) (kk : mc_E own cc nL J (pc + 3) L st (WW s a q u c h m b (mc_up n 5 v) d z) kc ks) : mc_E own cc nL J pc L (.int v :: .ref 29 :: st) (WW s a q u c h m b n d z) kc ks := e_put hd hf rfl (Nat.le_of_ble_eq_true rfl) rfl kk
theorem put_y_out (hd : decode cc pc = .ok (.putfield i, 3)) (hf : mc_FP own i 7 30 .int false) (kk : mc_E own cc nL J (pc + 3) L st (WW s a q u c h m b (mc_up n 6 v) d z) kc ks) : mc_E own cc nL J pc L (.int v :: .ref 29 :: st) (WW s a q u c h m b n d z) kc ks := e_put hd hf rfl (Nat.le_of_ble_eq_true rfl) rfl kk
theorem put_y_figureMany (hd : decode cc pc = .ok (.putfield i, 3)) (hf : mc_FP own i 7 34 .int false) (kk : mc_E own cc nL J (pc + 3) L st (WW s a q u c h m b (mc_up n 7 v) d z) kc ks) : mc_E own cc nL J pc L (.int v :: .ref 29 :: st) (WW s a q u c h m b n d z) kc ks := e_put hd hf rfl (Nat.le_of_ble_eq_true rfl) rfl kk
theorem ast_kind (hd : decode cc pc = .ok (.iastore, 1)) (hi : vp_in j (b 0).length) (kk : mc_E own cc nL J (pc + 1) L st (WW s a q u c h m (mc_up b 0 ((b 0).set j.toNatClampNeg x)) n d z) kc ks) : mc_E own cc nL J pc L (.int x :: .int j :: .ref 30 :: st) (WW s a q u c h m b n d z) kc ks := e_iast hd rfl hi kk
theorem ald_kind (hd : decode cc pc = .ok (.iaload, 1)) (hi : vp_in j (b 0).length) (kk : mc_E own cc nL J (pc + 1) L (.int ((b 0).getD j.toNatClampNeg 0) :: st) (WW s a q u c h m b n d z) kc ks) : mc_E own cc nL J pc L (.int j :: .ref 30 :: st) (WW s a q u c h m b n d z) kc ks := e_iald hd rfl hi rfl kk
theorem aldv_kind (hd : decode cc pc = .ok (.iaload, 1)) (hi : vp_in j (b 0).length) (hx : (b 0).getD j.toNatClampNeg 0 = x) (kk : mc_E own cc nL J (pc + 1) L (.int x :: st) (WW s a q u c h m b n d z) kc ks) : mc_E own cc nL J pc L (.int j :: .ref 30 :: st) (WW s a q u c h m b n d z) kc ks := e_iald hd rfl hi hx kk
theorem ast_ymore (hd : decode cc pc = .ok (.iastore, 1)) (hi : vp_in j (b 1).length) (kk : mc_E own cc nL J (pc + 1) L st (WW s a q u c h m (mc_up b 1 ((b 1).set j.toNatClampNeg x)) n d z) kc ks) : mc_E own cc nL J pc L (.int x :: .int j :: .ref 31 :: st) (WW s a q u c h m b n d z) kc ks := e_iast hd rfl hi kk
theorem ald_ymore (hd : decode cc pc = .ok (.iaload, 1)) (hi : vp_in j (b 1).length) (kk : mc_E own cc nL J (pc + 1) L (.int ((b 1).getD j.toNatClampNeg 0) :: st) (WW s a q u c h m b n d z) kc ks) : mc_E own cc nL J pc L (.int j :: .ref 31 :: st) (WW s a q u c h m b n d z) kc ks := e_iald hd rfl hi rfl kk
theorem aldv_ymore (hd : decode cc pc = .ok (.iaload, 1)) (hi : vp_in j (b 1).length) (hx : (b 1).getD j.toNatClampNeg 0 = x) (kk : mc_E own cc nL J (pc + 1) L (.int x :: st) (WW s a q u c h m b n d z) kc ks) : mc_E own cc nL J pc L (.int j :: .ref 31 :: st) (WW s a q u c h m b n d z) kc ks := e_iald hd rfl hi hx kk
theorem ast_owes (hd : decode cc pc = .ok (.iastore, 1)) (hi : vp_in j (b 2).length) (kk : mc_E own cc nL J (pc + 1) L st (WW s a q u c h m (mc_up b 2 ((b 2).set j.toNatClampNeg x)) n d z) kc ks) : mc_E own cc nL J pc L (.int x :: .int j :: .ref 32 :: st) (WW s a q u c h m b n d z) kc ks := e_iast hd rfl hi kk
theorem ald_owes (hd : decode cc pc = .ok (.iaload, 1)) (hi : vp_in j (b 2).length) (kk : mc_E own cc nL J (pc + 1) L (.int ((b 2).getD j.toNatClampNeg 0) :: st) (WW s a q u c h m b n d z) kc ks) : mc_E own cc nL J pc L (.int j :: .ref 32 :: st) (WW s a q u c h m b n d z) kc ks := e_iald hd rfl hi rfl kk
theorem aldv_owes (hd : decode cc pc = .ok (.iaload, 1)) (hi : vp_in j (b 2).length) (hx : (b 2).getD j.toNatClampNeg 0 = x) (kk : mc_E own cc nL J (pc + 1) L (.int x :: st) (WW s a q u c h m b n d z) kc ks) : mc_E own cc nL J pc L (.int j :: .ref 32 :: st) (WW s a q u c h m b n d z) kc ks := e_iald hd rfl hi hx kk
theorem ast_ytape (hd : decode cc pc = .ok (.iastore, 1)) (hi : vp_in j (b 3).length) (kk : mc_E own cc nL J (pc + 1) L st (WW s a q u c h m (mc_up b 3 ((b 3).set j.toNatClampNeg x)) n d z) kc ks) : mc_E own cc nL J pc L (.int x :: .int j :: .ref 33 :: st) (WW s a q u c h m b n d z) kc ks := e_iast hd rfl hi kk
theorem ald_ytape (hd : decode cc pc = .ok (.iaload, 1)) (hi : vp_in j (b 3).length) (kk : mc_E own cc nL J (pc + 1) L (.int ((b 3).getD j.toNatClampNeg 0) :: st) (WW s a q u c h m b n d z) kc ks) : mc_E own cc nL J pc L (.int j :: .ref 33 :: st) (WW s a q u c h m b n d z) kc ks := e_iald hd rfl hi rfl kk
theorem aldv_ytape (hd : decode cc pc = .ok (.iaload, 1)) (hi : vp_in j (b 3).length) (hx : (b 3).getD j.toNatClampNeg 0 = x) (kk : mc_E own cc nL J (pc + 1) L (.int x :: st) (WW s a q u c h m b n d z) kc ks) : mc_E own cc nL J pc L (.int j :: .ref 33 :: st) (WW s a q u c h m b n d z) kc ks := e_iald hd rfl hi hx kk
theorem ast_codes (hd : decode cc pc = .ok (.iastore, 1)) (hi : vp_in j (b 4).length) (kk : mc_E own cc nL J (pc + 1) L st (WW s a q u c h m (mc_up b 4 ((b 4).set j.toNatClampNeg x)) n d z) kc ks) : mc_E own cc nL J pc L (.int x :: .int j :: .ref 34 :: st) (WW s a q u c h m b n d z) kc ks := e_iast hd rfl hi kk
theorem ald_codes (hd : decode cc pc = .ok (.iaload, 1)) (hi : vp_in j (b 4).length) (kk : mc_E own cc nL J (pc + 1) L (.int ((b 4).getD j.toNatClampNeg 0) :: st) (WW s a q u c h m b n d z) kc ks) : mc_E own cc nL J pc L (.int j :: .ref 34 :: st) (WW s a q u c h m b n d z) kc ks := e_iald hd rfl hi rfl kk
theorem aldv_codes (hd : decode cc pc = .ok (.iaload, 1)) (hi : vp_in j (b 4).length) (hx : (b 4).getD j.toNatClampNeg 0 = x) (kk : mc_E own cc nL J (pc + 1) L (.int x :: st) (WW s a q u c h m b n d z) kc ks) : mc_E own cc nL J pc L (.int j :: .ref 34 :: st) (WW s a q u c h m b n d z) kc ks := e_iald hd rfl hi hx kk
theorem ast_starts (hd : decode cc pc = .ok (.iastore, 1)) (hi : vp_in j (b 5).length) (kk : mc_E own cc nL J (pc + 1) L st (WW s a q u c h m (mc_up b 5 ((b 5).set j.toNatClampNeg x)) n d z) kc ks) : mc_E own cc nL J pc L (.int x :: .int j :: .ref 35 :: st) (WW s a q u c h m b n d z) kc ks := e_iast hd rfl hi kk
theorem ald_starts (hd : decode cc pc = .ok (.iaload, 1)) (hi : vp_in j (b 5).length) (kk : mc_E own cc nL J (pc + 1) L (.int ((b 5).getD j.toNatClampNeg 0) :: st) (WW s a q u c h m b n d z) kc ks) : mc_E own cc nL J pc L (.int j :: .ref 35 :: st) (WW s a q u c h m b n d z) kc ks := e_iald hd rfl hi rfl kk
theorem aldv_starts (hd : decode cc pc = .ok (.iaload, 1)) (hi : vp_in j (b 5).length) (hx : (b 5).getD j.toNatClampNeg 0 = x) (kk : mc_E own cc nL J (pc + 1) L (.int x :: st) (WW s a q u c h m b n d z) kc ks) : mc_E own cc nL J pc L (.int j :: .ref 35 :: st) (WW s a q u c h m b n d z) kc ks := e_iald hd rfl hi hx kk
theorem ast_imageOwes (hd : decode cc pc = .ok (.iastore, 1)) (hi : vp_in j (b 6).length) (kk : mc_E own cc nL J (pc + 1) L st (WW s a q u c h m (mc_up b 6 ((b 6).set j.toNatClampNeg x)) n d z) kc ks) : mc_E own cc nL J pc L (.int x :: .int j :: .ref 36 :: st) (WW s a q u c h m b n d z) kc ks := e_iast hd rfl hi kk
theorem ald_imageOwes (hd : decode cc pc = .ok (.iaload, 1)) (hi : vp_in j (b 6).length) (kk : mc_E own cc nL J (pc + 1) L (.int ((b 6).getD j.toNatClampNeg 0) :: st) (WW s a q u c h m b n d z) kc ks) : mc_E own cc nL J pc L (.int j :: .ref 36 :: st) (WW s a q u c h m b n d z) kc ks := e_iald hd rfl hi rfl kk
theorem aldv_imageOwes (hd : decode cc pc = .ok (.iaload, 1)) (hi : vp_in j (b 6).length) (hx : (b 6).getD j.toNatClampNeg 0 = x) (kk : mc_E own cc nL J (pc + 1) L (.int x :: st) (WW s a q u c h m b n d z) kc ks) : mc_E own cc nL J pc L (.int j :: .ref 36 :: st) (WW s a q u c h m b n d z) kc ks := e_iald hd rfl hi hx kk
theorem ast_sheetSort (hd : decode cc pc = .ok (.iastore, 1)) (hi : vp_in j (b 7).length) (kk : mc_E own cc nL J (pc + 1) L st (WW s a q u c h m (mc_up b 7 ((b 7).set j.toNatClampNeg x)) n d z) kc ks) : mc_E own cc nL J pc L (.int x :: .int j :: .ref 37 :: st) (WW s a q u c h m b n d z) kc ks := e_iast hd rfl hi kk
theorem ald_sheetSort (hd : decode cc pc = .ok (.iaload, 1)) (hi : vp_in j (b 7).length) (kk : mc_E own cc nL J (pc + 1) L (.int ((b 7).getD j.toNatClampNeg 0) :: st) (WW s a q u c h m b n d z) kc ks) : mc_E own cc nL J pc L (.int j :: .ref 37 :: st) (WW s a q u c h m b n d z) kc ks := e_iald hd rfl hi rfl kk
theorem aldv_sheetSort (hd : decode cc pc = .ok (.iaload, 1)) (hi : vp_in j (b 7).length) (hx : (b 7).getD j.toNatClampNeg 0 = x) (kk : mc_E own cc nL J (pc + 1) L (.int x :: st) (WW s a q u c h m b n d z) kc ks) : mc_E own cc nL J pc L (.int j :: .ref 37 :: st) (WW s a q u c h m b n d z) kc ks := e_iald hd rfl hi hx kk
theorem ast_sheetSize (hd : decode cc pc = .ok (.iastore, 1)) (hi : vp_in j (b 8).length) (kk : mc_E own cc nL J (pc + 1) L st (WW s a q u c h m (mc_up b 8 ((b 8).set j.toNatClampNeg x)) n d z) kc ks) : mc_E own cc nL J pc L (.int x :: .int j :: .ref 38 :: st) (WW s a q u c h m b n d z) kc ks := e_iast hd rfl hi kk
theorem ald_sheetSize (hd : decode cc pc = .ok (.iaload, 1)) (hi : vp_in j (b 8).length) (kk : mc_E own cc nL J (pc + 1) L (.int ((b 8).getD j.toNatClampNeg 0) :: st) (WW s a q u c h m b n d z) kc ks) : mc_E own cc nL J pc L (.int j :: .ref 38 :: st) (WW s a q u c h m b n d z) kc ks := e_iald hd rfl hi rfl kk
theorem aldv_sheetSize (hd : decode cc pc = .ok (.iaload, 1)) (hi : vp_in j (b 8).length) (hx : (b 8).getD j.toNatClampNeg 0 = x) (kk : mc_E own cc nL J (pc + 1) L (.int x :: st) (WW s a q u c h m b n d z) kc ks) : mc_E own cc nL J pc L (.int j :: .ref 38 :: st) (WW s a q u c h m b n d z) kc ks := e_iald hd rfl hi hx kk
theorem ast_ycells (hd : decode cc pc = .ok (.iastore, 1)) (hi : vp_in j (b 9).length) (kk : mc_E own cc nL J (pc + 1) L st (WW s a q u c h m (mc_up b 9 ((b 9).set j.toNatClampNeg x)) n d z) kc ks) : mc_E own cc nL J pc L (.int x :: .int j :: .ref 39 :: st) (WW s a q u c h m b n d z) kc ks := e_iast hd rfl hi kk
theorem ald_ycells (hd : decode cc pc = .ok (.iaload, 1)) (hi : vp_in j (b 9).length) (kk : mc_E own cc nL J (pc + 1) L (.int ((b 9).getD j.toNatClampNeg 0) :: st) (WW s a q u c h m b n d z) kc ks) : mc_E own cc nL J pc L (.int j :: .ref 39 :: st) (WW s a q u c h m b n d z) kc ks := e_iald hd rfl hi rfl kk
theorem aldv_ycells (hd : decode cc pc = .ok (.iaload, 1)) (hi : vp_in j (b 9).length) (hx : (b 9).getD j.toNatClampNeg 0 = x) (kk : mc_E own cc nL J (pc + 1) L (.int x :: st) (WW s a q u c h m b n d z) kc ks) : mc_E own cc nL J pc L (.int j :: .ref 39 :: st) (WW s a q u c h m b n d z) kc ks := e_iald hd rfl hi hx kk
theorem ald_law (hd : decode cc pc = .ok (.iaload, 1)) (hi : vp_in j ww_law.length) (kk : mc_E own cc nL J (pc + 1) L (.int (ww_law.getD j.toNatClampNeg 0) :: st) (WW s a q u c h m b n d z) kc ks) : mc_E own cc nL J pc L (.int j :: .ref 40 :: st) (WW s a q u c h m b n d z) kc ks := e_iald hd rfl hi rfl kk
theorem ald_words (hd : decode cc pc = .ok (.iaload, 1)) (hi : vp_in j ww_words.length) (kk : mc_E own cc nL J (pc + 1) L (.int (ww_words.getD j.toNatClampNeg 0) :: st) (WW s a q u c h m b n d z) kc ks) : mc_E own cc nL J pc L (.int j :: .ref 41 :: st) (WW s a q u c h m b n d z) kc ks := e_iald hd rfl hi rfl kk
theorem ast_held (hd : decode cc pc = .ok (.iastore, 1)) (hi : vp_in j (d 0).length) (kk : mc_E own cc nL J (pc + 1) L st (WW s a q u c h m b n (mc_up d 0 ((d 0).set j.toNatClampNeg x)) z) kc ks) : mc_E own cc nL J pc L (.int x :: .int j :: .ref 42 :: st) (WW s a q u c h m b n d z) kc ks := e_iast hd rfl hi kk
theorem ald_held (hd : decode cc pc = .ok (.iaload, 1)) (hi : vp_in j (d 0).length) (kk : mc_E own cc nL J (pc + 1) L (.int ((d 0).getD j.toNatClampNeg 0) :: st) (WW s a q u c h m b n d z) kc ks) : mc_E own cc nL J pc L (.int j :: .ref 42 :: st) (WW s a q u c h m b n d z) kc ks := e_iald hd rfl hi rfl kk
theorem aldv_held (hd : decode cc pc = .ok (.iaload, 1)) (hi : vp_in j (d 0).length) (hx : (d 0).getD j.toNatClampNeg 0 = x) (kk : mc_E own cc nL J (pc + 1) L (.int x :: st) (WW s a q u c h m b n d z) kc ks) : mc_E own cc nL J pc L (.int j :: .ref 42 :: st) (WW s a q u c h m b n d z) kc ks := e_iald hd rfl hi hx kk
theorem ast_ystack (hd : decode cc pc = .ok (.iastore, 1)) (hi : vp_in j (d 1).length) (kk : mc_E own cc nL J (pc + 1) L st (WW s a q u c h m b n (mc_up d 1 ((d 1).set j.toNatClampNeg x)) z) kc ks) : mc_E own cc nL J pc L (.int x :: .int j :: .ref 43 :: st) (WW s a q u c h m b n d z) kc ks := e_iast hd rfl hi kk
theorem ald_ystack (hd : decode cc pc = .ok (.iaload, 1)) (hi : vp_in j (d 1).length) (kk : mc_E own cc nL J (pc + 1) L (.int ((d 1).getD j.toNatClampNeg 0) :: st) (WW s a q u c h m b n d z) kc ks) : mc_E own cc nL J pc L (.int j :: .ref 43 :: st) (WW s a q u c h m b n d z) kc ks := e_iald hd rfl hi rfl kk
theorem aldv_ystack (hd : decode cc pc = .ok (.iaload, 1)) (hi : vp_in j (d 1).length) (hx : (d 1).getD j.toNatClampNeg 0 = x) (kk : mc_E own cc nL J (pc + 1) L (.int x :: st) (WW s a q u c h m b n d z) kc ks) : mc_E own cc nL J pc L (.int j :: .ref 43 :: st) (WW s a q u c h m b n d z) kc ks := e_iald hd rfl hi hx kk
theorem ast_named (hd : decode cc pc = .ok (.iastore, 1)) (hi : vp_in j (d 2).length) (kk : mc_E own cc nL J (pc + 1) L st (WW s a q u c h m b n (mc_up d 2 ((d 2).set j.toNatClampNeg x)) z) kc ks) : mc_E own cc nL J pc L (.int x :: .int j :: .ref 44 :: st) (WW s a q u c h m b n d z) kc ks := e_iast hd rfl hi kk
theorem ald_named (hd : decode cc pc = .ok (.iaload, 1)) (hi : vp_in j (d 2).length) (kk : mc_E own cc nL J (pc + 1) L (.int ((d 2).getD j.toNatClampNeg 0) :: st) (WW s a q u c h m b n d z) kc ks) : mc_E own cc nL J pc L (.int j :: .ref 44 :: st) (WW s a q u c h m b n d z) kc ks := e_iald hd rfl hi rfl kk
theorem aldv_named (hd : decode cc pc = .ok (.iaload, 1)) (hi : vp_in j (d 2).length) (hx : (d 2).getD j.toNatClampNeg 0 = x) (kk : mc_E own cc nL J (pc + 1) L (.int x :: st) (WW s a q u c h m b n d z) kc ks) : mc_E own cc nL J pc L (.int j :: .ref 44 :: st) (WW s a q u c h m b n d z) kc ks := e_iald hd rfl hi hx kk
theorem ast_figures (hd : decode cc pc = .ok (.iastore, 1)) (hi : vp_in j (d 3).length) (kk : mc_E own cc nL J (pc + 1) L st (WW s a q u c h m b n (mc_up d 3 ((d 3).set j.toNatClampNeg x)) z) kc ks) : mc_E own cc nL J pc L (.int x :: .int j :: .ref 45 :: st) (WW s a q u c h m b n d z) kc ks := e_iast hd rfl hi kk
theorem ald_figures (hd : decode cc pc = .ok (.iaload, 1)) (hi : vp_in j (d 3).length) (kk : mc_E own cc nL J (pc + 1) L (.int ((d 3).getD j.toNatClampNeg 0) :: st) (WW s a q u c h m b n d z) kc ks) : mc_E own cc nL J pc L (.int j :: .ref 45 :: st) (WW s a q u c h m b n d z) kc ks := e_iald hd rfl hi rfl kk
theorem aldv_figures (hd : decode cc pc = .ok (.iaload, 1)) (hi : vp_in j (d 3).length) (hx : (d 3).getD j.toNatClampNeg 0 = x) (kk : mc_E own cc nL J (pc + 1) L (.int x :: st) (WW s a q u c h m b n d z) kc ks) : mc_E own cc nL J pc L (.int j :: .ref 45 :: st) (WW s a q u c h m b n d z) kc ks := e_iald hd rfl hi hx kk
end World
end Zj_11_world
section Zj_12_calls2
/-! calls whose contract names the answer and the world -/
section Det
variable {own : String} {cc : ByteArray} {nL : Nat} {J : mc_J} {pc : Nat} {L : List (Option Value)} {st st0 : List Value} {w w1 : mc_W} {kc ks : Nat}
variable {y : MethodName} {c2 : ByteArray} {n2 : Nat} {ret2 : Option FieldType} {d n i : Nat} {As : List Value} {v : Value}
/-- the contract of a method that makes nothing: the answer r, the world w1 -/
abbrev mc_D (y : MethodName) (cc : ByteArray) (nL : Nat) (ret : Option FieldType) (d : Nat) (av : List Value) (w : mc_W) (r : Option Value) (w1 : mc_W) : Prop := mc_S y cc nL ret d 0 0 av w (fun r' w' => r' = r ∧ w' = w1)
theorem e_cvD {a ci : Nat} {fs : List Value} {C : String} {T0 : u_T} {N : Nat} (hS : mc_D y c2 n2 ret2 d (.ref a :: As) w (some v) w1) (hd : decode cc pc = .ok (.invokevirtual i, 3)) (hf : mc_CV own i y c2 n2 ret2 n) (hw : w[a]? = some (.inl (ci, fs))) (hc : mc_cl[ci]? = some (C, T0, N)) (hC : y.cls = C) (hn : As.length = n) (hst : st0 = As.reverse ++ .ref a :: st) (hR : mc_CR J d 0 0 n2 kc ks) (hs : (st.map fun v => v.category).sum ≤ 8)
    (kk : mc_E own cc nL J (pc + 3) L (v :: st) w1 kc ks) : mc_E own cc nL J pc L st0 w kc ks :=
  e_callV hS hd hf hw hc hC hn hR hst hs (fun r w' h => by obtain ⟨rfl, rfl⟩ := h; exact kk)
theorem e_cvU {a ci : Nat} {fs : List Value} {C : String} {T0 : u_T} {N : Nat} (hS : mc_D y c2 n2 ret2 d (.ref a :: As) w none w1) (hd : decode cc pc = .ok (.invokevirtual i, 3)) (hf : mc_CV own i y c2 n2 ret2 n) (hw : w[a]? = some (.inl (ci, fs))) (hc : mc_cl[ci]? = some (C, T0, N)) (hC : y.cls = C) (hn : As.length = n) (hst : st0 = As.reverse ++ .ref a :: st) (hR : mc_CR J d 0 0 n2 kc ks) (hs : (st.map fun v => v.category).sum ≤ 8)
    (kk : mc_E own cc nL J (pc + 3) L st w1 kc ks) : mc_E own cc nL J pc L st0 w kc ks :=
  e_callV hS hd hf hw hc hC hn hR hst hs (fun r w' h => by obtain ⟨rfl, rfl⟩ := h; exact kk)
theorem e_csD (hS : mc_D y c2 n2 ret2 d As w (some v) w1) (hd : decode cc pc = .ok (.invokestatic i, 3)) (hf : mc_CS own i y c2 n2 ret2 n) (hn : As.length = n) (hst : st0 = As.reverse ++ st) (hR : mc_CR J d 0 0 n2 kc ks) (hs : (st.map fun v => v.category).sum ≤ 8)
    (kk : mc_E own cc nL J (pc + 3) L (v :: st) w1 kc ks) : mc_E own cc nL J pc L st0 w kc ks :=
  e_callS hS hd hf hn hR hst hs (fun r w' h => by obtain ⟨rfl, rfl⟩ := h; exact kk)
theorem e_csU (hS : mc_D y c2 n2 ret2 d As w none w1) (hd : decode cc pc = .ok (.invokestatic i, 3)) (hf : mc_CS own i y c2 n2 ret2 n) (hn : As.length = n) (hst : st0 = As.reverse ++ st) (hR : mc_CR J d 0 0 n2 kc ks) (hs : (st.map fun v => v.category).sum ≤ 8)
    (kk : mc_E own cc nL J (pc + 3) L st w1 kc ks) : mc_E own cc nL J pc L st0 w kc ks :=
  e_callS hS hd hf hn hR hst hs (fun r w' h => by obtain ⟨rfl, rfl⟩ := h; exact kk)
theorem e_cnD (hS : mc_D y c2 n2 ret2 d As w (some v) w1) (hd : decode cc pc = .ok (.invokestatic i, 3)) (hf : mc_CN own i y c2 n2 ret2 n) (hn : As.length = n) (hst : st0 = As.reverse ++ st) (hR : mc_CR J d 0 0 n2 kc ks) (hs : (st.map fun v => v.category).sum ≤ 8)
    (kk : mc_E own cc nL J (pc + 3) L (v :: st) w1 kc ks) : mc_E own cc nL J pc L st0 w kc ks :=
  e_callN hS hd hf hn hR hst hs (fun r w' h => by obtain ⟨rfl, rfl⟩ := h; exact kk)
/-- the contract of a method that makes nothing: the answer r, of the world Q -/
abbrev mc_T (y : MethodName) (cc : ByteArray) (nL : Nat) (ret : Option FieldType) (d : Nat) (av : List Value) (w : mc_W) (r : Option Value) (Q : mc_W → Prop) : Prop := mc_S y cc nL ret d 0 0 av w (fun r' w' => r' = r ∧ Q w')
theorem e_cvX {a ci : Nat} {fs : List Value} {C : String} {T0 : u_T} {N : Nat} {Q : mc_W → Prop} (hS : mc_T y c2 n2 ret2 d (.ref a :: As) w (some v) Q) (hd : decode cc pc = .ok (.invokevirtual i, 3)) (hf : mc_CV own i y c2 n2 ret2 n) (hw : w[a]? = some (.inl (ci, fs))) (hc : mc_cl[ci]? = some (C, T0, N)) (hC : y.cls = C) (hn : As.length = n) (hst : st0 = As.reverse ++ .ref a :: st) (hR : mc_CR J d 0 0 n2 kc ks) (hs : (st.map fun v => v.category).sum ≤ 8)
    (kk : ∀ w', Q w' → mc_E own cc nL J (pc + 3) L (v :: st) w' kc ks) : mc_E own cc nL J pc L st0 w kc ks :=
  e_callV hS hd hf hw hc hC hn hR hst hs (fun r w' h => by obtain ⟨rfl, h⟩ := h; exact kk w' h)
theorem e_cvY {a ci : Nat} {fs : List Value} {C : String} {T0 : u_T} {N : Nat} {Q : mc_W → Prop} (hS : mc_T y c2 n2 ret2 d (.ref a :: As) w none Q) (hd : decode cc pc = .ok (.invokevirtual i, 3)) (hf : mc_CV own i y c2 n2 ret2 n) (hw : w[a]? = some (.inl (ci, fs))) (hc : mc_cl[ci]? = some (C, T0, N)) (hC : y.cls = C) (hn : As.length = n) (hst : st0 = As.reverse ++ .ref a :: st) (hR : mc_CR J d 0 0 n2 kc ks) (hs : (st.map fun v => v.category).sum ≤ 8)
    (kk : ∀ w', Q w' → mc_E own cc nL J (pc + 3) L st w' kc ks) : mc_E own cc nL J pc L st0 w kc ks :=
  e_callV hS hd hf hw hc hC hn hR hst hs (fun r w' h => by obtain ⟨rfl, h⟩ := h; exact kk w' h)
theorem e_csX {Q : mc_W → Prop} (hS : mc_T y c2 n2 ret2 d As w (some v) Q) (hd : decode cc pc = .ok (.invokestatic i, 3)) (hf : mc_CS own i y c2 n2 ret2 n) (hn : As.length = n) (hst : st0 = As.reverse ++ st) (hR : mc_CR J d 0 0 n2 kc ks) (hs : (st.map fun v => v.category).sum ≤ 8)
    (kk : ∀ w', Q w' → mc_E own cc nL J (pc + 3) L (v :: st) w' kc ks) : mc_E own cc nL J pc L st0 w kc ks :=
  e_callS hS hd hf hn hR hst hs (fun r w' h => by obtain ⟨rfl, h⟩ := h; exact kk w' h)
end Det
theorem mc_CR_of {ret : Option FieldType} {ini : Bool} {D mc ms : Nat} {P : Option Value → mc_W → Prop} {d n2 kc ks mc2 ms2 : Nat} (h1 : d + 1 ≤ D) (h2 : n2 ≤ 45) (h3 : kc + mc2 ≤ mc) (h4 : ks + ms2 ≤ ms) : mc_CR (mc_JM ret ini D mc ms P) d mc2 ms2 n2 kc ks :=
  ⟨h1, by show 8 + (n2 + 11) + 64 * d ≤ 64 * D; omega, h3, h4⟩
theorem mc_JR_of {ret : Option FieldType} {ini : Bool} {D mc ms : Nat} {P : Option Value → mc_W → Prop} {kc ks : Nat} {st : List Value} (h1 : 1 ≤ D) (h3 : kc ≤ mc) (h4 : ks ≤ ms) (h5 : (st.map fun v => v.category).sum ≤ 8) : mc_JR (mc_JM ret ini D mc ms P) kc ks st :=
  ⟨h1, by show 64 ≤ 64 * D; omega, h3, h4, h5⟩
theorem e_iincC {own : String} {cc : ByteArray} {nL : Nat} {J : mc_J} {pc : Nat} {L : List (Option Value)} {st : List Value} {w : mc_W} {kc ks i : Nat} {n : Int} {x v : Int32} (hd : decode cc pc = .ok (.iinc i n, 3)) (hv : L[i]? = some (some (.int x))) (hx : x + Int32.ofInt n = v) (hn : i < nL) (k : mc_E own cc nL J (pc + 3) (mc_st1 L i (.int v)) st w kc ks) : mc_E own cc nL J pc L st w kc ks := by
  subst hx
  exact e_iinc hd hv hn k
/-- behind a switch's cases -/
theorem mc_tabout {x : Int32} {lo hi : Int} (h0 : -2147483648 ≤ lo ∧ hi ≤ 2147483647) (h : ∀ k : Int, lo ≤ k → k ≤ hi → ¬ x = Int32.ofInt k) : x.toInt < lo ∨ hi < x.toInt := by
  by_cases h1 : x.toInt < lo
  · exact Or.inl h1
  · by_cases h2 : hi < x.toInt
    · exact Or.inr h2
    · exact absurd (Int32.ofInt_toInt x).symm (h x.toInt (by omega) (by omega))
/-! stores, where the locals are written out -/
theorem st1_0 {a0 : Option Value} {r : List (Option Value)} {v : Value} : mc_st1 (a0 :: r) 0 v = some v :: r := by rfl
theorem st2_0 {a0 a1 : Option Value} {r : List (Option Value)} {v : Value} : mc_st2 (a0 :: a1 :: r) 0 v = some v :: none :: r := by rfl
theorem st1_1 {a0 a1 : Option Value} {r : List (Option Value)} {v : Value} (h : mc_is2 (some a0) = false) : mc_st1 (a0 :: a1 :: r) 1 v = a0 :: some v :: r := by show (if mc_is2 (some a0) then _ else _ : List (Option Value)).set 1 (some v) = _; rw [h]; rfl
theorem st2_1 {a0 a1 a2 : Option Value} {r : List (Option Value)} {v : Value} (h : mc_is2 (some a0) = false) : mc_st2 (a0 :: a1 :: a2 :: r) 1 v = a0 :: some v :: none :: r := by show ((if mc_is2 (some a0) then _ else _ : List (Option Value)).set 1 (some v)).set 2 none = _; rw [h]; rfl
theorem st1_2 {a0 a1 a2 : Option Value} {r : List (Option Value)} {v : Value} (h : mc_is2 (some a1) = false) : mc_st1 (a0 :: a1 :: a2 :: r) 2 v = a0 :: a1 :: some v :: r := by show (if mc_is2 (some a1) then _ else _ : List (Option Value)).set 2 (some v) = _; rw [h]; rfl
theorem st2_2 {a0 a1 a2 a3 : Option Value} {r : List (Option Value)} {v : Value} (h : mc_is2 (some a1) = false) : mc_st2 (a0 :: a1 :: a2 :: a3 :: r) 2 v = a0 :: a1 :: some v :: none :: r := by show ((if mc_is2 (some a1) then _ else _ : List (Option Value)).set 2 (some v)).set 3 none = _; rw [h]; rfl
theorem st1_3 {a0 a1 a2 a3 : Option Value} {r : List (Option Value)} {v : Value} (h : mc_is2 (some a2) = false) : mc_st1 (a0 :: a1 :: a2 :: a3 :: r) 3 v = a0 :: a1 :: a2 :: some v :: r := by show (if mc_is2 (some a2) then _ else _ : List (Option Value)).set 3 (some v) = _; rw [h]; rfl
theorem st2_3 {a0 a1 a2 a3 a4 : Option Value} {r : List (Option Value)} {v : Value} (h : mc_is2 (some a2) = false) : mc_st2 (a0 :: a1 :: a2 :: a3 :: a4 :: r) 3 v = a0 :: a1 :: a2 :: some v :: none :: r := by show ((if mc_is2 (some a2) then _ else _ : List (Option Value)).set 3 (some v)).set 4 none = _; rw [h]; rfl
theorem st1_4 {a0 a1 a2 a3 a4 : Option Value} {r : List (Option Value)} {v : Value} (h : mc_is2 (some a3) = false) : mc_st1 (a0 :: a1 :: a2 :: a3 :: a4 :: r) 4 v = a0 :: a1 :: a2 :: a3 :: some v :: r := by show (if mc_is2 (some a3) then _ else _ : List (Option Value)).set 4 (some v) = _; rw [h]; rfl
theorem st2_4 {a0 a1 a2 a3 a4 a5 : Option Value} {r : List (Option Value)} {v : Value} (h : mc_is2 (some a3) = false) : mc_st2 (a0 :: a1 :: a2 :: a3 :: a4 :: a5 :: r) 4 v = a0 :: a1 :: a2 :: a3 :: some v :: none :: r := by show ((if mc_is2 (some a3) then _ else _ : List (Option Value)).set 4 (some v)).set 5 none = _; rw [h]; rfl
theorem st1_5 {a0 a1 a2 a3 a4 a5 : Option Value} {r : List (Option Value)} {v : Value} (h : mc_is2 (some a4) = false) : mc_st1 (a0 :: a1 :: a2 :: a3 :: a4 :: a5 :: r) 5 v = a0 :: a1 :: a2 :: a3 :: a4 :: some v :: r := by show (if mc_is2 (some a4) then _ else _ : List (Option Value)).set 5 (some v) = _; rw [h]; rfl
theorem st2_5 {a0 a1 a2 a3 a4 a5 a6 : Option Value} {r : List (Option Value)} {v : Value} (h : mc_is2 (some a4) = false) : mc_st2 (a0 :: a1 :: a2 :: a3 :: a4 :: a5 :: a6 :: r) 5 v = a0 :: a1 :: a2 :: a3 :: a4 :: some v :: none :: r := by show ((if mc_is2 (some a4) then _ else _ : List (Option Value)).set 5 (some v)).set 6 none = _; rw [h]; rfl
theorem st1_6 {a0 a1 a2 a3 a4 a5 a6 : Option Value} {r : List (Option Value)} {v : Value} (h : mc_is2 (some a5) = false) : mc_st1 (a0 :: a1 :: a2 :: a3 :: a4 :: a5 :: a6 :: r) 6 v = a0 :: a1 :: a2 :: a3 :: a4 :: a5 :: some v :: r := by show (if mc_is2 (some a5) then _ else _ : List (Option Value)).set 6 (some v) = _; rw [h]; rfl
theorem st2_6 {a0 a1 a2 a3 a4 a5 a6 a7 : Option Value} {r : List (Option Value)} {v : Value} (h : mc_is2 (some a5) = false) : mc_st2 (a0 :: a1 :: a2 :: a3 :: a4 :: a5 :: a6 :: a7 :: r) 6 v = a0 :: a1 :: a2 :: a3 :: a4 :: a5 :: some v :: none :: r := by show ((if mc_is2 (some a5) then _ else _ : List (Option Value)).set 6 (some v)).set 7 none = _; rw [h]; rfl
theorem st1_7 {a0 a1 a2 a3 a4 a5 a6 a7 : Option Value} {r : List (Option Value)} {v : Value} (h : mc_is2 (some a6) = false) : mc_st1 (a0 :: a1 :: a2 :: a3 :: a4 :: a5 :: a6 :: a7 :: r) 7 v = a0 :: a1 :: a2 :: a3 :: a4 :: a5 :: a6 :: some v :: r := by show (if mc_is2 (some a6) then _ else _ : List (Option Value)).set 7 (some v) = _; rw [h]; rfl
theorem st2_7 {a0 a1 a2 a3 a4 a5 a6 a7 a8 : Option Value} {r : List (Option Value)} {v : Value} (h : mc_is2 (some a6) = false) : mc_st2 (a0 :: a1 :: a2 :: a3 :: a4 :: a5 :: a6 :: a7 :: a8 :: r) 7 v = a0 :: a1 :: a2 :: a3 :: a4 :: a5 :: a6 :: some v :: none :: r := by show ((if mc_is2 (some a6) then _ else _ : List (Option Value)).set 7 (some v)).set 8 none = _; rw [h]; rfl
theorem st1_8 {a0 a1 a2 a3 a4 a5 a6 a7 a8 : Option Value} {r : List (Option Value)} {v : Value} (h : mc_is2 (some a7) = false) : mc_st1 (a0 :: a1 :: a2 :: a3 :: a4 :: a5 :: a6 :: a7 :: a8 :: r) 8 v = a0 :: a1 :: a2 :: a3 :: a4 :: a5 :: a6 :: a7 :: some v :: r := by show (if mc_is2 (some a7) then _ else _ : List (Option Value)).set 8 (some v) = _; rw [h]; rfl
theorem st2_8 {a0 a1 a2 a3 a4 a5 a6 a7 a8 a9 : Option Value} {r : List (Option Value)} {v : Value} (h : mc_is2 (some a7) = false) : mc_st2 (a0 :: a1 :: a2 :: a3 :: a4 :: a5 :: a6 :: a7 :: a8 :: a9 :: r) 8 v = a0 :: a1 :: a2 :: a3 :: a4 :: a5 :: a6 :: a7 :: some v :: none :: r := by show ((if mc_is2 (some a7) then _ else _ : List (Option Value)).set 8 (some v)).set 9 none = _; rw [h]; rfl
theorem st1_9 {a0 a1 a2 a3 a4 a5 a6 a7 a8 a9 : Option Value} {r : List (Option Value)} {v : Value} (h : mc_is2 (some a8) = false) : mc_st1 (a0 :: a1 :: a2 :: a3 :: a4 :: a5 :: a6 :: a7 :: a8 :: a9 :: r) 9 v = a0 :: a1 :: a2 :: a3 :: a4 :: a5 :: a6 :: a7 :: a8 :: some v :: r := by show (if mc_is2 (some a8) then _ else _ : List (Option Value)).set 9 (some v) = _; rw [h]; rfl
theorem st2_9 {a0 a1 a2 a3 a4 a5 a6 a7 a8 a9 a10 : Option Value} {r : List (Option Value)} {v : Value} (h : mc_is2 (some a8) = false) : mc_st2 (a0 :: a1 :: a2 :: a3 :: a4 :: a5 :: a6 :: a7 :: a8 :: a9 :: a10 :: r) 9 v = a0 :: a1 :: a2 :: a3 :: a4 :: a5 :: a6 :: a7 :: a8 :: some v :: none :: r := by show ((if mc_is2 (some a8) then _ else _ : List (Option Value)).set 9 (some v)).set 10 none = _; rw [h]; rfl
theorem st1_10 {a0 a1 a2 a3 a4 a5 a6 a7 a8 a9 a10 : Option Value} {r : List (Option Value)} {v : Value} (h : mc_is2 (some a9) = false) : mc_st1 (a0 :: a1 :: a2 :: a3 :: a4 :: a5 :: a6 :: a7 :: a8 :: a9 :: a10 :: r) 10 v = a0 :: a1 :: a2 :: a3 :: a4 :: a5 :: a6 :: a7 :: a8 :: a9 :: some v :: r := by show (if mc_is2 (some a9) then _ else _ : List (Option Value)).set 10 (some v) = _; rw [h]; rfl
theorem st2_10 {a0 a1 a2 a3 a4 a5 a6 a7 a8 a9 a10 a11 : Option Value} {r : List (Option Value)} {v : Value} (h : mc_is2 (some a9) = false) : mc_st2 (a0 :: a1 :: a2 :: a3 :: a4 :: a5 :: a6 :: a7 :: a8 :: a9 :: a10 :: a11 :: r) 10 v = a0 :: a1 :: a2 :: a3 :: a4 :: a5 :: a6 :: a7 :: a8 :: a9 :: some v :: none :: r := by show ((if mc_is2 (some a9) then _ else _ : List (Option Value)).set 10 (some v)).set 11 none = _; rw [h]; rfl
theorem st1_11 {a0 a1 a2 a3 a4 a5 a6 a7 a8 a9 a10 a11 : Option Value} {r : List (Option Value)} {v : Value} (h : mc_is2 (some a10) = false) : mc_st1 (a0 :: a1 :: a2 :: a3 :: a4 :: a5 :: a6 :: a7 :: a8 :: a9 :: a10 :: a11 :: r) 11 v = a0 :: a1 :: a2 :: a3 :: a4 :: a5 :: a6 :: a7 :: a8 :: a9 :: a10 :: some v :: r := by show (if mc_is2 (some a10) then _ else _ : List (Option Value)).set 11 (some v) = _; rw [h]; rfl
theorem st2_11 {a0 a1 a2 a3 a4 a5 a6 a7 a8 a9 a10 a11 a12 : Option Value} {r : List (Option Value)} {v : Value} (h : mc_is2 (some a10) = false) : mc_st2 (a0 :: a1 :: a2 :: a3 :: a4 :: a5 :: a6 :: a7 :: a8 :: a9 :: a10 :: a11 :: a12 :: r) 11 v = a0 :: a1 :: a2 :: a3 :: a4 :: a5 :: a6 :: a7 :: a8 :: a9 :: a10 :: some v :: none :: r := by show ((if mc_is2 (some a10) then _ else _ : List (Option Value)).set 11 (some v)).set 12 none = _; rw [h]; rfl
theorem st1_12 {a0 a1 a2 a3 a4 a5 a6 a7 a8 a9 a10 a11 a12 : Option Value} {r : List (Option Value)} {v : Value} (h : mc_is2 (some a11) = false) : mc_st1 (a0 :: a1 :: a2 :: a3 :: a4 :: a5 :: a6 :: a7 :: a8 :: a9 :: a10 :: a11 :: a12 :: r) 12 v = a0 :: a1 :: a2 :: a3 :: a4 :: a5 :: a6 :: a7 :: a8 :: a9 :: a10 :: a11 :: some v :: r := by show (if mc_is2 (some a11) then _ else _ : List (Option Value)).set 12 (some v) = _; rw [h]; rfl
theorem st2_12 {a0 a1 a2 a3 a4 a5 a6 a7 a8 a9 a10 a11 a12 a13 : Option Value} {r : List (Option Value)} {v : Value} (h : mc_is2 (some a11) = false) : mc_st2 (a0 :: a1 :: a2 :: a3 :: a4 :: a5 :: a6 :: a7 :: a8 :: a9 :: a10 :: a11 :: a12 :: a13 :: r) 12 v = a0 :: a1 :: a2 :: a3 :: a4 :: a5 :: a6 :: a7 :: a8 :: a9 :: a10 :: a11 :: some v :: none :: r := by show ((if mc_is2 (some a11) then _ else _ : List (Option Value)).set 12 (some v)).set 13 none = _; rw [h]; rfl
theorem st1_13 {a0 a1 a2 a3 a4 a5 a6 a7 a8 a9 a10 a11 a12 a13 : Option Value} {r : List (Option Value)} {v : Value} (h : mc_is2 (some a12) = false) : mc_st1 (a0 :: a1 :: a2 :: a3 :: a4 :: a5 :: a6 :: a7 :: a8 :: a9 :: a10 :: a11 :: a12 :: a13 :: r) 13 v = a0 :: a1 :: a2 :: a3 :: a4 :: a5 :: a6 :: a7 :: a8 :: a9 :: a10 :: a11 :: a12 :: some v :: r := by show (if mc_is2 (some a12) then _ else _ : List (Option Value)).set 13 (some v) = _; rw [h]; rfl
theorem st2_13 {a0 a1 a2 a3 a4 a5 a6 a7 a8 a9 a10 a11 a12 a13 a14 : Option Value} {r : List (Option Value)} {v : Value} (h : mc_is2 (some a12) = false) : mc_st2 (a0 :: a1 :: a2 :: a3 :: a4 :: a5 :: a6 :: a7 :: a8 :: a9 :: a10 :: a11 :: a12 :: a13 :: a14 :: r) 13 v = a0 :: a1 :: a2 :: a3 :: a4 :: a5 :: a6 :: a7 :: a8 :: a9 :: a10 :: a11 :: a12 :: some v :: none :: r := by show ((if mc_is2 (some a12) then _ else _ : List (Option Value)).set 13 (some v)).set 14 none = _; rw [h]; rfl
theorem st1_14 {a0 a1 a2 a3 a4 a5 a6 a7 a8 a9 a10 a11 a12 a13 a14 : Option Value} {r : List (Option Value)} {v : Value} (h : mc_is2 (some a13) = false) : mc_st1 (a0 :: a1 :: a2 :: a3 :: a4 :: a5 :: a6 :: a7 :: a8 :: a9 :: a10 :: a11 :: a12 :: a13 :: a14 :: r) 14 v = a0 :: a1 :: a2 :: a3 :: a4 :: a5 :: a6 :: a7 :: a8 :: a9 :: a10 :: a11 :: a12 :: a13 :: some v :: r := by show (if mc_is2 (some a13) then _ else _ : List (Option Value)).set 14 (some v) = _; rw [h]; rfl
theorem st2_14 {a0 a1 a2 a3 a4 a5 a6 a7 a8 a9 a10 a11 a12 a13 a14 a15 : Option Value} {r : List (Option Value)} {v : Value} (h : mc_is2 (some a13) = false) : mc_st2 (a0 :: a1 :: a2 :: a3 :: a4 :: a5 :: a6 :: a7 :: a8 :: a9 :: a10 :: a11 :: a12 :: a13 :: a14 :: a15 :: r) 14 v = a0 :: a1 :: a2 :: a3 :: a4 :: a5 :: a6 :: a7 :: a8 :: a9 :: a10 :: a11 :: a12 :: a13 :: some v :: none :: r := by show ((if mc_is2 (some a13) then _ else _ : List (Option Value)).set 14 (some v)).set 15 none = _; rw [h]; rfl
section Stores
variable {own : String} {cc : ByteArray} {nL : Nat} {J : mc_J} {pc : Nat} {st : List Value} {w : mc_W} {kc ks : Nat} {r : List (Option Value)}
theorem e_isn0 {a0 : Option Value} {x : Int32} (hd : decode cc pc = .ok (.istore_n 0, 1)) (hn : 0 < nL) (k : mc_E own cc nL J (pc + 1) (some (.int x) :: r) st w kc ks) : mc_E own cc nL J pc (a0 :: r) (.int x :: st) w kc ks := e_istoren hd hn (show mc_E own cc nL J (pc + 1) (mc_st1 (a0 :: r) 0 (.int x)) st w kc ks by rw [st1_0]; exact k)
theorem e_isw0 {a0 : Option Value} {x : Int32} (hd : decode cc pc = .ok (.istore 0, 2)) (hn : 0 < nL) (k : mc_E own cc nL J (pc + 2) (some (.int x) :: r) st w kc ks) : mc_E own cc nL J pc (a0 :: r) (.int x :: st) w kc ks := e_istore hd hn (show mc_E own cc nL J (pc + 2) (mc_st1 (a0 :: r) 0 (.int x)) st w kc ks by rw [st1_0]; exact k)
theorem e_asn0 {a0 : Option Value} {x : Nat} (hd : decode cc pc = .ok (.astore_n 0, 1)) (hn : 0 < nL) (k : mc_E own cc nL J (pc + 1) (some (.ref x) :: r) st w kc ks) : mc_E own cc nL J pc (a0 :: r) (.ref x :: st) w kc ks := e_astoren hd hn (show mc_E own cc nL J (pc + 1) (mc_st1 (a0 :: r) 0 (.ref x)) st w kc ks by rw [st1_0]; exact k)
theorem e_asw0 {a0 : Option Value} {x : Nat} (hd : decode cc pc = .ok (.astore 0, 2)) (hn : 0 < nL) (k : mc_E own cc nL J (pc + 2) (some (.ref x) :: r) st w kc ks) : mc_E own cc nL J pc (a0 :: r) (.ref x :: st) w kc ks := e_astore hd hn (show mc_E own cc nL J (pc + 2) (mc_st1 (a0 :: r) 0 (.ref x)) st w kc ks by rw [st1_0]; exact k)
theorem e_inc0 {x : Int32} {n : Int} (hd : decode cc pc = .ok (.iinc 0 n, 3)) (hn : 0 < nL) (k : mc_E own cc nL J (pc + 3) (some (.int (x + Int32.ofInt n)) :: r) st w kc ks) : mc_E own cc nL J pc (some (.int x) :: r) st w kc ks := e_iinc hd rfl hn (show mc_E own cc nL J (pc + 3) (mc_st1 (some (.int x) :: r) 0 (.int (x + Int32.ofInt n))) st w kc ks by rw [st1_0]; exact k)
theorem e_incC0 {x v : Int32} {n : Int} (hd : decode cc pc = .ok (.iinc 0 n, 3)) (hx : x + Int32.ofInt n = v) (hn : 0 < nL) (k : mc_E own cc nL J (pc + 3) (some (.int v) :: r) st w kc ks) : mc_E own cc nL J pc (some (.int x) :: r) st w kc ks := by
  subst hx
  exact e_inc0 hd hn  k
theorem e_lsn0 {a0 a1 : Option Value} {x : Int64} (hd : decode cc pc = .ok (.lstore_n 0, 1)) (hn : 0 + 1 < nL) (k : mc_E own cc nL J (pc + 1) (some (.long x) :: none :: r) st w kc ks) : mc_E own cc nL J pc (a0 :: a1 :: r) (.long x :: st) w kc ks := e_lstoren hd hn (show mc_E own cc nL J (pc + 1) (mc_st2 (a0 :: a1 :: r) 0 (.long x)) st w kc ks by rw [st2_0]; exact k)
theorem e_lsw0 {a0 a1 : Option Value} {x : Int64} (hd : decode cc pc = .ok (.lstore 0, 2)) (hn : 0 + 1 < nL) (k : mc_E own cc nL J (pc + 2) (some (.long x) :: none :: r) st w kc ks) : mc_E own cc nL J pc (a0 :: a1 :: r) (.long x :: st) w kc ks := e_lstore hd hn (show mc_E own cc nL J (pc + 2) (mc_st2 (a0 :: a1 :: r) 0 (.long x)) st w kc ks by rw [st2_0]; exact k)
theorem e_isn1 {a0 a1 : Option Value} {x : Int32} (hd : decode cc pc = .ok (.istore_n 1, 1)) (hn : 1 < nL) (h : mc_is2 (some a0) = false) (k : mc_E own cc nL J (pc + 1) (a0 :: some (.int x) :: r) st w kc ks) : mc_E own cc nL J pc (a0 :: a1 :: r) (.int x :: st) w kc ks := e_istoren hd hn (show mc_E own cc nL J (pc + 1) (mc_st1 (a0 :: a1 :: r) 1 (.int x)) st w kc ks by rw [st1_1 h]; exact k)
theorem e_isw1 {a0 a1 : Option Value} {x : Int32} (hd : decode cc pc = .ok (.istore 1, 2)) (hn : 1 < nL) (h : mc_is2 (some a0) = false) (k : mc_E own cc nL J (pc + 2) (a0 :: some (.int x) :: r) st w kc ks) : mc_E own cc nL J pc (a0 :: a1 :: r) (.int x :: st) w kc ks := e_istore hd hn (show mc_E own cc nL J (pc + 2) (mc_st1 (a0 :: a1 :: r) 1 (.int x)) st w kc ks by rw [st1_1 h]; exact k)
theorem e_asn1 {a0 a1 : Option Value} {x : Nat} (hd : decode cc pc = .ok (.astore_n 1, 1)) (hn : 1 < nL) (h : mc_is2 (some a0) = false) (k : mc_E own cc nL J (pc + 1) (a0 :: some (.ref x) :: r) st w kc ks) : mc_E own cc nL J pc (a0 :: a1 :: r) (.ref x :: st) w kc ks := e_astoren hd hn (show mc_E own cc nL J (pc + 1) (mc_st1 (a0 :: a1 :: r) 1 (.ref x)) st w kc ks by rw [st1_1 h]; exact k)
theorem e_asw1 {a0 a1 : Option Value} {x : Nat} (hd : decode cc pc = .ok (.astore 1, 2)) (hn : 1 < nL) (h : mc_is2 (some a0) = false) (k : mc_E own cc nL J (pc + 2) (a0 :: some (.ref x) :: r) st w kc ks) : mc_E own cc nL J pc (a0 :: a1 :: r) (.ref x :: st) w kc ks := e_astore hd hn (show mc_E own cc nL J (pc + 2) (mc_st1 (a0 :: a1 :: r) 1 (.ref x)) st w kc ks by rw [st1_1 h]; exact k)
theorem e_inc1 {a0 : Option Value} {x : Int32} {n : Int} (hd : decode cc pc = .ok (.iinc 1 n, 3)) (hn : 1 < nL) (h : mc_is2 (some a0) = false) (k : mc_E own cc nL J (pc + 3) (a0 :: some (.int (x + Int32.ofInt n)) :: r) st w kc ks) : mc_E own cc nL J pc (a0 :: some (.int x) :: r) st w kc ks := e_iinc hd rfl hn (show mc_E own cc nL J (pc + 3) (mc_st1 (a0 :: some (.int x) :: r) 1 (.int (x + Int32.ofInt n))) st w kc ks by rw [st1_1 h]; exact k)
theorem e_incC1 {a0 : Option Value} {x v : Int32} {n : Int} (hd : decode cc pc = .ok (.iinc 1 n, 3)) (hx : x + Int32.ofInt n = v) (hn : 1 < nL) (h : mc_is2 (some a0) = false) (k : mc_E own cc nL J (pc + 3) (a0 :: some (.int v) :: r) st w kc ks) : mc_E own cc nL J pc (a0 :: some (.int x) :: r) st w kc ks := by
  subst hx
  exact e_inc1 hd hn h k
theorem e_lsn1 {a0 a1 a2 : Option Value} {x : Int64} (hd : decode cc pc = .ok (.lstore_n 1, 1)) (hn : 1 + 1 < nL) (h : mc_is2 (some a0) = false) (k : mc_E own cc nL J (pc + 1) (a0 :: some (.long x) :: none :: r) st w kc ks) : mc_E own cc nL J pc (a0 :: a1 :: a2 :: r) (.long x :: st) w kc ks := e_lstoren hd hn (show mc_E own cc nL J (pc + 1) (mc_st2 (a0 :: a1 :: a2 :: r) 1 (.long x)) st w kc ks by rw [st2_1 h]; exact k)
theorem e_lsw1 {a0 a1 a2 : Option Value} {x : Int64} (hd : decode cc pc = .ok (.lstore 1, 2)) (hn : 1 + 1 < nL) (h : mc_is2 (some a0) = false) (k : mc_E own cc nL J (pc + 2) (a0 :: some (.long x) :: none :: r) st w kc ks) : mc_E own cc nL J pc (a0 :: a1 :: a2 :: r) (.long x :: st) w kc ks := e_lstore hd hn (show mc_E own cc nL J (pc + 2) (mc_st2 (a0 :: a1 :: a2 :: r) 1 (.long x)) st w kc ks by rw [st2_1 h]; exact k)
theorem e_isn2 {a0 a1 a2 : Option Value} {x : Int32} (hd : decode cc pc = .ok (.istore_n 2, 1)) (hn : 2 < nL) (h : mc_is2 (some a1) = false) (k : mc_E own cc nL J (pc + 1) (a0 :: a1 :: some (.int x) :: r) st w kc ks) : mc_E own cc nL J pc (a0 :: a1 :: a2 :: r) (.int x :: st) w kc ks := e_istoren hd hn (show mc_E own cc nL J (pc + 1) (mc_st1 (a0 :: a1 :: a2 :: r) 2 (.int x)) st w kc ks by rw [st1_2 h]; exact k)
theorem e_isw2 {a0 a1 a2 : Option Value} {x : Int32} (hd : decode cc pc = .ok (.istore 2, 2)) (hn : 2 < nL) (h : mc_is2 (some a1) = false) (k : mc_E own cc nL J (pc + 2) (a0 :: a1 :: some (.int x) :: r) st w kc ks) : mc_E own cc nL J pc (a0 :: a1 :: a2 :: r) (.int x :: st) w kc ks := e_istore hd hn (show mc_E own cc nL J (pc + 2) (mc_st1 (a0 :: a1 :: a2 :: r) 2 (.int x)) st w kc ks by rw [st1_2 h]; exact k)
theorem e_asn2 {a0 a1 a2 : Option Value} {x : Nat} (hd : decode cc pc = .ok (.astore_n 2, 1)) (hn : 2 < nL) (h : mc_is2 (some a1) = false) (k : mc_E own cc nL J (pc + 1) (a0 :: a1 :: some (.ref x) :: r) st w kc ks) : mc_E own cc nL J pc (a0 :: a1 :: a2 :: r) (.ref x :: st) w kc ks := e_astoren hd hn (show mc_E own cc nL J (pc + 1) (mc_st1 (a0 :: a1 :: a2 :: r) 2 (.ref x)) st w kc ks by rw [st1_2 h]; exact k)
theorem e_asw2 {a0 a1 a2 : Option Value} {x : Nat} (hd : decode cc pc = .ok (.astore 2, 2)) (hn : 2 < nL) (h : mc_is2 (some a1) = false) (k : mc_E own cc nL J (pc + 2) (a0 :: a1 :: some (.ref x) :: r) st w kc ks) : mc_E own cc nL J pc (a0 :: a1 :: a2 :: r) (.ref x :: st) w kc ks := e_astore hd hn (show mc_E own cc nL J (pc + 2) (mc_st1 (a0 :: a1 :: a2 :: r) 2 (.ref x)) st w kc ks by rw [st1_2 h]; exact k)
theorem e_inc2 {a0 a1 : Option Value} {x : Int32} {n : Int} (hd : decode cc pc = .ok (.iinc 2 n, 3)) (hn : 2 < nL) (h : mc_is2 (some a1) = false) (k : mc_E own cc nL J (pc + 3) (a0 :: a1 :: some (.int (x + Int32.ofInt n)) :: r) st w kc ks) : mc_E own cc nL J pc (a0 :: a1 :: some (.int x) :: r) st w kc ks := e_iinc hd rfl hn (show mc_E own cc nL J (pc + 3) (mc_st1 (a0 :: a1 :: some (.int x) :: r) 2 (.int (x + Int32.ofInt n))) st w kc ks by rw [st1_2 h]; exact k)
theorem e_incC2 {a0 a1 : Option Value} {x v : Int32} {n : Int} (hd : decode cc pc = .ok (.iinc 2 n, 3)) (hx : x + Int32.ofInt n = v) (hn : 2 < nL) (h : mc_is2 (some a1) = false) (k : mc_E own cc nL J (pc + 3) (a0 :: a1 :: some (.int v) :: r) st w kc ks) : mc_E own cc nL J pc (a0 :: a1 :: some (.int x) :: r) st w kc ks := by
  subst hx
  exact e_inc2 hd hn h k
theorem e_lsn2 {a0 a1 a2 a3 : Option Value} {x : Int64} (hd : decode cc pc = .ok (.lstore_n 2, 1)) (hn : 2 + 1 < nL) (h : mc_is2 (some a1) = false) (k : mc_E own cc nL J (pc + 1) (a0 :: a1 :: some (.long x) :: none :: r) st w kc ks) : mc_E own cc nL J pc (a0 :: a1 :: a2 :: a3 :: r) (.long x :: st) w kc ks := e_lstoren hd hn (show mc_E own cc nL J (pc + 1) (mc_st2 (a0 :: a1 :: a2 :: a3 :: r) 2 (.long x)) st w kc ks by rw [st2_2 h]; exact k)
theorem e_lsw2 {a0 a1 a2 a3 : Option Value} {x : Int64} (hd : decode cc pc = .ok (.lstore 2, 2)) (hn : 2 + 1 < nL) (h : mc_is2 (some a1) = false) (k : mc_E own cc nL J (pc + 2) (a0 :: a1 :: some (.long x) :: none :: r) st w kc ks) : mc_E own cc nL J pc (a0 :: a1 :: a2 :: a3 :: r) (.long x :: st) w kc ks := e_lstore hd hn (show mc_E own cc nL J (pc + 2) (mc_st2 (a0 :: a1 :: a2 :: a3 :: r) 2 (.long x)) st w kc ks by rw [st2_2 h]; exact k)
theorem e_isn3 {a0 a1 a2 a3 : Option Value} {x : Int32} (hd : decode cc pc = .ok (.istore_n 3, 1)) (hn : 3 < nL) (h : mc_is2 (some a2) = false) (k : mc_E own cc nL J (pc + 1) (a0 :: a1 :: a2 :: some (.int x) :: r) st w kc ks) : mc_E own cc nL J pc (a0 :: a1 :: a2 :: a3 :: r) (.int x :: st) w kc ks := e_istoren hd hn (show mc_E own cc nL J (pc + 1) (mc_st1 (a0 :: a1 :: a2 :: a3 :: r) 3 (.int x)) st w kc ks by rw [st1_3 h]; exact k)
theorem e_isw3 {a0 a1 a2 a3 : Option Value} {x : Int32} (hd : decode cc pc = .ok (.istore 3, 2)) (hn : 3 < nL) (h : mc_is2 (some a2) = false) (k : mc_E own cc nL J (pc + 2) (a0 :: a1 :: a2 :: some (.int x) :: r) st w kc ks) : mc_E own cc nL J pc (a0 :: a1 :: a2 :: a3 :: r) (.int x :: st) w kc ks := e_istore hd hn (show mc_E own cc nL J (pc + 2) (mc_st1 (a0 :: a1 :: a2 :: a3 :: r) 3 (.int x)) st w kc ks by rw [st1_3 h]; exact k)
theorem e_asn3 {a0 a1 a2 a3 : Option Value} {x : Nat} (hd : decode cc pc = .ok (.astore_n 3, 1)) (hn : 3 < nL) (h : mc_is2 (some a2) = false) (k : mc_E own cc nL J (pc + 1) (a0 :: a1 :: a2 :: some (.ref x) :: r) st w kc ks) : mc_E own cc nL J pc (a0 :: a1 :: a2 :: a3 :: r) (.ref x :: st) w kc ks := e_astoren hd hn (show mc_E own cc nL J (pc + 1) (mc_st1 (a0 :: a1 :: a2 :: a3 :: r) 3 (.ref x)) st w kc ks by rw [st1_3 h]; exact k)
theorem e_asw3 {a0 a1 a2 a3 : Option Value} {x : Nat} (hd : decode cc pc = .ok (.astore 3, 2)) (hn : 3 < nL) (h : mc_is2 (some a2) = false) (k : mc_E own cc nL J (pc + 2) (a0 :: a1 :: a2 :: some (.ref x) :: r) st w kc ks) : mc_E own cc nL J pc (a0 :: a1 :: a2 :: a3 :: r) (.ref x :: st) w kc ks := e_astore hd hn (show mc_E own cc nL J (pc + 2) (mc_st1 (a0 :: a1 :: a2 :: a3 :: r) 3 (.ref x)) st w kc ks by rw [st1_3 h]; exact k)
theorem e_inc3 {a0 a1 a2 : Option Value} {x : Int32} {n : Int} (hd : decode cc pc = .ok (.iinc 3 n, 3)) (hn : 3 < nL) (h : mc_is2 (some a2) = false) (k : mc_E own cc nL J (pc + 3) (a0 :: a1 :: a2 :: some (.int (x + Int32.ofInt n)) :: r) st w kc ks) : mc_E own cc nL J pc (a0 :: a1 :: a2 :: some (.int x) :: r) st w kc ks := e_iinc hd rfl hn (show mc_E own cc nL J (pc + 3) (mc_st1 (a0 :: a1 :: a2 :: some (.int x) :: r) 3 (.int (x + Int32.ofInt n))) st w kc ks by rw [st1_3 h]; exact k)
theorem e_incC3 {a0 a1 a2 : Option Value} {x v : Int32} {n : Int} (hd : decode cc pc = .ok (.iinc 3 n, 3)) (hx : x + Int32.ofInt n = v) (hn : 3 < nL) (h : mc_is2 (some a2) = false) (k : mc_E own cc nL J (pc + 3) (a0 :: a1 :: a2 :: some (.int v) :: r) st w kc ks) : mc_E own cc nL J pc (a0 :: a1 :: a2 :: some (.int x) :: r) st w kc ks := by
  subst hx
  exact e_inc3 hd hn h k
theorem e_lsn3 {a0 a1 a2 a3 a4 : Option Value} {x : Int64} (hd : decode cc pc = .ok (.lstore_n 3, 1)) (hn : 3 + 1 < nL) (h : mc_is2 (some a2) = false) (k : mc_E own cc nL J (pc + 1) (a0 :: a1 :: a2 :: some (.long x) :: none :: r) st w kc ks) : mc_E own cc nL J pc (a0 :: a1 :: a2 :: a3 :: a4 :: r) (.long x :: st) w kc ks := e_lstoren hd hn (show mc_E own cc nL J (pc + 1) (mc_st2 (a0 :: a1 :: a2 :: a3 :: a4 :: r) 3 (.long x)) st w kc ks by rw [st2_3 h]; exact k)
theorem e_lsw3 {a0 a1 a2 a3 a4 : Option Value} {x : Int64} (hd : decode cc pc = .ok (.lstore 3, 2)) (hn : 3 + 1 < nL) (h : mc_is2 (some a2) = false) (k : mc_E own cc nL J (pc + 2) (a0 :: a1 :: a2 :: some (.long x) :: none :: r) st w kc ks) : mc_E own cc nL J pc (a0 :: a1 :: a2 :: a3 :: a4 :: r) (.long x :: st) w kc ks := e_lstore hd hn (show mc_E own cc nL J (pc + 2) (mc_st2 (a0 :: a1 :: a2 :: a3 :: a4 :: r) 3 (.long x)) st w kc ks by rw [st2_3 h]; exact k)
theorem e_isw4 {a0 a1 a2 a3 a4 : Option Value} {x : Int32} (hd : decode cc pc = .ok (.istore 4, 2)) (hn : 4 < nL) (h : mc_is2 (some a3) = false) (k : mc_E own cc nL J (pc + 2) (a0 :: a1 :: a2 :: a3 :: some (.int x) :: r) st w kc ks) : mc_E own cc nL J pc (a0 :: a1 :: a2 :: a3 :: a4 :: r) (.int x :: st) w kc ks := e_istore hd hn (show mc_E own cc nL J (pc + 2) (mc_st1 (a0 :: a1 :: a2 :: a3 :: a4 :: r) 4 (.int x)) st w kc ks by rw [st1_4 h]; exact k)
theorem e_asw4 {a0 a1 a2 a3 a4 : Option Value} {x : Nat} (hd : decode cc pc = .ok (.astore 4, 2)) (hn : 4 < nL) (h : mc_is2 (some a3) = false) (k : mc_E own cc nL J (pc + 2) (a0 :: a1 :: a2 :: a3 :: some (.ref x) :: r) st w kc ks) : mc_E own cc nL J pc (a0 :: a1 :: a2 :: a3 :: a4 :: r) (.ref x :: st) w kc ks := e_astore hd hn (show mc_E own cc nL J (pc + 2) (mc_st1 (a0 :: a1 :: a2 :: a3 :: a4 :: r) 4 (.ref x)) st w kc ks by rw [st1_4 h]; exact k)
theorem e_inc4 {a0 a1 a2 a3 : Option Value} {x : Int32} {n : Int} (hd : decode cc pc = .ok (.iinc 4 n, 3)) (hn : 4 < nL) (h : mc_is2 (some a3) = false) (k : mc_E own cc nL J (pc + 3) (a0 :: a1 :: a2 :: a3 :: some (.int (x + Int32.ofInt n)) :: r) st w kc ks) : mc_E own cc nL J pc (a0 :: a1 :: a2 :: a3 :: some (.int x) :: r) st w kc ks := e_iinc hd rfl hn (show mc_E own cc nL J (pc + 3) (mc_st1 (a0 :: a1 :: a2 :: a3 :: some (.int x) :: r) 4 (.int (x + Int32.ofInt n))) st w kc ks by rw [st1_4 h]; exact k)
theorem e_incC4 {a0 a1 a2 a3 : Option Value} {x v : Int32} {n : Int} (hd : decode cc pc = .ok (.iinc 4 n, 3)) (hx : x + Int32.ofInt n = v) (hn : 4 < nL) (h : mc_is2 (some a3) = false) (k : mc_E own cc nL J (pc + 3) (a0 :: a1 :: a2 :: a3 :: some (.int v) :: r) st w kc ks) : mc_E own cc nL J pc (a0 :: a1 :: a2 :: a3 :: some (.int x) :: r) st w kc ks := by
  subst hx
  exact e_inc4 hd hn h k
theorem e_lsw4 {a0 a1 a2 a3 a4 a5 : Option Value} {x : Int64} (hd : decode cc pc = .ok (.lstore 4, 2)) (hn : 4 + 1 < nL) (h : mc_is2 (some a3) = false) (k : mc_E own cc nL J (pc + 2) (a0 :: a1 :: a2 :: a3 :: some (.long x) :: none :: r) st w kc ks) : mc_E own cc nL J pc (a0 :: a1 :: a2 :: a3 :: a4 :: a5 :: r) (.long x :: st) w kc ks := e_lstore hd hn (show mc_E own cc nL J (pc + 2) (mc_st2 (a0 :: a1 :: a2 :: a3 :: a4 :: a5 :: r) 4 (.long x)) st w kc ks by rw [st2_4 h]; exact k)
theorem e_isw5 {a0 a1 a2 a3 a4 a5 : Option Value} {x : Int32} (hd : decode cc pc = .ok (.istore 5, 2)) (hn : 5 < nL) (h : mc_is2 (some a4) = false) (k : mc_E own cc nL J (pc + 2) (a0 :: a1 :: a2 :: a3 :: a4 :: some (.int x) :: r) st w kc ks) : mc_E own cc nL J pc (a0 :: a1 :: a2 :: a3 :: a4 :: a5 :: r) (.int x :: st) w kc ks := e_istore hd hn (show mc_E own cc nL J (pc + 2) (mc_st1 (a0 :: a1 :: a2 :: a3 :: a4 :: a5 :: r) 5 (.int x)) st w kc ks by rw [st1_5 h]; exact k)
theorem e_asw5 {a0 a1 a2 a3 a4 a5 : Option Value} {x : Nat} (hd : decode cc pc = .ok (.astore 5, 2)) (hn : 5 < nL) (h : mc_is2 (some a4) = false) (k : mc_E own cc nL J (pc + 2) (a0 :: a1 :: a2 :: a3 :: a4 :: some (.ref x) :: r) st w kc ks) : mc_E own cc nL J pc (a0 :: a1 :: a2 :: a3 :: a4 :: a5 :: r) (.ref x :: st) w kc ks := e_astore hd hn (show mc_E own cc nL J (pc + 2) (mc_st1 (a0 :: a1 :: a2 :: a3 :: a4 :: a5 :: r) 5 (.ref x)) st w kc ks by rw [st1_5 h]; exact k)
theorem e_inc5 {a0 a1 a2 a3 a4 : Option Value} {x : Int32} {n : Int} (hd : decode cc pc = .ok (.iinc 5 n, 3)) (hn : 5 < nL) (h : mc_is2 (some a4) = false) (k : mc_E own cc nL J (pc + 3) (a0 :: a1 :: a2 :: a3 :: a4 :: some (.int (x + Int32.ofInt n)) :: r) st w kc ks) : mc_E own cc nL J pc (a0 :: a1 :: a2 :: a3 :: a4 :: some (.int x) :: r) st w kc ks := e_iinc hd rfl hn (show mc_E own cc nL J (pc + 3) (mc_st1 (a0 :: a1 :: a2 :: a3 :: a4 :: some (.int x) :: r) 5 (.int (x + Int32.ofInt n))) st w kc ks by rw [st1_5 h]; exact k)
theorem e_incC5 {a0 a1 a2 a3 a4 : Option Value} {x v : Int32} {n : Int} (hd : decode cc pc = .ok (.iinc 5 n, 3)) (hx : x + Int32.ofInt n = v) (hn : 5 < nL) (h : mc_is2 (some a4) = false) (k : mc_E own cc nL J (pc + 3) (a0 :: a1 :: a2 :: a3 :: a4 :: some (.int v) :: r) st w kc ks) : mc_E own cc nL J pc (a0 :: a1 :: a2 :: a3 :: a4 :: some (.int x) :: r) st w kc ks := by
  subst hx
  exact e_inc5 hd hn h k
theorem e_lsw5 {a0 a1 a2 a3 a4 a5 a6 : Option Value} {x : Int64} (hd : decode cc pc = .ok (.lstore 5, 2)) (hn : 5 + 1 < nL) (h : mc_is2 (some a4) = false) (k : mc_E own cc nL J (pc + 2) (a0 :: a1 :: a2 :: a3 :: a4 :: some (.long x) :: none :: r) st w kc ks) : mc_E own cc nL J pc (a0 :: a1 :: a2 :: a3 :: a4 :: a5 :: a6 :: r) (.long x :: st) w kc ks := e_lstore hd hn (show mc_E own cc nL J (pc + 2) (mc_st2 (a0 :: a1 :: a2 :: a3 :: a4 :: a5 :: a6 :: r) 5 (.long x)) st w kc ks by rw [st2_5 h]; exact k)
theorem e_isw6 {a0 a1 a2 a3 a4 a5 a6 : Option Value} {x : Int32} (hd : decode cc pc = .ok (.istore 6, 2)) (hn : 6 < nL) (h : mc_is2 (some a5) = false) (k : mc_E own cc nL J (pc + 2) (a0 :: a1 :: a2 :: a3 :: a4 :: a5 :: some (.int x) :: r) st w kc ks) : mc_E own cc nL J pc (a0 :: a1 :: a2 :: a3 :: a4 :: a5 :: a6 :: r) (.int x :: st) w kc ks := e_istore hd hn (show mc_E own cc nL J (pc + 2) (mc_st1 (a0 :: a1 :: a2 :: a3 :: a4 :: a5 :: a6 :: r) 6 (.int x)) st w kc ks by rw [st1_6 h]; exact k)
theorem e_asw6 {a0 a1 a2 a3 a4 a5 a6 : Option Value} {x : Nat} (hd : decode cc pc = .ok (.astore 6, 2)) (hn : 6 < nL) (h : mc_is2 (some a5) = false) (k : mc_E own cc nL J (pc + 2) (a0 :: a1 :: a2 :: a3 :: a4 :: a5 :: some (.ref x) :: r) st w kc ks) : mc_E own cc nL J pc (a0 :: a1 :: a2 :: a3 :: a4 :: a5 :: a6 :: r) (.ref x :: st) w kc ks := e_astore hd hn (show mc_E own cc nL J (pc + 2) (mc_st1 (a0 :: a1 :: a2 :: a3 :: a4 :: a5 :: a6 :: r) 6 (.ref x)) st w kc ks by rw [st1_6 h]; exact k)
theorem e_inc6 {a0 a1 a2 a3 a4 a5 : Option Value} {x : Int32} {n : Int} (hd : decode cc pc = .ok (.iinc 6 n, 3)) (hn : 6 < nL) (h : mc_is2 (some a5) = false) (k : mc_E own cc nL J (pc + 3) (a0 :: a1 :: a2 :: a3 :: a4 :: a5 :: some (.int (x + Int32.ofInt n)) :: r) st w kc ks) : mc_E own cc nL J pc (a0 :: a1 :: a2 :: a3 :: a4 :: a5 :: some (.int x) :: r) st w kc ks := e_iinc hd rfl hn (show mc_E own cc nL J (pc + 3) (mc_st1 (a0 :: a1 :: a2 :: a3 :: a4 :: a5 :: some (.int x) :: r) 6 (.int (x + Int32.ofInt n))) st w kc ks by rw [st1_6 h]; exact k)
theorem e_incC6 {a0 a1 a2 a3 a4 a5 : Option Value} {x v : Int32} {n : Int} (hd : decode cc pc = .ok (.iinc 6 n, 3)) (hx : x + Int32.ofInt n = v) (hn : 6 < nL) (h : mc_is2 (some a5) = false) (k : mc_E own cc nL J (pc + 3) (a0 :: a1 :: a2 :: a3 :: a4 :: a5 :: some (.int v) :: r) st w kc ks) : mc_E own cc nL J pc (a0 :: a1 :: a2 :: a3 :: a4 :: a5 :: some (.int x) :: r) st w kc ks := by
  subst hx
  exact e_inc6 hd hn h k
theorem e_lsw6 {a0 a1 a2 a3 a4 a5 a6 a7 : Option Value} {x : Int64} (hd : decode cc pc = .ok (.lstore 6, 2)) (hn : 6 + 1 < nL) (h : mc_is2 (some a5) = false) (k : mc_E own cc nL J (pc + 2) (a0 :: a1 :: a2 :: a3 :: a4 :: a5 :: some (.long x) :: none :: r) st w kc ks) : mc_E own cc nL J pc (a0 :: a1 :: a2 :: a3 :: a4 :: a5 :: a6 :: a7 :: r) (.long x :: st) w kc ks := e_lstore hd hn (show mc_E own cc nL J (pc + 2) (mc_st2 (a0 :: a1 :: a2 :: a3 :: a4 :: a5 :: a6 :: a7 :: r) 6 (.long x)) st w kc ks by rw [st2_6 h]; exact k)
theorem e_isw7 {a0 a1 a2 a3 a4 a5 a6 a7 : Option Value} {x : Int32} (hd : decode cc pc = .ok (.istore 7, 2)) (hn : 7 < nL) (h : mc_is2 (some a6) = false) (k : mc_E own cc nL J (pc + 2) (a0 :: a1 :: a2 :: a3 :: a4 :: a5 :: a6 :: some (.int x) :: r) st w kc ks) : mc_E own cc nL J pc (a0 :: a1 :: a2 :: a3 :: a4 :: a5 :: a6 :: a7 :: r) (.int x :: st) w kc ks := e_istore hd hn (show mc_E own cc nL J (pc + 2) (mc_st1 (a0 :: a1 :: a2 :: a3 :: a4 :: a5 :: a6 :: a7 :: r) 7 (.int x)) st w kc ks by rw [st1_7 h]; exact k)
theorem e_asw7 {a0 a1 a2 a3 a4 a5 a6 a7 : Option Value} {x : Nat} (hd : decode cc pc = .ok (.astore 7, 2)) (hn : 7 < nL) (h : mc_is2 (some a6) = false) (k : mc_E own cc nL J (pc + 2) (a0 :: a1 :: a2 :: a3 :: a4 :: a5 :: a6 :: some (.ref x) :: r) st w kc ks) : mc_E own cc nL J pc (a0 :: a1 :: a2 :: a3 :: a4 :: a5 :: a6 :: a7 :: r) (.ref x :: st) w kc ks := e_astore hd hn (show mc_E own cc nL J (pc + 2) (mc_st1 (a0 :: a1 :: a2 :: a3 :: a4 :: a5 :: a6 :: a7 :: r) 7 (.ref x)) st w kc ks by rw [st1_7 h]; exact k)
theorem e_inc7 {a0 a1 a2 a3 a4 a5 a6 : Option Value} {x : Int32} {n : Int} (hd : decode cc pc = .ok (.iinc 7 n, 3)) (hn : 7 < nL) (h : mc_is2 (some a6) = false) (k : mc_E own cc nL J (pc + 3) (a0 :: a1 :: a2 :: a3 :: a4 :: a5 :: a6 :: some (.int (x + Int32.ofInt n)) :: r) st w kc ks) : mc_E own cc nL J pc (a0 :: a1 :: a2 :: a3 :: a4 :: a5 :: a6 :: some (.int x) :: r) st w kc ks := e_iinc hd rfl hn (show mc_E own cc nL J (pc + 3) (mc_st1 (a0 :: a1 :: a2 :: a3 :: a4 :: a5 :: a6 :: some (.int x) :: r) 7 (.int (x + Int32.ofInt n))) st w kc ks by rw [st1_7 h]; exact k)
theorem e_incC7 {a0 a1 a2 a3 a4 a5 a6 : Option Value} {x v : Int32} {n : Int} (hd : decode cc pc = .ok (.iinc 7 n, 3)) (hx : x + Int32.ofInt n = v) (hn : 7 < nL) (h : mc_is2 (some a6) = false) (k : mc_E own cc nL J (pc + 3) (a0 :: a1 :: a2 :: a3 :: a4 :: a5 :: a6 :: some (.int v) :: r) st w kc ks) : mc_E own cc nL J pc (a0 :: a1 :: a2 :: a3 :: a4 :: a5 :: a6 :: some (.int x) :: r) st w kc ks := by
  subst hx
  exact e_inc7 hd hn h k
theorem e_lsw7 {a0 a1 a2 a3 a4 a5 a6 a7 a8 : Option Value} {x : Int64} (hd : decode cc pc = .ok (.lstore 7, 2)) (hn : 7 + 1 < nL) (h : mc_is2 (some a6) = false) (k : mc_E own cc nL J (pc + 2) (a0 :: a1 :: a2 :: a3 :: a4 :: a5 :: a6 :: some (.long x) :: none :: r) st w kc ks) : mc_E own cc nL J pc (a0 :: a1 :: a2 :: a3 :: a4 :: a5 :: a6 :: a7 :: a8 :: r) (.long x :: st) w kc ks := e_lstore hd hn (show mc_E own cc nL J (pc + 2) (mc_st2 (a0 :: a1 :: a2 :: a3 :: a4 :: a5 :: a6 :: a7 :: a8 :: r) 7 (.long x)) st w kc ks by rw [st2_7 h]; exact k)
theorem e_isw8 {a0 a1 a2 a3 a4 a5 a6 a7 a8 : Option Value} {x : Int32} (hd : decode cc pc = .ok (.istore 8, 2)) (hn : 8 < nL) (h : mc_is2 (some a7) = false) (k : mc_E own cc nL J (pc + 2) (a0 :: a1 :: a2 :: a3 :: a4 :: a5 :: a6 :: a7 :: some (.int x) :: r) st w kc ks) : mc_E own cc nL J pc (a0 :: a1 :: a2 :: a3 :: a4 :: a5 :: a6 :: a7 :: a8 :: r) (.int x :: st) w kc ks := e_istore hd hn (show mc_E own cc nL J (pc + 2) (mc_st1 (a0 :: a1 :: a2 :: a3 :: a4 :: a5 :: a6 :: a7 :: a8 :: r) 8 (.int x)) st w kc ks by rw [st1_8 h]; exact k)
theorem e_asw8 {a0 a1 a2 a3 a4 a5 a6 a7 a8 : Option Value} {x : Nat} (hd : decode cc pc = .ok (.astore 8, 2)) (hn : 8 < nL) (h : mc_is2 (some a7) = false) (k : mc_E own cc nL J (pc + 2) (a0 :: a1 :: a2 :: a3 :: a4 :: a5 :: a6 :: a7 :: some (.ref x) :: r) st w kc ks) : mc_E own cc nL J pc (a0 :: a1 :: a2 :: a3 :: a4 :: a5 :: a6 :: a7 :: a8 :: r) (.ref x :: st) w kc ks := e_astore hd hn (show mc_E own cc nL J (pc + 2) (mc_st1 (a0 :: a1 :: a2 :: a3 :: a4 :: a5 :: a6 :: a7 :: a8 :: r) 8 (.ref x)) st w kc ks by rw [st1_8 h]; exact k)
theorem e_inc8 {a0 a1 a2 a3 a4 a5 a6 a7 : Option Value} {x : Int32} {n : Int} (hd : decode cc pc = .ok (.iinc 8 n, 3)) (hn : 8 < nL) (h : mc_is2 (some a7) = false) (k : mc_E own cc nL J (pc + 3) (a0 :: a1 :: a2 :: a3 :: a4 :: a5 :: a6 :: a7 :: some (.int (x + Int32.ofInt n)) :: r) st w kc ks) : mc_E own cc nL J pc (a0 :: a1 :: a2 :: a3 :: a4 :: a5 :: a6 :: a7 :: some (.int x) :: r) st w kc ks := e_iinc hd rfl hn (show mc_E own cc nL J (pc + 3) (mc_st1 (a0 :: a1 :: a2 :: a3 :: a4 :: a5 :: a6 :: a7 :: some (.int x) :: r) 8 (.int (x + Int32.ofInt n))) st w kc ks by rw [st1_8 h]; exact k)
theorem e_incC8 {a0 a1 a2 a3 a4 a5 a6 a7 : Option Value} {x v : Int32} {n : Int} (hd : decode cc pc = .ok (.iinc 8 n, 3)) (hx : x + Int32.ofInt n = v) (hn : 8 < nL) (h : mc_is2 (some a7) = false) (k : mc_E own cc nL J (pc + 3) (a0 :: a1 :: a2 :: a3 :: a4 :: a5 :: a6 :: a7 :: some (.int v) :: r) st w kc ks) : mc_E own cc nL J pc (a0 :: a1 :: a2 :: a3 :: a4 :: a5 :: a6 :: a7 :: some (.int x) :: r) st w kc ks := by
  subst hx
  exact e_inc8 hd hn h k
theorem e_lsw8 {a0 a1 a2 a3 a4 a5 a6 a7 a8 a9 : Option Value} {x : Int64} (hd : decode cc pc = .ok (.lstore 8, 2)) (hn : 8 + 1 < nL) (h : mc_is2 (some a7) = false) (k : mc_E own cc nL J (pc + 2) (a0 :: a1 :: a2 :: a3 :: a4 :: a5 :: a6 :: a7 :: some (.long x) :: none :: r) st w kc ks) : mc_E own cc nL J pc (a0 :: a1 :: a2 :: a3 :: a4 :: a5 :: a6 :: a7 :: a8 :: a9 :: r) (.long x :: st) w kc ks := e_lstore hd hn (show mc_E own cc nL J (pc + 2) (mc_st2 (a0 :: a1 :: a2 :: a3 :: a4 :: a5 :: a6 :: a7 :: a8 :: a9 :: r) 8 (.long x)) st w kc ks by rw [st2_8 h]; exact k)
theorem e_isw9 {a0 a1 a2 a3 a4 a5 a6 a7 a8 a9 : Option Value} {x : Int32} (hd : decode cc pc = .ok (.istore 9, 2)) (hn : 9 < nL) (h : mc_is2 (some a8) = false) (k : mc_E own cc nL J (pc + 2) (a0 :: a1 :: a2 :: a3 :: a4 :: a5 :: a6 :: a7 :: a8 :: some (.int x) :: r) st w kc ks) : mc_E own cc nL J pc (a0 :: a1 :: a2 :: a3 :: a4 :: a5 :: a6 :: a7 :: a8 :: a9 :: r) (.int x :: st) w kc ks := e_istore hd hn (show mc_E own cc nL J (pc + 2) (mc_st1 (a0 :: a1 :: a2 :: a3 :: a4 :: a5 :: a6 :: a7 :: a8 :: a9 :: r) 9 (.int x)) st w kc ks by rw [st1_9 h]; exact k)
theorem e_asw9 {a0 a1 a2 a3 a4 a5 a6 a7 a8 a9 : Option Value} {x : Nat} (hd : decode cc pc = .ok (.astore 9, 2)) (hn : 9 < nL) (h : mc_is2 (some a8) = false) (k : mc_E own cc nL J (pc + 2) (a0 :: a1 :: a2 :: a3 :: a4 :: a5 :: a6 :: a7 :: a8 :: some (.ref x) :: r) st w kc ks) : mc_E own cc nL J pc (a0 :: a1 :: a2 :: a3 :: a4 :: a5 :: a6 :: a7 :: a8 :: a9 :: r) (.ref x :: st) w kc ks := e_astore hd hn (show mc_E own cc nL J (pc + 2) (mc_st1 (a0 :: a1 :: a2 :: a3 :: a4 :: a5 :: a6 :: a7 :: a8 :: a9 :: r) 9 (.ref x)) st w kc ks by rw [st1_9 h]; exact k)
theorem e_inc9 {a0 a1 a2 a3 a4 a5 a6 a7 a8 : Option Value} {x : Int32} {n : Int} (hd : decode cc pc = .ok (.iinc 9 n, 3)) (hn : 9 < nL) (h : mc_is2 (some a8) = false) (k : mc_E own cc nL J (pc + 3) (a0 :: a1 :: a2 :: a3 :: a4 :: a5 :: a6 :: a7 :: a8 :: some (.int (x + Int32.ofInt n)) :: r) st w kc ks) : mc_E own cc nL J pc (a0 :: a1 :: a2 :: a3 :: a4 :: a5 :: a6 :: a7 :: a8 :: some (.int x) :: r) st w kc ks := e_iinc hd rfl hn (show mc_E own cc nL J (pc + 3) (mc_st1 (a0 :: a1 :: a2 :: a3 :: a4 :: a5 :: a6 :: a7 :: a8 :: some (.int x) :: r) 9 (.int (x + Int32.ofInt n))) st w kc ks by rw [st1_9 h]; exact k)
theorem e_incC9 {a0 a1 a2 a3 a4 a5 a6 a7 a8 : Option Value} {x v : Int32} {n : Int} (hd : decode cc pc = .ok (.iinc 9 n, 3)) (hx : x + Int32.ofInt n = v) (hn : 9 < nL) (h : mc_is2 (some a8) = false) (k : mc_E own cc nL J (pc + 3) (a0 :: a1 :: a2 :: a3 :: a4 :: a5 :: a6 :: a7 :: a8 :: some (.int v) :: r) st w kc ks) : mc_E own cc nL J pc (a0 :: a1 :: a2 :: a3 :: a4 :: a5 :: a6 :: a7 :: a8 :: some (.int x) :: r) st w kc ks := by
  subst hx
  exact e_inc9 hd hn h k
theorem e_lsw9 {a0 a1 a2 a3 a4 a5 a6 a7 a8 a9 a10 : Option Value} {x : Int64} (hd : decode cc pc = .ok (.lstore 9, 2)) (hn : 9 + 1 < nL) (h : mc_is2 (some a8) = false) (k : mc_E own cc nL J (pc + 2) (a0 :: a1 :: a2 :: a3 :: a4 :: a5 :: a6 :: a7 :: a8 :: some (.long x) :: none :: r) st w kc ks) : mc_E own cc nL J pc (a0 :: a1 :: a2 :: a3 :: a4 :: a5 :: a6 :: a7 :: a8 :: a9 :: a10 :: r) (.long x :: st) w kc ks := e_lstore hd hn (show mc_E own cc nL J (pc + 2) (mc_st2 (a0 :: a1 :: a2 :: a3 :: a4 :: a5 :: a6 :: a7 :: a8 :: a9 :: a10 :: r) 9 (.long x)) st w kc ks by rw [st2_9 h]; exact k)
theorem e_isw10 {a0 a1 a2 a3 a4 a5 a6 a7 a8 a9 a10 : Option Value} {x : Int32} (hd : decode cc pc = .ok (.istore 10, 2)) (hn : 10 < nL) (h : mc_is2 (some a9) = false) (k : mc_E own cc nL J (pc + 2) (a0 :: a1 :: a2 :: a3 :: a4 :: a5 :: a6 :: a7 :: a8 :: a9 :: some (.int x) :: r) st w kc ks) : mc_E own cc nL J pc (a0 :: a1 :: a2 :: a3 :: a4 :: a5 :: a6 :: a7 :: a8 :: a9 :: a10 :: r) (.int x :: st) w kc ks := e_istore hd hn (show mc_E own cc nL J (pc + 2) (mc_st1 (a0 :: a1 :: a2 :: a3 :: a4 :: a5 :: a6 :: a7 :: a8 :: a9 :: a10 :: r) 10 (.int x)) st w kc ks by rw [st1_10 h]; exact k)
theorem e_asw10 {a0 a1 a2 a3 a4 a5 a6 a7 a8 a9 a10 : Option Value} {x : Nat} (hd : decode cc pc = .ok (.astore 10, 2)) (hn : 10 < nL) (h : mc_is2 (some a9) = false) (k : mc_E own cc nL J (pc + 2) (a0 :: a1 :: a2 :: a3 :: a4 :: a5 :: a6 :: a7 :: a8 :: a9 :: some (.ref x) :: r) st w kc ks) : mc_E own cc nL J pc (a0 :: a1 :: a2 :: a3 :: a4 :: a5 :: a6 :: a7 :: a8 :: a9 :: a10 :: r) (.ref x :: st) w kc ks := e_astore hd hn (show mc_E own cc nL J (pc + 2) (mc_st1 (a0 :: a1 :: a2 :: a3 :: a4 :: a5 :: a6 :: a7 :: a8 :: a9 :: a10 :: r) 10 (.ref x)) st w kc ks by rw [st1_10 h]; exact k)
theorem e_inc10 {a0 a1 a2 a3 a4 a5 a6 a7 a8 a9 : Option Value} {x : Int32} {n : Int} (hd : decode cc pc = .ok (.iinc 10 n, 3)) (hn : 10 < nL) (h : mc_is2 (some a9) = false) (k : mc_E own cc nL J (pc + 3) (a0 :: a1 :: a2 :: a3 :: a4 :: a5 :: a6 :: a7 :: a8 :: a9 :: some (.int (x + Int32.ofInt n)) :: r) st w kc ks) : mc_E own cc nL J pc (a0 :: a1 :: a2 :: a3 :: a4 :: a5 :: a6 :: a7 :: a8 :: a9 :: some (.int x) :: r) st w kc ks := e_iinc hd rfl hn (show mc_E own cc nL J (pc + 3) (mc_st1 (a0 :: a1 :: a2 :: a3 :: a4 :: a5 :: a6 :: a7 :: a8 :: a9 :: some (.int x) :: r) 10 (.int (x + Int32.ofInt n))) st w kc ks by rw [st1_10 h]; exact k)
theorem e_incC10 {a0 a1 a2 a3 a4 a5 a6 a7 a8 a9 : Option Value} {x v : Int32} {n : Int} (hd : decode cc pc = .ok (.iinc 10 n, 3)) (hx : x + Int32.ofInt n = v) (hn : 10 < nL) (h : mc_is2 (some a9) = false) (k : mc_E own cc nL J (pc + 3) (a0 :: a1 :: a2 :: a3 :: a4 :: a5 :: a6 :: a7 :: a8 :: a9 :: some (.int v) :: r) st w kc ks) : mc_E own cc nL J pc (a0 :: a1 :: a2 :: a3 :: a4 :: a5 :: a6 :: a7 :: a8 :: a9 :: some (.int x) :: r) st w kc ks := by
  subst hx
  exact e_inc10 hd hn h k
theorem e_lsw10 {a0 a1 a2 a3 a4 a5 a6 a7 a8 a9 a10 a11 : Option Value} {x : Int64} (hd : decode cc pc = .ok (.lstore 10, 2)) (hn : 10 + 1 < nL) (h : mc_is2 (some a9) = false) (k : mc_E own cc nL J (pc + 2) (a0 :: a1 :: a2 :: a3 :: a4 :: a5 :: a6 :: a7 :: a8 :: a9 :: some (.long x) :: none :: r) st w kc ks) : mc_E own cc nL J pc (a0 :: a1 :: a2 :: a3 :: a4 :: a5 :: a6 :: a7 :: a8 :: a9 :: a10 :: a11 :: r) (.long x :: st) w kc ks := e_lstore hd hn (show mc_E own cc nL J (pc + 2) (mc_st2 (a0 :: a1 :: a2 :: a3 :: a4 :: a5 :: a6 :: a7 :: a8 :: a9 :: a10 :: a11 :: r) 10 (.long x)) st w kc ks by rw [st2_10 h]; exact k)
theorem e_isw11 {a0 a1 a2 a3 a4 a5 a6 a7 a8 a9 a10 a11 : Option Value} {x : Int32} (hd : decode cc pc = .ok (.istore 11, 2)) (hn : 11 < nL) (h : mc_is2 (some a10) = false) (k : mc_E own cc nL J (pc + 2) (a0 :: a1 :: a2 :: a3 :: a4 :: a5 :: a6 :: a7 :: a8 :: a9 :: a10 :: some (.int x) :: r) st w kc ks) : mc_E own cc nL J pc (a0 :: a1 :: a2 :: a3 :: a4 :: a5 :: a6 :: a7 :: a8 :: a9 :: a10 :: a11 :: r) (.int x :: st) w kc ks := e_istore hd hn (show mc_E own cc nL J (pc + 2) (mc_st1 (a0 :: a1 :: a2 :: a3 :: a4 :: a5 :: a6 :: a7 :: a8 :: a9 :: a10 :: a11 :: r) 11 (.int x)) st w kc ks by rw [st1_11 h]; exact k)
theorem e_asw11 {a0 a1 a2 a3 a4 a5 a6 a7 a8 a9 a10 a11 : Option Value} {x : Nat} (hd : decode cc pc = .ok (.astore 11, 2)) (hn : 11 < nL) (h : mc_is2 (some a10) = false) (k : mc_E own cc nL J (pc + 2) (a0 :: a1 :: a2 :: a3 :: a4 :: a5 :: a6 :: a7 :: a8 :: a9 :: a10 :: some (.ref x) :: r) st w kc ks) : mc_E own cc nL J pc (a0 :: a1 :: a2 :: a3 :: a4 :: a5 :: a6 :: a7 :: a8 :: a9 :: a10 :: a11 :: r) (.ref x :: st) w kc ks := e_astore hd hn (show mc_E own cc nL J (pc + 2) (mc_st1 (a0 :: a1 :: a2 :: a3 :: a4 :: a5 :: a6 :: a7 :: a8 :: a9 :: a10 :: a11 :: r) 11 (.ref x)) st w kc ks by rw [st1_11 h]; exact k)
theorem e_inc11 {a0 a1 a2 a3 a4 a5 a6 a7 a8 a9 a10 : Option Value} {x : Int32} {n : Int} (hd : decode cc pc = .ok (.iinc 11 n, 3)) (hn : 11 < nL) (h : mc_is2 (some a10) = false) (k : mc_E own cc nL J (pc + 3) (a0 :: a1 :: a2 :: a3 :: a4 :: a5 :: a6 :: a7 :: a8 :: a9 :: a10 :: some (.int (x + Int32.ofInt n)) :: r) st w kc ks) : mc_E own cc nL J pc (a0 :: a1 :: a2 :: a3 :: a4 :: a5 :: a6 :: a7 :: a8 :: a9 :: a10 :: some (.int x) :: r) st w kc ks := e_iinc hd rfl hn (show mc_E own cc nL J (pc + 3) (mc_st1 (a0 :: a1 :: a2 :: a3 :: a4 :: a5 :: a6 :: a7 :: a8 :: a9 :: a10 :: some (.int x) :: r) 11 (.int (x + Int32.ofInt n))) st w kc ks by rw [st1_11 h]; exact k)
theorem e_incC11 {a0 a1 a2 a3 a4 a5 a6 a7 a8 a9 a10 : Option Value} {x v : Int32} {n : Int} (hd : decode cc pc = .ok (.iinc 11 n, 3)) (hx : x + Int32.ofInt n = v) (hn : 11 < nL) (h : mc_is2 (some a10) = false) (k : mc_E own cc nL J (pc + 3) (a0 :: a1 :: a2 :: a3 :: a4 :: a5 :: a6 :: a7 :: a8 :: a9 :: a10 :: some (.int v) :: r) st w kc ks) : mc_E own cc nL J pc (a0 :: a1 :: a2 :: a3 :: a4 :: a5 :: a6 :: a7 :: a8 :: a9 :: a10 :: some (.int x) :: r) st w kc ks := by
  subst hx
  exact e_inc11 hd hn h k
theorem e_lsw11 {a0 a1 a2 a3 a4 a5 a6 a7 a8 a9 a10 a11 a12 : Option Value} {x : Int64} (hd : decode cc pc = .ok (.lstore 11, 2)) (hn : 11 + 1 < nL) (h : mc_is2 (some a10) = false) (k : mc_E own cc nL J (pc + 2) (a0 :: a1 :: a2 :: a3 :: a4 :: a5 :: a6 :: a7 :: a8 :: a9 :: a10 :: some (.long x) :: none :: r) st w kc ks) : mc_E own cc nL J pc (a0 :: a1 :: a2 :: a3 :: a4 :: a5 :: a6 :: a7 :: a8 :: a9 :: a10 :: a11 :: a12 :: r) (.long x :: st) w kc ks := e_lstore hd hn (show mc_E own cc nL J (pc + 2) (mc_st2 (a0 :: a1 :: a2 :: a3 :: a4 :: a5 :: a6 :: a7 :: a8 :: a9 :: a10 :: a11 :: a12 :: r) 11 (.long x)) st w kc ks by rw [st2_11 h]; exact k)
theorem e_isw12 {a0 a1 a2 a3 a4 a5 a6 a7 a8 a9 a10 a11 a12 : Option Value} {x : Int32} (hd : decode cc pc = .ok (.istore 12, 2)) (hn : 12 < nL) (h : mc_is2 (some a11) = false) (k : mc_E own cc nL J (pc + 2) (a0 :: a1 :: a2 :: a3 :: a4 :: a5 :: a6 :: a7 :: a8 :: a9 :: a10 :: a11 :: some (.int x) :: r) st w kc ks) : mc_E own cc nL J pc (a0 :: a1 :: a2 :: a3 :: a4 :: a5 :: a6 :: a7 :: a8 :: a9 :: a10 :: a11 :: a12 :: r) (.int x :: st) w kc ks := e_istore hd hn (show mc_E own cc nL J (pc + 2) (mc_st1 (a0 :: a1 :: a2 :: a3 :: a4 :: a5 :: a6 :: a7 :: a8 :: a9 :: a10 :: a11 :: a12 :: r) 12 (.int x)) st w kc ks by rw [st1_12 h]; exact k)
theorem e_asw12 {a0 a1 a2 a3 a4 a5 a6 a7 a8 a9 a10 a11 a12 : Option Value} {x : Nat} (hd : decode cc pc = .ok (.astore 12, 2)) (hn : 12 < nL) (h : mc_is2 (some a11) = false) (k : mc_E own cc nL J (pc + 2) (a0 :: a1 :: a2 :: a3 :: a4 :: a5 :: a6 :: a7 :: a8 :: a9 :: a10 :: a11 :: some (.ref x) :: r) st w kc ks) : mc_E own cc nL J pc (a0 :: a1 :: a2 :: a3 :: a4 :: a5 :: a6 :: a7 :: a8 :: a9 :: a10 :: a11 :: a12 :: r) (.ref x :: st) w kc ks := e_astore hd hn (show mc_E own cc nL J (pc + 2) (mc_st1 (a0 :: a1 :: a2 :: a3 :: a4 :: a5 :: a6 :: a7 :: a8 :: a9 :: a10 :: a11 :: a12 :: r) 12 (.ref x)) st w kc ks by rw [st1_12 h]; exact k)
theorem e_inc12 {a0 a1 a2 a3 a4 a5 a6 a7 a8 a9 a10 a11 : Option Value} {x : Int32} {n : Int} (hd : decode cc pc = .ok (.iinc 12 n, 3)) (hn : 12 < nL) (h : mc_is2 (some a11) = false) (k : mc_E own cc nL J (pc + 3) (a0 :: a1 :: a2 :: a3 :: a4 :: a5 :: a6 :: a7 :: a8 :: a9 :: a10 :: a11 :: some (.int (x + Int32.ofInt n)) :: r) st w kc ks) : mc_E own cc nL J pc (a0 :: a1 :: a2 :: a3 :: a4 :: a5 :: a6 :: a7 :: a8 :: a9 :: a10 :: a11 :: some (.int x) :: r) st w kc ks := e_iinc hd rfl hn (show mc_E own cc nL J (pc + 3) (mc_st1 (a0 :: a1 :: a2 :: a3 :: a4 :: a5 :: a6 :: a7 :: a8 :: a9 :: a10 :: a11 :: some (.int x) :: r) 12 (.int (x + Int32.ofInt n))) st w kc ks by rw [st1_12 h]; exact k)
theorem e_incC12 {a0 a1 a2 a3 a4 a5 a6 a7 a8 a9 a10 a11 : Option Value} {x v : Int32} {n : Int} (hd : decode cc pc = .ok (.iinc 12 n, 3)) (hx : x + Int32.ofInt n = v) (hn : 12 < nL) (h : mc_is2 (some a11) = false) (k : mc_E own cc nL J (pc + 3) (a0 :: a1 :: a2 :: a3 :: a4 :: a5 :: a6 :: a7 :: a8 :: a9 :: a10 :: a11 :: some (.int v) :: r) st w kc ks) : mc_E own cc nL J pc (a0 :: a1 :: a2 :: a3 :: a4 :: a5 :: a6 :: a7 :: a8 :: a9 :: a10 :: a11 :: some (.int x) :: r) st w kc ks := by
  subst hx
  exact e_inc12 hd hn h k
theorem e_lsw12 {a0 a1 a2 a3 a4 a5 a6 a7 a8 a9 a10 a11 a12 a13 : Option Value} {x : Int64} (hd : decode cc pc = .ok (.lstore 12, 2)) (hn : 12 + 1 < nL) (h : mc_is2 (some a11) = false) (k : mc_E own cc nL J (pc + 2) (a0 :: a1 :: a2 :: a3 :: a4 :: a5 :: a6 :: a7 :: a8 :: a9 :: a10 :: a11 :: some (.long x) :: none :: r) st w kc ks) : mc_E own cc nL J pc (a0 :: a1 :: a2 :: a3 :: a4 :: a5 :: a6 :: a7 :: a8 :: a9 :: a10 :: a11 :: a12 :: a13 :: r) (.long x :: st) w kc ks := e_lstore hd hn (show mc_E own cc nL J (pc + 2) (mc_st2 (a0 :: a1 :: a2 :: a3 :: a4 :: a5 :: a6 :: a7 :: a8 :: a9 :: a10 :: a11 :: a12 :: a13 :: r) 12 (.long x)) st w kc ks by rw [st2_12 h]; exact k)
theorem e_isw13 {a0 a1 a2 a3 a4 a5 a6 a7 a8 a9 a10 a11 a12 a13 : Option Value} {x : Int32} (hd : decode cc pc = .ok (.istore 13, 2)) (hn : 13 < nL) (h : mc_is2 (some a12) = false) (k : mc_E own cc nL J (pc + 2) (a0 :: a1 :: a2 :: a3 :: a4 :: a5 :: a6 :: a7 :: a8 :: a9 :: a10 :: a11 :: a12 :: some (.int x) :: r) st w kc ks) : mc_E own cc nL J pc (a0 :: a1 :: a2 :: a3 :: a4 :: a5 :: a6 :: a7 :: a8 :: a9 :: a10 :: a11 :: a12 :: a13 :: r) (.int x :: st) w kc ks := e_istore hd hn (show mc_E own cc nL J (pc + 2) (mc_st1 (a0 :: a1 :: a2 :: a3 :: a4 :: a5 :: a6 :: a7 :: a8 :: a9 :: a10 :: a11 :: a12 :: a13 :: r) 13 (.int x)) st w kc ks by rw [st1_13 h]; exact k)
theorem e_asw13 {a0 a1 a2 a3 a4 a5 a6 a7 a8 a9 a10 a11 a12 a13 : Option Value} {x : Nat} (hd : decode cc pc = .ok (.astore 13, 2)) (hn : 13 < nL) (h : mc_is2 (some a12) = false) (k : mc_E own cc nL J (pc + 2) (a0 :: a1 :: a2 :: a3 :: a4 :: a5 :: a6 :: a7 :: a8 :: a9 :: a10 :: a11 :: a12 :: some (.ref x) :: r) st w kc ks) : mc_E own cc nL J pc (a0 :: a1 :: a2 :: a3 :: a4 :: a5 :: a6 :: a7 :: a8 :: a9 :: a10 :: a11 :: a12 :: a13 :: r) (.ref x :: st) w kc ks := e_astore hd hn (show mc_E own cc nL J (pc + 2) (mc_st1 (a0 :: a1 :: a2 :: a3 :: a4 :: a5 :: a6 :: a7 :: a8 :: a9 :: a10 :: a11 :: a12 :: a13 :: r) 13 (.ref x)) st w kc ks by rw [st1_13 h]; exact k)
theorem e_inc13 {a0 a1 a2 a3 a4 a5 a6 a7 a8 a9 a10 a11 a12 : Option Value} {x : Int32} {n : Int} (hd : decode cc pc = .ok (.iinc 13 n, 3)) (hn : 13 < nL) (h : mc_is2 (some a12) = false) (k : mc_E own cc nL J (pc + 3) (a0 :: a1 :: a2 :: a3 :: a4 :: a5 :: a6 :: a7 :: a8 :: a9 :: a10 :: a11 :: a12 :: some (.int (x + Int32.ofInt n)) :: r) st w kc ks) : mc_E own cc nL J pc (a0 :: a1 :: a2 :: a3 :: a4 :: a5 :: a6 :: a7 :: a8 :: a9 :: a10 :: a11 :: a12 :: some (.int x) :: r) st w kc ks := e_iinc hd rfl hn (show mc_E own cc nL J (pc + 3) (mc_st1 (a0 :: a1 :: a2 :: a3 :: a4 :: a5 :: a6 :: a7 :: a8 :: a9 :: a10 :: a11 :: a12 :: some (.int x) :: r) 13 (.int (x + Int32.ofInt n))) st w kc ks by rw [st1_13 h]; exact k)
theorem e_incC13 {a0 a1 a2 a3 a4 a5 a6 a7 a8 a9 a10 a11 a12 : Option Value} {x v : Int32} {n : Int} (hd : decode cc pc = .ok (.iinc 13 n, 3)) (hx : x + Int32.ofInt n = v) (hn : 13 < nL) (h : mc_is2 (some a12) = false) (k : mc_E own cc nL J (pc + 3) (a0 :: a1 :: a2 :: a3 :: a4 :: a5 :: a6 :: a7 :: a8 :: a9 :: a10 :: a11 :: a12 :: some (.int v) :: r) st w kc ks) : mc_E own cc nL J pc (a0 :: a1 :: a2 :: a3 :: a4 :: a5 :: a6 :: a7 :: a8 :: a9 :: a10 :: a11 :: a12 :: some (.int x) :: r) st w kc ks := by
  subst hx
  exact e_inc13 hd hn h k
theorem e_lsw13 {a0 a1 a2 a3 a4 a5 a6 a7 a8 a9 a10 a11 a12 a13 a14 : Option Value} {x : Int64} (hd : decode cc pc = .ok (.lstore 13, 2)) (hn : 13 + 1 < nL) (h : mc_is2 (some a12) = false) (k : mc_E own cc nL J (pc + 2) (a0 :: a1 :: a2 :: a3 :: a4 :: a5 :: a6 :: a7 :: a8 :: a9 :: a10 :: a11 :: a12 :: some (.long x) :: none :: r) st w kc ks) : mc_E own cc nL J pc (a0 :: a1 :: a2 :: a3 :: a4 :: a5 :: a6 :: a7 :: a8 :: a9 :: a10 :: a11 :: a12 :: a13 :: a14 :: r) (.long x :: st) w kc ks := e_lstore hd hn (show mc_E own cc nL J (pc + 2) (mc_st2 (a0 :: a1 :: a2 :: a3 :: a4 :: a5 :: a6 :: a7 :: a8 :: a9 :: a10 :: a11 :: a12 :: a13 :: a14 :: r) 13 (.long x)) st w kc ks by rw [st2_13 h]; exact k)
theorem e_isw14 {a0 a1 a2 a3 a4 a5 a6 a7 a8 a9 a10 a11 a12 a13 a14 : Option Value} {x : Int32} (hd : decode cc pc = .ok (.istore 14, 2)) (hn : 14 < nL) (h : mc_is2 (some a13) = false) (k : mc_E own cc nL J (pc + 2) (a0 :: a1 :: a2 :: a3 :: a4 :: a5 :: a6 :: a7 :: a8 :: a9 :: a10 :: a11 :: a12 :: a13 :: some (.int x) :: r) st w kc ks) : mc_E own cc nL J pc (a0 :: a1 :: a2 :: a3 :: a4 :: a5 :: a6 :: a7 :: a8 :: a9 :: a10 :: a11 :: a12 :: a13 :: a14 :: r) (.int x :: st) w kc ks := e_istore hd hn (show mc_E own cc nL J (pc + 2) (mc_st1 (a0 :: a1 :: a2 :: a3 :: a4 :: a5 :: a6 :: a7 :: a8 :: a9 :: a10 :: a11 :: a12 :: a13 :: a14 :: r) 14 (.int x)) st w kc ks by rw [st1_14 h]; exact k)
theorem e_asw14 {a0 a1 a2 a3 a4 a5 a6 a7 a8 a9 a10 a11 a12 a13 a14 : Option Value} {x : Nat} (hd : decode cc pc = .ok (.astore 14, 2)) (hn : 14 < nL) (h : mc_is2 (some a13) = false) (k : mc_E own cc nL J (pc + 2) (a0 :: a1 :: a2 :: a3 :: a4 :: a5 :: a6 :: a7 :: a8 :: a9 :: a10 :: a11 :: a12 :: a13 :: some (.ref x) :: r) st w kc ks) : mc_E own cc nL J pc (a0 :: a1 :: a2 :: a3 :: a4 :: a5 :: a6 :: a7 :: a8 :: a9 :: a10 :: a11 :: a12 :: a13 :: a14 :: r) (.ref x :: st) w kc ks := e_astore hd hn (show mc_E own cc nL J (pc + 2) (mc_st1 (a0 :: a1 :: a2 :: a3 :: a4 :: a5 :: a6 :: a7 :: a8 :: a9 :: a10 :: a11 :: a12 :: a13 :: a14 :: r) 14 (.ref x)) st w kc ks by rw [st1_14 h]; exact k)
theorem e_inc14 {a0 a1 a2 a3 a4 a5 a6 a7 a8 a9 a10 a11 a12 a13 : Option Value} {x : Int32} {n : Int} (hd : decode cc pc = .ok (.iinc 14 n, 3)) (hn : 14 < nL) (h : mc_is2 (some a13) = false) (k : mc_E own cc nL J (pc + 3) (a0 :: a1 :: a2 :: a3 :: a4 :: a5 :: a6 :: a7 :: a8 :: a9 :: a10 :: a11 :: a12 :: a13 :: some (.int (x + Int32.ofInt n)) :: r) st w kc ks) : mc_E own cc nL J pc (a0 :: a1 :: a2 :: a3 :: a4 :: a5 :: a6 :: a7 :: a8 :: a9 :: a10 :: a11 :: a12 :: a13 :: some (.int x) :: r) st w kc ks := e_iinc hd rfl hn (show mc_E own cc nL J (pc + 3) (mc_st1 (a0 :: a1 :: a2 :: a3 :: a4 :: a5 :: a6 :: a7 :: a8 :: a9 :: a10 :: a11 :: a12 :: a13 :: some (.int x) :: r) 14 (.int (x + Int32.ofInt n))) st w kc ks by rw [st1_14 h]; exact k)
theorem e_incC14 {a0 a1 a2 a3 a4 a5 a6 a7 a8 a9 a10 a11 a12 a13 : Option Value} {x v : Int32} {n : Int} (hd : decode cc pc = .ok (.iinc 14 n, 3)) (hx : x + Int32.ofInt n = v) (hn : 14 < nL) (h : mc_is2 (some a13) = false) (k : mc_E own cc nL J (pc + 3) (a0 :: a1 :: a2 :: a3 :: a4 :: a5 :: a6 :: a7 :: a8 :: a9 :: a10 :: a11 :: a12 :: a13 :: some (.int v) :: r) st w kc ks) : mc_E own cc nL J pc (a0 :: a1 :: a2 :: a3 :: a4 :: a5 :: a6 :: a7 :: a8 :: a9 :: a10 :: a11 :: a12 :: a13 :: some (.int x) :: r) st w kc ks := by
  subst hx
  exact e_inc14 hd hn h k
theorem e_lsw14 {a0 a1 a2 a3 a4 a5 a6 a7 a8 a9 a10 a11 a12 a13 a14 a15 : Option Value} {x : Int64} (hd : decode cc pc = .ok (.lstore 14, 2)) (hn : 14 + 1 < nL) (h : mc_is2 (some a13) = false) (k : mc_E own cc nL J (pc + 2) (a0 :: a1 :: a2 :: a3 :: a4 :: a5 :: a6 :: a7 :: a8 :: a9 :: a10 :: a11 :: a12 :: a13 :: some (.long x) :: none :: r) st w kc ks) : mc_E own cc nL J pc (a0 :: a1 :: a2 :: a3 :: a4 :: a5 :: a6 :: a7 :: a8 :: a9 :: a10 :: a11 :: a12 :: a13 :: a14 :: a15 :: r) (.long x :: st) w kc ks := e_lstore hd hn (show mc_E own cc nL J (pc + 2) (mc_st2 (a0 :: a1 :: a2 :: a3 :: a4 :: a5 :: a6 :: a7 :: a8 :: a9 :: a10 :: a11 :: a12 :: a13 :: a14 :: a15 :: r) 14 (.long x)) st w kc ks by rw [st2_14 h]; exact k)
end Stores
theorem e_top {own : String} {cc : ByteArray} {nL : Nat} {J : mc_J} {pc : Nat} {L : List (Option Value)} {st : List Value} {w : mc_W} {kc ks : Nat} {x y : Int32} (h : x = y) (k : mc_E own cc nL J pc L (.int y :: st) w kc ks) : mc_E own cc nL J pc L (.int x :: st) w kc ks := by
  subst h
  exact k
theorem e_topl {own : String} {cc : ByteArray} {nL : Nat} {J : mc_J} {pc : Nat} {L : List (Option Value)} {st : List Value} {w : mc_W} {kc ks : Nat} {x y : Int64} (h : x = y) (k : mc_E own cc nL J pc L (.long y :: st) w kc ks) : mc_E own cc nL J pc L (.long x :: st) w kc ks := by
  subst h
  exact k
end Zj_12_calls2
