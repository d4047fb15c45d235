section Zj_53a_dL_1
theorem dL_law_974 : decode cL_law 974 = .ok (.pop, 1) := zr0 zk_87 (zat_w (k := 60) (p := 14) (w := zw_cL_law_60) zw_cL_law_ok rfl (by decide +kernel))
theorem dL_law_975 : decode cL_law 975 = .ok (.goto 789, 3) := zr2s zk_167 (x0 := 3) (x1 := 21) (zat_w (k := 60) (p := 15) (w := zw_cL_law_60) zw_cL_law_ok rfl (by decide +kernel)) (by decide +kernel)
theorem dL_law_978 : decode cL_law 978 = .ok (.aload_n 1, 1) := zr0 zk_43 (zat_w (k := 61) (p := 2) (w := zw_cL_law_61) zw_cL_law_ok rfl (by decide +kernel))
theorem dL_law_979 : decode cL_law 979 = .ok (.aload_n 0, 1) := zr0 zk_42 (zat_w (k := 61) (p := 3) (w := zw_cL_law_61) zw_cL_law_ok rfl (by decide +kernel))
theorem dL_law_980 : decode cL_law 980 = .ok (.iload_n 3, 1) := zr0 zk_29 (zat_w (k := 61) (p := 4) (w := zw_cL_law_61) zw_cL_law_ok rfl (by decide +kernel))
theorem dL_law_981 : decode cL_law 981 = .ok (.iconst 1, 1) := zr0 zk_4 (zat_w (k := 61) (p := 5) (w := zw_cL_law_61) zw_cL_law_ok rfl (by decide +kernel))
theorem dL_law_982 : decode cL_law 982 = .ok (.iadd, 1) := zr0 zk_96 (zat_w (k := 61) (p := 6) (w := zw_cL_law_61) zw_cL_law_ok rfl (by decide +kernel))
theorem dL_law_983 : decode cL_law 983 = .ok (.iaload, 1) := zr0 zk_46 (zat_w (k := 61) (p := 7) (w := zw_cL_law_61) zw_cL_law_ok rfl (by decide +kernel))
theorem dL_law_984 : decode cL_law 984 = .ok (.aload_n 0, 1) := zr0 zk_42 (zat_w (k := 61) (p := 8) (w := zw_cL_law_61) zw_cL_law_ok rfl (by decide +kernel))
theorem dL_law_985 : decode cL_law 985 = .ok (.iload_n 3, 1) := zr0 zk_29 (zat_w (k := 61) (p := 9) (w := zw_cL_law_61) zw_cL_law_ok rfl (by decide +kernel))
theorem dL_law_986 : decode cL_law 986 = .ok (.iconst 2, 1) := zr0 zk_5 (zat_w (k := 61) (p := 10) (w := zw_cL_law_61) zw_cL_law_ok rfl (by decide +kernel))
theorem dL_law_987 : decode cL_law 987 = .ok (.iadd, 1) := zr0 zk_96 (zat_w (k := 61) (p := 11) (w := zw_cL_law_61) zw_cL_law_ok rfl (by decide +kernel))
theorem dL_law_988 : decode cL_law 988 = .ok (.iaload, 1) := zr0 zk_46 (zat_w (k := 61) (p := 12) (w := zw_cL_law_61) zw_cL_law_ok rfl (by decide +kernel))
theorem dL_law_989 : decode cL_law 989 = .ok (.invokevirtual 101, 3) := zr2u zk_182 (x0 := 0) (x1 := 101) (zat_w (k := 61) (p := 13) (w := zw_cL_law_61) zw_cL_law_ok rfl (by decide +kernel)) (by decide +kernel)
theorem dL_law_992 : decode cL_law 992 = .ok (.pop, 1) := zr0 zk_87 (zat_w (k := 62) (p := 0) (w := zw_cL_law_62) zw_cL_law_ok rfl (by decide +kernel))
theorem dL_law_993 : decode cL_law 993 = .ok (.aload_n 2, 1) := zr0 zk_44 (zat_w (k := 62) (p := 1) (w := zw_cL_law_62) zw_cL_law_ok rfl (by decide +kernel))
theorem dL_law_994 : decode cL_law 994 = .ok (.aload_n 0, 1) := zr0 zk_42 (zat_w (k := 62) (p := 2) (w := zw_cL_law_62) zw_cL_law_ok rfl (by decide +kernel))
theorem dL_law_995 : decode cL_law 995 = .ok (.iload_n 3, 1) := zr0 zk_29 (zat_w (k := 62) (p := 3) (w := zw_cL_law_62) zw_cL_law_ok rfl (by decide +kernel))
theorem dL_law_996 : decode cL_law 996 = .ok (.iconst 1, 1) := zr0 zk_4 (zat_w (k := 62) (p := 4) (w := zw_cL_law_62) zw_cL_law_ok rfl (by decide +kernel))
theorem dL_law_997 : decode cL_law 997 = .ok (.iadd, 1) := zr0 zk_96 (zat_w (k := 62) (p := 5) (w := zw_cL_law_62) zw_cL_law_ok rfl (by decide +kernel))
theorem dL_law_998 : decode cL_law 998 = .ok (.iaload, 1) := zr0 zk_46 (zat_w (k := 62) (p := 6) (w := zw_cL_law_62) zw_cL_law_ok rfl (by decide +kernel))
theorem dL_law_999 : decode cL_law 999 = .ok (.aload_n 0, 1) := zr0 zk_42 (zat_w (k := 62) (p := 7) (w := zw_cL_law_62) zw_cL_law_ok rfl (by decide +kernel))
theorem dL_law_1000 : decode cL_law 1000 = .ok (.iload_n 3, 1) := zr0 zk_29 (zat_w (k := 62) (p := 8) (w := zw_cL_law_62) zw_cL_law_ok rfl (by decide +kernel))
theorem dL_law_1001 : decode cL_law 1001 = .ok (.iconst 2, 1) := zr0 zk_5 (zat_w (k := 62) (p := 9) (w := zw_cL_law_62) zw_cL_law_ok rfl (by decide +kernel))
theorem dL_law_1002 : decode cL_law 1002 = .ok (.iadd, 1) := zr0 zk_96 (zat_w (k := 62) (p := 10) (w := zw_cL_law_62) zw_cL_law_ok rfl (by decide +kernel))
theorem dL_law_1003 : decode cL_law 1003 = .ok (.iaload, 1) := zr0 zk_46 (zat_w (k := 62) (p := 11) (w := zw_cL_law_62) zw_cL_law_ok rfl (by decide +kernel))
theorem dL_law_1004 : decode cL_law 1004 = .ok (.invokevirtual 104, 3) := zr2u zk_182 (x0 := 0) (x1 := 104) (zat_w (k := 62) (p := 12) (w := zw_cL_law_62) zw_cL_law_ok rfl (by decide +kernel)) (by decide +kernel)
theorem dL_law_1007 : decode cL_law 1007 = .ok (.pop, 1) := zr0 zk_87 (zat_w (k := 62) (p := 15) (w := zw_cL_law_62) zw_cL_law_ok rfl (by decide +kernel))
theorem dL_law_1008 : decode cL_law 1008 = .ok (.goto 756, 3) := zr2s zk_167 (x0 := 2) (x1 := 244) (zat_w (k := 63) (p := 0) (w := zw_cL_law_63) zw_cL_law_ok rfl (by decide +kernel)) (by decide +kernel)
theorem dL_law_1011 : decode cL_law 1011 = .ok (.aload_n 1, 1) := zr0 zk_43 (zat_w (k := 63) (p := 3) (w := zw_cL_law_63) zw_cL_law_ok rfl (by decide +kernel))
theorem dL_law_1012 : decode cL_law 1012 = .ok (.aload_n 0, 1) := zr0 zk_42 (zat_w (k := 63) (p := 4) (w := zw_cL_law_63) zw_cL_law_ok rfl (by decide +kernel))
theorem dL_law_1013 : decode cL_law 1013 = .ok (.iload_n 3, 1) := zr0 zk_29 (zat_w (k := 63) (p := 5) (w := zw_cL_law_63) zw_cL_law_ok rfl (by decide +kernel))
theorem dL_law_1014 : decode cL_law 1014 = .ok (.iconst 1, 1) := zr0 zk_4 (zat_w (k := 63) (p := 6) (w := zw_cL_law_63) zw_cL_law_ok rfl (by decide +kernel))
theorem dL_law_1015 : decode cL_law 1015 = .ok (.iadd, 1) := zr0 zk_96 (zat_w (k := 63) (p := 7) (w := zw_cL_law_63) zw_cL_law_ok rfl (by decide +kernel))
theorem dL_law_1016 : decode cL_law 1016 = .ok (.iaload, 1) := zr0 zk_46 (zat_w (k := 63) (p := 8) (w := zw_cL_law_63) zw_cL_law_ok rfl (by decide +kernel))
theorem dL_law_1017 : decode cL_law 1017 = .ok (.aload_n 0, 1) := zr0 zk_42 (zat_w (k := 63) (p := 9) (w := zw_cL_law_63) zw_cL_law_ok rfl (by decide +kernel))
theorem dL_law_1018 : decode cL_law 1018 = .ok (.iload_n 3, 1) := zr0 zk_29 (zat_w (k := 63) (p := 10) (w := zw_cL_law_63) zw_cL_law_ok rfl (by decide +kernel))
theorem dL_law_1019 : decode cL_law 1019 = .ok (.iconst 2, 1) := zr0 zk_5 (zat_w (k := 63) (p := 11) (w := zw_cL_law_63) zw_cL_law_ok rfl (by decide +kernel))
theorem dL_law_1020 : decode cL_law 1020 = .ok (.iadd, 1) := zr0 zk_96 (zat_w (k := 63) (p := 12) (w := zw_cL_law_63) zw_cL_law_ok rfl (by decide +kernel))
theorem dL_law_1021 : decode cL_law 1021 = .ok (.iaload, 1) := zr0 zk_46 (zat_w (k := 63) (p := 13) (w := zw_cL_law_63) zw_cL_law_ok rfl (by decide +kernel))
theorem dL_law_1022 : decode cL_law 1022 = .ok (.aload_n 0, 1) := zr0 zk_42 (zat_w (k := 63) (p := 14) (w := zw_cL_law_63) zw_cL_law_ok rfl (by decide +kernel))
theorem dL_law_1023 : decode cL_law 1023 = .ok (.iload_n 3, 1) := zr0 zk_29 (zat_w (k := 63) (p := 15) (w := zw_cL_law_63) zw_cL_law_ok rfl (by decide +kernel))
theorem dL_law_1024 : decode cL_law 1024 = .ok (.iconst 3, 1) := zr0 zk_6 (zat_w (k := 64) (p := 0) (w := zw_cL_law_64) zw_cL_law_ok rfl (by decide +kernel))
theorem dL_law_1025 : decode cL_law 1025 = .ok (.iadd, 1) := zr0 zk_96 (zat_w (k := 64) (p := 1) (w := zw_cL_law_64) zw_cL_law_ok rfl (by decide +kernel))
theorem dL_law_1026 : decode cL_law 1026 = .ok (.iaload, 1) := zr0 zk_46 (zat_w (k := 64) (p := 2) (w := zw_cL_law_64) zw_cL_law_ok rfl (by decide +kernel))
theorem dL_law_1027 : decode cL_law 1027 = .ok (.invokevirtual 105, 3) := zr2u zk_182 (x0 := 0) (x1 := 105) (zat_w (k := 64) (p := 3) (w := zw_cL_law_64) zw_cL_law_ok rfl (by decide +kernel)) (by decide +kernel)
theorem dL_law_1030 : decode cL_law 1030 = .ok (.pop, 1) := zr0 zk_87 (zat_w (k := 64) (p := 6) (w := zw_cL_law_64) zw_cL_law_ok rfl (by decide +kernel))
theorem dL_law_1031 : decode cL_law 1031 = .ok (.aload_n 2, 1) := zr0 zk_44 (zat_w (k := 64) (p := 7) (w := zw_cL_law_64) zw_cL_law_ok rfl (by decide +kernel))
theorem dL_law_1032 : decode cL_law 1032 = .ok (.aload_n 0, 1) := zr0 zk_42 (zat_w (k := 64) (p := 8) (w := zw_cL_law_64) zw_cL_law_ok rfl (by decide +kernel))
theorem dL_law_1033 : decode cL_law 1033 = .ok (.iload_n 3, 1) := zr0 zk_29 (zat_w (k := 64) (p := 9) (w := zw_cL_law_64) zw_cL_law_ok rfl (by decide +kernel))
theorem dL_law_1034 : decode cL_law 1034 = .ok (.iconst 1, 1) := zr0 zk_4 (zat_w (k := 64) (p := 10) (w := zw_cL_law_64) zw_cL_law_ok rfl (by decide +kernel))
theorem dL_law_1035 : decode cL_law 1035 = .ok (.iadd, 1) := zr0 zk_96 (zat_w (k := 64) (p := 11) (w := zw_cL_law_64) zw_cL_law_ok rfl (by decide +kernel))
theorem dL_law_1036 : decode cL_law 1036 = .ok (.iaload, 1) := zr0 zk_46 (zat_w (k := 64) (p := 12) (w := zw_cL_law_64) zw_cL_law_ok rfl (by decide +kernel))
theorem dL_law_1037 : decode cL_law 1037 = .ok (.aload_n 0, 1) := zr0 zk_42 (zat_w (k := 64) (p := 13) (w := zw_cL_law_64) zw_cL_law_ok rfl (by decide +kernel))
theorem dL_law_1038 : decode cL_law 1038 = .ok (.iload_n 3, 1) := zr0 zk_29 (zat_w (k := 64) (p := 14) (w := zw_cL_law_64) zw_cL_law_ok rfl (by decide +kernel))
theorem dL_law_1039 : decode cL_law 1039 = .ok (.iconst 2, 1) := zr0 zk_5 (zat_w (k := 64) (p := 15) (w := zw_cL_law_64) zw_cL_law_ok rfl (by decide +kernel))
theorem dL_law_1040 : decode cL_law 1040 = .ok (.iadd, 1) := zr0 zk_96 (zat_w (k := 65) (p := 0) (w := zw_cL_law_65) zw_cL_law_ok rfl (by decide +kernel))
theorem dL_law_1041 : decode cL_law 1041 = .ok (.iaload, 1) := zr0 zk_46 (zat_w (k := 65) (p := 1) (w := zw_cL_law_65) zw_cL_law_ok rfl (by decide +kernel))
theorem dL_law_1042 : decode cL_law 1042 = .ok (.aload_n 0, 1) := zr0 zk_42 (zat_w (k := 65) (p := 2) (w := zw_cL_law_65) zw_cL_law_ok rfl (by decide +kernel))
theorem dL_law_1043 : decode cL_law 1043 = .ok (.iload_n 3, 1) := zr0 zk_29 (zat_w (k := 65) (p := 3) (w := zw_cL_law_65) zw_cL_law_ok rfl (by decide +kernel))
theorem dL_law_1044 : decode cL_law 1044 = .ok (.iconst 3, 1) := zr0 zk_6 (zat_w (k := 65) (p := 4) (w := zw_cL_law_65) zw_cL_law_ok rfl (by decide +kernel))
theorem dL_law_1045 : decode cL_law 1045 = .ok (.iadd, 1) := zr0 zk_96 (zat_w (k := 65) (p := 5) (w := zw_cL_law_65) zw_cL_law_ok rfl (by decide +kernel))
theorem dL_law_1046 : decode cL_law 1046 = .ok (.iaload, 1) := zr0 zk_46 (zat_w (k := 65) (p := 6) (w := zw_cL_law_65) zw_cL_law_ok rfl (by decide +kernel))
theorem dL_law_1047 : decode cL_law 1047 = .ok (.invokevirtual 108, 3) := zr2u zk_182 (x0 := 0) (x1 := 108) (zat_w (k := 65) (p := 7) (w := zw_cL_law_65) zw_cL_law_ok rfl (by decide +kernel)) (by decide +kernel)
theorem dL_law_1050 : decode cL_law 1050 = .ok (.pop, 1) := zr0 zk_87 (zat_w (k := 65) (p := 10) (w := zw_cL_law_65) zw_cL_law_ok rfl (by decide +kernel))
theorem dL_law_1051 : decode cL_law 1051 = .ok (.goto 713, 3) := zr2s zk_167 (x0 := 2) (x1 := 201) (zat_w (k := 65) (p := 11) (w := zw_cL_law_65) zw_cL_law_ok rfl (by decide +kernel)) (by decide +kernel)
theorem dL_law_1054 : decode cL_law 1054 = .ok (.aload_n 1, 1) := zr0 zk_43 (zat_w (k := 65) (p := 14) (w := zw_cL_law_65) zw_cL_law_ok rfl (by decide +kernel))
theorem dL_law_1055 : decode cL_law 1055 = .ok (.invokevirtual 109, 3) := zr2u zk_182 (x0 := 0) (x1 := 109) (zat_w (k := 65) (p := 15) (w := zw_cL_law_65) zw_cL_law_ok rfl (by decide +kernel)) (by decide +kernel)
theorem dL_law_1058 : decode cL_law 1058 = .ok (.pop, 1) := zr0 zk_87 (zat_w (k := 66) (p := 2) (w := zw_cL_law_66) zw_cL_law_ok rfl (by decide +kernel))
theorem dL_law_1059 : decode cL_law 1059 = .ok (.aload_n 2, 1) := zr0 zk_44 (zat_w (k := 66) (p := 3) (w := zw_cL_law_66) zw_cL_law_ok rfl (by decide +kernel))
theorem dL_law_1060 : decode cL_law 1060 = .ok (.invokevirtual 112, 3) := zr2u zk_182 (x0 := 0) (x1 := 112) (zat_w (k := 66) (p := 4) (w := zw_cL_law_66) zw_cL_law_ok rfl (by decide +kernel)) (by decide +kernel)
theorem dL_law_1063 : decode cL_law 1063 = .ok (.pop, 1) := zr0 zk_87 (zat_w (k := 66) (p := 7) (w := zw_cL_law_66) zw_cL_law_ok rfl (by decide +kernel))
theorem dL_law_1064 : decode cL_law 1064 = .ok (.goto 700, 3) := zr2s zk_167 (x0 := 2) (x1 := 188) (zat_w (k := 66) (p := 8) (w := zw_cL_law_66) zw_cL_law_ok rfl (by decide +kernel)) (by decide +kernel)
theorem dL_law_1067 : decode cL_law 1067 = .ok (.aload_n 1, 1) := zr0 zk_43 (zat_w (k := 66) (p := 11) (w := zw_cL_law_66) zw_cL_law_ok rfl (by decide +kernel))
theorem dL_law_1068 : decode cL_law 1068 = .ok (.invokevirtual 113, 3) := zr2u zk_182 (x0 := 0) (x1 := 113) (zat_w (k := 66) (p := 12) (w := zw_cL_law_66) zw_cL_law_ok rfl (by decide +kernel)) (by decide +kernel)
theorem dL_law_1071 : decode cL_law 1071 = .ok (.pop, 1) := zr0 zk_87 (zat_w (k := 66) (p := 15) (w := zw_cL_law_66) zw_cL_law_ok rfl (by decide +kernel))
theorem dL_law_1072 : decode cL_law 1072 = .ok (.aload_n 2, 1) := zr0 zk_44 (zat_w (k := 67) (p := 0) (w := zw_cL_law_67) zw_cL_law_ok rfl (by decide +kernel))
theorem dL_law_1073 : decode cL_law 1073 = .ok (.invokevirtual 116, 3) := zr2u zk_182 (x0 := 0) (x1 := 116) (zat_w (k := 67) (p := 1) (w := zw_cL_law_67) zw_cL_law_ok rfl (by decide +kernel)) (by decide +kernel)
theorem dL_law_1076 : decode cL_law 1076 = .ok (.pop, 1) := zr0 zk_87 (zat_w (k := 67) (p := 4) (w := zw_cL_law_67) zw_cL_law_ok rfl (by decide +kernel))
theorem dL_law_1077 : decode cL_law 1077 = .ok (.goto 687, 3) := zr2s zk_167 (x0 := 2) (x1 := 175) (zat_w (k := 67) (p := 5) (w := zw_cL_law_67) zw_cL_law_ok rfl (by decide +kernel)) (by decide +kernel)
theorem dL_law_1080 : decode cL_law 1080 = .ok (.aload_n 1, 1) := zr0 zk_43 (zat_w (k := 67) (p := 8) (w := zw_cL_law_67) zw_cL_law_ok rfl (by decide +kernel))
theorem dL_law_1081 : decode cL_law 1081 = .ok (.aload_n 0, 1) := zr0 zk_42 (zat_w (k := 67) (p := 9) (w := zw_cL_law_67) zw_cL_law_ok rfl (by decide +kernel))
theorem dL_law_1082 : decode cL_law 1082 = .ok (.iload_n 3, 1) := zr0 zk_29 (zat_w (k := 67) (p := 10) (w := zw_cL_law_67) zw_cL_law_ok rfl (by decide +kernel))
theorem dL_law_1083 : decode cL_law 1083 = .ok (.iconst 1, 1) := zr0 zk_4 (zat_w (k := 67) (p := 11) (w := zw_cL_law_67) zw_cL_law_ok rfl (by decide +kernel))
theorem dL_law_1084 : decode cL_law 1084 = .ok (.iadd, 1) := zr0 zk_96 (zat_w (k := 67) (p := 12) (w := zw_cL_law_67) zw_cL_law_ok rfl (by decide +kernel))
theorem dL_law_1085 : decode cL_law 1085 = .ok (.iaload, 1) := zr0 zk_46 (zat_w (k := 67) (p := 13) (w := zw_cL_law_67) zw_cL_law_ok rfl (by decide +kernel))
theorem dL_law_1086 : decode cL_law 1086 = .ok (.invokevirtual 117, 3) := zr2u zk_182 (x0 := 0) (x1 := 117) (zat_w (k := 67) (p := 14) (w := zw_cL_law_67) zw_cL_law_ok rfl (by decide +kernel)) (by decide +kernel)
theorem dL_law_1089 : decode cL_law 1089 = .ok (.pop, 1) := zr0 zk_87 (zat_w (k := 68) (p := 1) (w := zw_cL_law_68) zw_cL_law_ok rfl (by decide +kernel))
theorem dL_law_1090 : decode cL_law 1090 = .ok (.aload_n 2, 1) := zr0 zk_44 (zat_w (k := 68) (p := 2) (w := zw_cL_law_68) zw_cL_law_ok rfl (by decide +kernel))
theorem dL_law_1091 : decode cL_law 1091 = .ok (.aload_n 0, 1) := zr0 zk_42 (zat_w (k := 68) (p := 3) (w := zw_cL_law_68) zw_cL_law_ok rfl (by decide +kernel))
theorem dL_law_1092 : decode cL_law 1092 = .ok (.iload_n 3, 1) := zr0 zk_29 (zat_w (k := 68) (p := 4) (w := zw_cL_law_68) zw_cL_law_ok rfl (by decide +kernel))
theorem dL_law_1093 : decode cL_law 1093 = .ok (.iconst 1, 1) := zr0 zk_4 (zat_w (k := 68) (p := 5) (w := zw_cL_law_68) zw_cL_law_ok rfl (by decide +kernel))
theorem dL_law_1094 : decode cL_law 1094 = .ok (.iadd, 1) := zr0 zk_96 (zat_w (k := 68) (p := 6) (w := zw_cL_law_68) zw_cL_law_ok rfl (by decide +kernel))
theorem dL_law_1095 : decode cL_law 1095 = .ok (.iaload, 1) := zr0 zk_46 (zat_w (k := 68) (p := 7) (w := zw_cL_law_68) zw_cL_law_ok rfl (by decide +kernel))
theorem dL_law_1096 : decode cL_law 1096 = .ok (.invokevirtual 120, 3) := zr2u zk_182 (x0 := 0) (x1 := 120) (zat_w (k := 68) (p := 8) (w := zw_cL_law_68) zw_cL_law_ok rfl (by decide +kernel)) (by decide +kernel)
theorem dL_law_1099 : decode cL_law 1099 = .ok (.pop, 1) := zr0 zk_87 (zat_w (k := 68) (p := 11) (w := zw_cL_law_68) zw_cL_law_ok rfl (by decide +kernel))
theorem dL_law_1100 : decode cL_law 1100 = .ok (.goto 664, 3) := zr2s zk_167 (x0 := 2) (x1 := 152) (zat_w (k := 68) (p := 12) (w := zw_cL_law_68) zw_cL_law_ok rfl (by decide +kernel)) (by decide +kernel)
theorem dL_law_1103 : decode cL_law 1103 = .ok (.aload_n 1, 1) := zr0 zk_43 (zat_w (k := 68) (p := 15) (w := zw_cL_law_68) zw_cL_law_ok rfl (by decide +kernel))
theorem dL_law_1104 : decode cL_law 1104 = .ok (.aload_n 0, 1) := zr0 zk_42 (zat_w (k := 69) (p := 0) (w := zw_cL_law_69) zw_cL_law_ok rfl (by decide +kernel))
theorem dL_law_1105 : decode cL_law 1105 = .ok (.iload_n 3, 1) := zr0 zk_29 (zat_w (k := 69) (p := 1) (w := zw_cL_law_69) zw_cL_law_ok rfl (by decide +kernel))
theorem dL_law_1106 : decode cL_law 1106 = .ok (.iconst 1, 1) := zr0 zk_4 (zat_w (k := 69) (p := 2) (w := zw_cL_law_69) zw_cL_law_ok rfl (by decide +kernel))
theorem dL_law_1107 : decode cL_law 1107 = .ok (.iadd, 1) := zr0 zk_96 (zat_w (k := 69) (p := 3) (w := zw_cL_law_69) zw_cL_law_ok rfl (by decide +kernel))
theorem dL_law_1108 : decode cL_law 1108 = .ok (.iaload, 1) := zr0 zk_46 (zat_w (k := 69) (p := 4) (w := zw_cL_law_69) zw_cL_law_ok rfl (by decide +kernel))
theorem dL_law_1109 : decode cL_law 1109 = .ok (.aload_n 0, 1) := zr0 zk_42 (zat_w (k := 69) (p := 5) (w := zw_cL_law_69) zw_cL_law_ok rfl (by decide +kernel))
theorem dL_law_1110 : decode cL_law 1110 = .ok (.iload_n 3, 1) := zr0 zk_29 (zat_w (k := 69) (p := 6) (w := zw_cL_law_69) zw_cL_law_ok rfl (by decide +kernel))
theorem dL_law_1111 : decode cL_law 1111 = .ok (.iconst 2, 1) := zr0 zk_5 (zat_w (k := 69) (p := 7) (w := zw_cL_law_69) zw_cL_law_ok rfl (by decide +kernel))
theorem dL_law_1112 : decode cL_law 1112 = .ok (.iadd, 1) := zr0 zk_96 (zat_w (k := 69) (p := 8) (w := zw_cL_law_69) zw_cL_law_ok rfl (by decide +kernel))
theorem dL_law_1113 : decode cL_law 1113 = .ok (.iaload, 1) := zr0 zk_46 (zat_w (k := 69) (p := 9) (w := zw_cL_law_69) zw_cL_law_ok rfl (by decide +kernel))
theorem dL_law_1114 : decode cL_law 1114 = .ok (.invokevirtual 121, 3) := zr2u zk_182 (x0 := 0) (x1 := 121) (zat_w (k := 69) (p := 10) (w := zw_cL_law_69) zw_cL_law_ok rfl (by decide +kernel)) (by decide +kernel)
theorem dL_law_1117 : decode cL_law 1117 = .ok (.pop, 1) := zr0 zk_87 (zat_w (k := 69) (p := 13) (w := zw_cL_law_69) zw_cL_law_ok rfl (by decide +kernel))
theorem dL_law_1118 : decode cL_law 1118 = .ok (.aload_n 2, 1) := zr0 zk_44 (zat_w (k := 69) (p := 14) (w := zw_cL_law_69) zw_cL_law_ok rfl (by decide +kernel))
theorem dL_law_1119 : decode cL_law 1119 = .ok (.aload_n 0, 1) := zr0 zk_42 (zat_w (k := 69) (p := 15) (w := zw_cL_law_69) zw_cL_law_ok rfl (by decide +kernel))
theorem dL_law_1120 : decode cL_law 1120 = .ok (.iload_n 3, 1) := zr0 zk_29 (zat_w (k := 70) (p := 0) (w := zw_cL_law_70) zw_cL_law_ok rfl (by decide +kernel))
theorem dL_law_1121 : decode cL_law 1121 = .ok (.iconst 1, 1) := zr0 zk_4 (zat_w (k := 70) (p := 1) (w := zw_cL_law_70) zw_cL_law_ok rfl (by decide +kernel))
theorem dL_law_1122 : decode cL_law 1122 = .ok (.iadd, 1) := zr0 zk_96 (zat_w (k := 70) (p := 2) (w := zw_cL_law_70) zw_cL_law_ok rfl (by decide +kernel))
theorem dL_law_1123 : decode cL_law 1123 = .ok (.iaload, 1) := zr0 zk_46 (zat_w (k := 70) (p := 3) (w := zw_cL_law_70) zw_cL_law_ok rfl (by decide +kernel))
theorem dL_law_1124 : decode cL_law 1124 = .ok (.aload_n 0, 1) := zr0 zk_42 (zat_w (k := 70) (p := 4) (w := zw_cL_law_70) zw_cL_law_ok rfl (by decide +kernel))
theorem dL_law_1125 : decode cL_law 1125 = .ok (.iload_n 3, 1) := zr0 zk_29 (zat_w (k := 70) (p := 5) (w := zw_cL_law_70) zw_cL_law_ok rfl (by decide +kernel))
theorem dL_law_1126 : decode cL_law 1126 = .ok (.iconst 2, 1) := zr0 zk_5 (zat_w (k := 70) (p := 6) (w := zw_cL_law_70) zw_cL_law_ok rfl (by decide +kernel))
theorem dL_law_1127 : decode cL_law 1127 = .ok (.iadd, 1) := zr0 zk_96 (zat_w (k := 70) (p := 7) (w := zw_cL_law_70) zw_cL_law_ok rfl (by decide +kernel))
theorem dL_law_1128 : decode cL_law 1128 = .ok (.iaload, 1) := zr0 zk_46 (zat_w (k := 70) (p := 8) (w := zw_cL_law_70) zw_cL_law_ok rfl (by decide +kernel))
theorem dL_law_1129 : decode cL_law 1129 = .ok (.invokevirtual 124, 3) := zr2u zk_182 (x0 := 0) (x1 := 124) (zat_w (k := 70) (p := 9) (w := zw_cL_law_70) zw_cL_law_ok rfl (by decide +kernel)) (by decide +kernel)
theorem dL_law_1132 : decode cL_law 1132 = .ok (.pop, 1) := zr0 zk_87 (zat_w (k := 70) (p := 12) (w := zw_cL_law_70) zw_cL_law_ok rfl (by decide +kernel))
theorem dL_law_1133 : decode cL_law 1133 = .ok (.goto 631, 3) := zr2s zk_167 (x0 := 2) (x1 := 119) (zat_w (k := 70) (p := 13) (w := zw_cL_law_70) zw_cL_law_ok rfl (by decide +kernel)) (by decide +kernel)
theorem dL_law_1136 : decode cL_law 1136 = .ok (.aload_n 1, 1) := zr0 zk_43 (zat_w (k := 71) (p := 0) (w := zw_cL_law_71) zw_cL_law_ok rfl (by decide +kernel))
theorem dL_law_1137 : decode cL_law 1137 = .ok (.aload_n 0, 1) := zr0 zk_42 (zat_w (k := 71) (p := 1) (w := zw_cL_law_71) zw_cL_law_ok rfl (by decide +kernel))
theorem dL_law_1138 : decode cL_law 1138 = .ok (.iload_n 3, 1) := zr0 zk_29 (zat_w (k := 71) (p := 2) (w := zw_cL_law_71) zw_cL_law_ok rfl (by decide +kernel))
theorem dL_law_1139 : decode cL_law 1139 = .ok (.iconst 1, 1) := zr0 zk_4 (zat_w (k := 71) (p := 3) (w := zw_cL_law_71) zw_cL_law_ok rfl (by decide +kernel))
theorem dL_law_1140 : decode cL_law 1140 = .ok (.iadd, 1) := zr0 zk_96 (zat_w (k := 71) (p := 4) (w := zw_cL_law_71) zw_cL_law_ok rfl (by decide +kernel))
theorem dL_law_1141 : decode cL_law 1141 = .ok (.iaload, 1) := zr0 zk_46 (zat_w (k := 71) (p := 5) (w := zw_cL_law_71) zw_cL_law_ok rfl (by decide +kernel))
theorem dL_law_1142 : decode cL_law 1142 = .ok (.aload_n 0, 1) := zr0 zk_42 (zat_w (k := 71) (p := 6) (w := zw_cL_law_71) zw_cL_law_ok rfl (by decide +kernel))
theorem dL_law_1143 : decode cL_law 1143 = .ok (.iload_n 3, 1) := zr0 zk_29 (zat_w (k := 71) (p := 7) (w := zw_cL_law_71) zw_cL_law_ok rfl (by decide +kernel))
theorem dL_law_1144 : decode cL_law 1144 = .ok (.iconst 2, 1) := zr0 zk_5 (zat_w (k := 71) (p := 8) (w := zw_cL_law_71) zw_cL_law_ok rfl (by decide +kernel))
theorem dL_law_1145 : decode cL_law 1145 = .ok (.iadd, 1) := zr0 zk_96 (zat_w (k := 71) (p := 9) (w := zw_cL_law_71) zw_cL_law_ok rfl (by decide +kernel))
theorem dL_law_1146 : decode cL_law 1146 = .ok (.iaload, 1) := zr0 zk_46 (zat_w (k := 71) (p := 10) (w := zw_cL_law_71) zw_cL_law_ok rfl (by decide +kernel))
theorem dL_law_1147 : decode cL_law 1147 = .ok (.invokevirtual 125, 3) := zr2u zk_182 (x0 := 0) (x1 := 125) (zat_w (k := 71) (p := 11) (w := zw_cL_law_71) zw_cL_law_ok rfl (by decide +kernel)) (by decide +kernel)
theorem dL_law_1150 : decode cL_law 1150 = .ok (.pop, 1) := zr0 zk_87 (zat_w (k := 71) (p := 14) (w := zw_cL_law_71) zw_cL_law_ok rfl (by decide +kernel))
theorem dL_law_1151 : decode cL_law 1151 = .ok (.aload_n 2, 1) := zr0 zk_44 (zat_w (k := 71) (p := 15) (w := zw_cL_law_71) zw_cL_law_ok rfl (by decide +kernel))
theorem dL_law_1152 : decode cL_law 1152 = .ok (.aload_n 0, 1) := zr0 zk_42 (zat_w (k := 72) (p := 0) (w := zw_cL_law_72) zw_cL_law_ok rfl (by decide +kernel))
theorem dL_law_1153 : decode cL_law 1153 = .ok (.iload_n 3, 1) := zr0 zk_29 (zat_w (k := 72) (p := 1) (w := zw_cL_law_72) zw_cL_law_ok rfl (by decide +kernel))
theorem dL_law_1154 : decode cL_law 1154 = .ok (.iconst 1, 1) := zr0 zk_4 (zat_w (k := 72) (p := 2) (w := zw_cL_law_72) zw_cL_law_ok rfl (by decide +kernel))
theorem dL_law_1155 : decode cL_law 1155 = .ok (.iadd, 1) := zr0 zk_96 (zat_w (k := 72) (p := 3) (w := zw_cL_law_72) zw_cL_law_ok rfl (by decide +kernel))
theorem dL_law_1156 : decode cL_law 1156 = .ok (.iaload, 1) := zr0 zk_46 (zat_w (k := 72) (p := 4) (w := zw_cL_law_72) zw_cL_law_ok rfl (by decide +kernel))
theorem dL_law_1157 : decode cL_law 1157 = .ok (.aload_n 0, 1) := zr0 zk_42 (zat_w (k := 72) (p := 5) (w := zw_cL_law_72) zw_cL_law_ok rfl (by decide +kernel))
theorem dL_law_1158 : decode cL_law 1158 = .ok (.iload_n 3, 1) := zr0 zk_29 (zat_w (k := 72) (p := 6) (w := zw_cL_law_72) zw_cL_law_ok rfl (by decide +kernel))
theorem dL_law_1159 : decode cL_law 1159 = .ok (.iconst 2, 1) := zr0 zk_5 (zat_w (k := 72) (p := 7) (w := zw_cL_law_72) zw_cL_law_ok rfl (by decide +kernel))
theorem dL_law_1160 : decode cL_law 1160 = .ok (.iadd, 1) := zr0 zk_96 (zat_w (k := 72) (p := 8) (w := zw_cL_law_72) zw_cL_law_ok rfl (by decide +kernel))
theorem dL_law_1161 : decode cL_law 1161 = .ok (.iaload, 1) := zr0 zk_46 (zat_w (k := 72) (p := 9) (w := zw_cL_law_72) zw_cL_law_ok rfl (by decide +kernel))
theorem dL_law_1162 : decode cL_law 1162 = .ok (.invokevirtual 128, 3) := zr2u zk_182 (x0 := 0) (x1 := 128) (zat_w (k := 72) (p := 10) (w := zw_cL_law_72) zw_cL_law_ok rfl (by decide +kernel)) (by decide +kernel)
theorem dL_law_1165 : decode cL_law 1165 = .ok (.pop, 1) := zr0 zk_87 (zat_w (k := 72) (p := 13) (w := zw_cL_law_72) zw_cL_law_ok rfl (by decide +kernel))
theorem dL_law_1166 : decode cL_law 1166 = .ok (.goto 598, 3) := zr2s zk_167 (x0 := 2) (x1 := 86) (zat_w (k := 72) (p := 14) (w := zw_cL_law_72) zw_cL_law_ok rfl (by decide +kernel)) (by decide +kernel)
theorem dL_law_1169 : decode cL_law 1169 = .ok (.aload_n 1, 1) := zr0 zk_43 (zat_w (k := 73) (p := 1) (w := zw_cL_law_73) zw_cL_law_ok rfl (by decide +kernel))
theorem dL_law_1170 : decode cL_law 1170 = .ok (.aload_n 0, 1) := zr0 zk_42 (zat_w (k := 73) (p := 2) (w := zw_cL_law_73) zw_cL_law_ok rfl (by decide +kernel))
theorem dL_law_1171 : decode cL_law 1171 = .ok (.iload_n 3, 1) := zr0 zk_29 (zat_w (k := 73) (p := 3) (w := zw_cL_law_73) zw_cL_law_ok rfl (by decide +kernel))
theorem dL_law_1172 : decode cL_law 1172 = .ok (.iconst 1, 1) := zr0 zk_4 (zat_w (k := 73) (p := 4) (w := zw_cL_law_73) zw_cL_law_ok rfl (by decide +kernel))
theorem dL_law_1173 : decode cL_law 1173 = .ok (.iadd, 1) := zr0 zk_96 (zat_w (k := 73) (p := 5) (w := zw_cL_law_73) zw_cL_law_ok rfl (by decide +kernel))
theorem dL_law_1174 : decode cL_law 1174 = .ok (.iaload, 1) := zr0 zk_46 (zat_w (k := 73) (p := 6) (w := zw_cL_law_73) zw_cL_law_ok rfl (by decide +kernel))
theorem dL_law_1175 : decode cL_law 1175 = .ok (.aload_n 0, 1) := zr0 zk_42 (zat_w (k := 73) (p := 7) (w := zw_cL_law_73) zw_cL_law_ok rfl (by decide +kernel))
theorem dL_law_1176 : decode cL_law 1176 = .ok (.iload_n 3, 1) := zr0 zk_29 (zat_w (k := 73) (p := 8) (w := zw_cL_law_73) zw_cL_law_ok rfl (by decide +kernel))
theorem dL_law_1177 : decode cL_law 1177 = .ok (.iconst 2, 1) := zr0 zk_5 (zat_w (k := 73) (p := 9) (w := zw_cL_law_73) zw_cL_law_ok rfl (by decide +kernel))
theorem dL_law_1178 : decode cL_law 1178 = .ok (.iadd, 1) := zr0 zk_96 (zat_w (k := 73) (p := 10) (w := zw_cL_law_73) zw_cL_law_ok rfl (by decide +kernel))
theorem dL_law_1179 : decode cL_law 1179 = .ok (.iaload, 1) := zr0 zk_46 (zat_w (k := 73) (p := 11) (w := zw_cL_law_73) zw_cL_law_ok rfl (by decide +kernel))
theorem dL_law_1180 : decode cL_law 1180 = .ok (.aload_n 0, 1) := zr0 zk_42 (zat_w (k := 73) (p := 12) (w := zw_cL_law_73) zw_cL_law_ok rfl (by decide +kernel))
theorem dL_law_1181 : decode cL_law 1181 = .ok (.iload_n 3, 1) := zr0 zk_29 (zat_w (k := 73) (p := 13) (w := zw_cL_law_73) zw_cL_law_ok rfl (by decide +kernel))
theorem dL_law_1182 : decode cL_law 1182 = .ok (.iconst 3, 1) := zr0 zk_6 (zat_w (k := 73) (p := 14) (w := zw_cL_law_73) zw_cL_law_ok rfl (by decide +kernel))
theorem dL_law_1183 : decode cL_law 1183 = .ok (.iadd, 1) := zr0 zk_96 (zat_w (k := 73) (p := 15) (w := zw_cL_law_73) zw_cL_law_ok rfl (by decide +kernel))
theorem dL_law_1184 : decode cL_law 1184 = .ok (.iaload, 1) := zr0 zk_46 (zat_w (k := 74) (p := 0) (w := zw_cL_law_74) zw_cL_law_ok rfl (by decide +kernel))
theorem dL_law_1185 : decode cL_law 1185 = .ok (.invokevirtual 129, 3) := zr2u zk_182 (x0 := 0) (x1 := 129) (zat_w (k := 74) (p := 1) (w := zw_cL_law_74) zw_cL_law_ok rfl (by decide +kernel)) (by decide +kernel)
theorem dL_law_1188 : decode cL_law 1188 = .ok (.pop, 1) := zr0 zk_87 (zat_w (k := 74) (p := 4) (w := zw_cL_law_74) zw_cL_law_ok rfl (by decide +kernel))
theorem dL_law_1189 : decode cL_law 1189 = .ok (.aload_n 2, 1) := zr0 zk_44 (zat_w (k := 74) (p := 5) (w := zw_cL_law_74) zw_cL_law_ok rfl (by decide +kernel))
theorem dL_law_1190 : decode cL_law 1190 = .ok (.aload_n 0, 1) := zr0 zk_42 (zat_w (k := 74) (p := 6) (w := zw_cL_law_74) zw_cL_law_ok rfl (by decide +kernel))
theorem dL_law_1191 : decode cL_law 1191 = .ok (.iload_n 3, 1) := zr0 zk_29 (zat_w (k := 74) (p := 7) (w := zw_cL_law_74) zw_cL_law_ok rfl (by decide +kernel))
theorem dL_law_1192 : decode cL_law 1192 = .ok (.iconst 1, 1) := zr0 zk_4 (zat_w (k := 74) (p := 8) (w := zw_cL_law_74) zw_cL_law_ok rfl (by decide +kernel))
theorem dL_law_1193 : decode cL_law 1193 = .ok (.iadd, 1) := zr0 zk_96 (zat_w (k := 74) (p := 9) (w := zw_cL_law_74) zw_cL_law_ok rfl (by decide +kernel))
theorem dL_law_1194 : decode cL_law 1194 = .ok (.iaload, 1) := zr0 zk_46 (zat_w (k := 74) (p := 10) (w := zw_cL_law_74) zw_cL_law_ok rfl (by decide +kernel))
theorem dL_law_1195 : decode cL_law 1195 = .ok (.aload_n 0, 1) := zr0 zk_42 (zat_w (k := 74) (p := 11) (w := zw_cL_law_74) zw_cL_law_ok rfl (by decide +kernel))
theorem dL_law_1196 : decode cL_law 1196 = .ok (.iload_n 3, 1) := zr0 zk_29 (zat_w (k := 74) (p := 12) (w := zw_cL_law_74) zw_cL_law_ok rfl (by decide +kernel))
theorem dL_law_1197 : decode cL_law 1197 = .ok (.iconst 2, 1) := zr0 zk_5 (zat_w (k := 74) (p := 13) (w := zw_cL_law_74) zw_cL_law_ok rfl (by decide +kernel))
theorem dL_law_1198 : decode cL_law 1198 = .ok (.iadd, 1) := zr0 zk_96 (zat_w (k := 74) (p := 14) (w := zw_cL_law_74) zw_cL_law_ok rfl (by decide +kernel))
theorem dL_law_1199 : decode cL_law 1199 = .ok (.iaload, 1) := zr0 zk_46 (zat_w (k := 74) (p := 15) (w := zw_cL_law_74) zw_cL_law_ok rfl (by decide +kernel))
theorem dL_law_1200 : decode cL_law 1200 = .ok (.aload_n 0, 1) := zr0 zk_42 (zat_w (k := 75) (p := 0) (w := zw_cL_law_75) zw_cL_law_ok rfl (by decide +kernel))
theorem dL_law_1201 : decode cL_law 1201 = .ok (.iload_n 3, 1) := zr0 zk_29 (zat_w (k := 75) (p := 1) (w := zw_cL_law_75) zw_cL_law_ok rfl (by decide +kernel))
theorem dL_law_1202 : decode cL_law 1202 = .ok (.iconst 3, 1) := zr0 zk_6 (zat_w (k := 75) (p := 2) (w := zw_cL_law_75) zw_cL_law_ok rfl (by decide +kernel))
theorem dL_law_1203 : decode cL_law 1203 = .ok (.iadd, 1) := zr0 zk_96 (zat_w (k := 75) (p := 3) (w := zw_cL_law_75) zw_cL_law_ok rfl (by decide +kernel))
theorem dL_law_1204 : decode cL_law 1204 = .ok (.iaload, 1) := zr0 zk_46 (zat_w (k := 75) (p := 4) (w := zw_cL_law_75) zw_cL_law_ok rfl (by decide +kernel))
theorem dL_law_1205 : decode cL_law 1205 = .ok (.invokevirtual 132, 3) := zr2u zk_182 (x0 := 0) (x1 := 132) (zat_w (k := 75) (p := 5) (w := zw_cL_law_75) zw_cL_law_ok rfl (by decide +kernel)) (by decide +kernel)
theorem dL_law_1208 : decode cL_law 1208 = .ok (.pop, 1) := zr0 zk_87 (zat_w (k := 75) (p := 8) (w := zw_cL_law_75) zw_cL_law_ok rfl (by decide +kernel))
theorem dL_law_1209 : decode cL_law 1209 = .ok (.goto 555, 3) := zr2s zk_167 (x0 := 2) (x1 := 43) (zat_w (k := 75) (p := 9) (w := zw_cL_law_75) zw_cL_law_ok rfl (by decide +kernel)) (by decide +kernel)
theorem dL_law_1212 : decode cL_law 1212 = .ok (.aload_n 1, 1) := zr0 zk_43 (zat_w (k := 75) (p := 12) (w := zw_cL_law_75) zw_cL_law_ok rfl (by decide +kernel))
theorem dL_law_1213 : decode cL_law 1213 = .ok (.aload_n 0, 1) := zr0 zk_42 (zat_w (k := 75) (p := 13) (w := zw_cL_law_75) zw_cL_law_ok rfl (by decide +kernel))
theorem dL_law_1214 : decode cL_law 1214 = .ok (.iload_n 3, 1) := zr0 zk_29 (zat_w (k := 75) (p := 14) (w := zw_cL_law_75) zw_cL_law_ok rfl (by decide +kernel))
theorem dL_law_1215 : decode cL_law 1215 = .ok (.iconst 1, 1) := zr0 zk_4 (zat_w (k := 75) (p := 15) (w := zw_cL_law_75) zw_cL_law_ok rfl (by decide +kernel))
theorem dL_law_1216 : decode cL_law 1216 = .ok (.iadd, 1) := zr0 zk_96 (zat_w (k := 76) (p := 0) (w := zw_cL_law_76) zw_cL_law_ok rfl (by decide +kernel))
theorem dL_law_1217 : decode cL_law 1217 = .ok (.iaload, 1) := zr0 zk_46 (zat_w (k := 76) (p := 1) (w := zw_cL_law_76) zw_cL_law_ok rfl (by decide +kernel))
theorem dL_law_1218 : decode cL_law 1218 = .ok (.aload_n 0, 1) := zr0 zk_42 (zat_w (k := 76) (p := 2) (w := zw_cL_law_76) zw_cL_law_ok rfl (by decide +kernel))
theorem dL_law_1219 : decode cL_law 1219 = .ok (.iload_n 3, 1) := zr0 zk_29 (zat_w (k := 76) (p := 3) (w := zw_cL_law_76) zw_cL_law_ok rfl (by decide +kernel))
theorem dL_law_1220 : decode cL_law 1220 = .ok (.iconst 2, 1) := zr0 zk_5 (zat_w (k := 76) (p := 4) (w := zw_cL_law_76) zw_cL_law_ok rfl (by decide +kernel))
theorem dL_law_1221 : decode cL_law 1221 = .ok (.iadd, 1) := zr0 zk_96 (zat_w (k := 76) (p := 5) (w := zw_cL_law_76) zw_cL_law_ok rfl (by decide +kernel))
theorem dL_law_1222 : decode cL_law 1222 = .ok (.iaload, 1) := zr0 zk_46 (zat_w (k := 76) (p := 6) (w := zw_cL_law_76) zw_cL_law_ok rfl (by decide +kernel))
theorem dL_law_1223 : decode cL_law 1223 = .ok (.invokevirtual 133, 3) := zr2u zk_182 (x0 := 0) (x1 := 133) (zat_w (k := 76) (p := 7) (w := zw_cL_law_76) zw_cL_law_ok rfl (by decide +kernel)) (by decide +kernel)
theorem dL_law_1226 : decode cL_law 1226 = .ok (.pop, 1) := zr0 zk_87 (zat_w (k := 76) (p := 10) (w := zw_cL_law_76) zw_cL_law_ok rfl (by decide +kernel))
theorem dL_law_1227 : decode cL_law 1227 = .ok (.aload_n 2, 1) := zr0 zk_44 (zat_w (k := 76) (p := 11) (w := zw_cL_law_76) zw_cL_law_ok rfl (by decide +kernel))
theorem dL_law_1228 : decode cL_law 1228 = .ok (.aload_n 0, 1) := zr0 zk_42 (zat_w (k := 76) (p := 12) (w := zw_cL_law_76) zw_cL_law_ok rfl (by decide +kernel))
theorem dL_law_1229 : decode cL_law 1229 = .ok (.iload_n 3, 1) := zr0 zk_29 (zat_w (k := 76) (p := 13) (w := zw_cL_law_76) zw_cL_law_ok rfl (by decide +kernel))
theorem dL_law_1230 : decode cL_law 1230 = .ok (.iconst 1, 1) := zr0 zk_4 (zat_w (k := 76) (p := 14) (w := zw_cL_law_76) zw_cL_law_ok rfl (by decide +kernel))
theorem dL_law_1231 : decode cL_law 1231 = .ok (.iadd, 1) := zr0 zk_96 (zat_w (k := 76) (p := 15) (w := zw_cL_law_76) zw_cL_law_ok rfl (by decide +kernel))
theorem dL_law_1232 : decode cL_law 1232 = .ok (.iaload, 1) := zr0 zk_46 (zat_w (k := 77) (p := 0) (w := zw_cL_law_77) zw_cL_law_ok rfl (by decide +kernel))
theorem dL_law_1233 : decode cL_law 1233 = .ok (.aload_n 0, 1) := zr0 zk_42 (zat_w (k := 77) (p := 1) (w := zw_cL_law_77) zw_cL_law_ok rfl (by decide +kernel))
theorem dL_law_1234 : decode cL_law 1234 = .ok (.iload_n 3, 1) := zr0 zk_29 (zat_w (k := 77) (p := 2) (w := zw_cL_law_77) zw_cL_law_ok rfl (by decide +kernel))
theorem dL_law_1235 : decode cL_law 1235 = .ok (.iconst 2, 1) := zr0 zk_5 (zat_w (k := 77) (p := 3) (w := zw_cL_law_77) zw_cL_law_ok rfl (by decide +kernel))
theorem dL_law_1236 : decode cL_law 1236 = .ok (.iadd, 1) := zr0 zk_96 (zat_w (k := 77) (p := 4) (w := zw_cL_law_77) zw_cL_law_ok rfl (by decide +kernel))
theorem dL_law_1237 : decode cL_law 1237 = .ok (.iaload, 1) := zr0 zk_46 (zat_w (k := 77) (p := 5) (w := zw_cL_law_77) zw_cL_law_ok rfl (by decide +kernel))
theorem dL_law_1238 : decode cL_law 1238 = .ok (.invokevirtual 136, 3) := zr2u zk_182 (x0 := 0) (x1 := 136) (zat_w (k := 77) (p := 6) (w := zw_cL_law_77) zw_cL_law_ok rfl (by decide +kernel)) (by decide +kernel)
theorem dL_law_1241 : decode cL_law 1241 = .ok (.pop, 1) := zr0 zk_87 (zat_w (k := 77) (p := 9) (w := zw_cL_law_77) zw_cL_law_ok rfl (by decide +kernel))
theorem dL_law_1242 : decode cL_law 1242 = .ok (.goto 522, 3) := zr2s zk_167 (x0 := 2) (x1 := 10) (zat_w (k := 77) (p := 10) (w := zw_cL_law_77) zw_cL_law_ok rfl (by decide +kernel)) (by decide +kernel)
theorem dL_law_1245 : decode cL_law 1245 = .ok (.aload_n 1, 1) := zr0 zk_43 (zat_w (k := 77) (p := 13) (w := zw_cL_law_77) zw_cL_law_ok rfl (by decide +kernel))
theorem dL_law_1246 : decode cL_law 1246 = .ok (.aload_n 0, 1) := zr0 zk_42 (zat_w (k := 77) (p := 14) (w := zw_cL_law_77) zw_cL_law_ok rfl (by decide +kernel))
theorem dL_law_1247 : decode cL_law 1247 = .ok (.iload_n 3, 1) := zr0 zk_29 (zat_w (k := 77) (p := 15) (w := zw_cL_law_77) zw_cL_law_ok rfl (by decide +kernel))
theorem dL_law_1248 : decode cL_law 1248 = .ok (.iconst 1, 1) := zr0 zk_4 (zat_w (k := 78) (p := 0) (w := zw_cL_law_78) zw_cL_law_ok rfl (by decide +kernel))
theorem dL_law_1249 : decode cL_law 1249 = .ok (.iadd, 1) := zr0 zk_96 (zat_w (k := 78) (p := 1) (w := zw_cL_law_78) zw_cL_law_ok rfl (by decide +kernel))
theorem dL_law_1250 : decode cL_law 1250 = .ok (.iaload, 1) := zr0 zk_46 (zat_w (k := 78) (p := 2) (w := zw_cL_law_78) zw_cL_law_ok rfl (by decide +kernel))
theorem dL_law_1251 : decode cL_law 1251 = .ok (.aload_n 0, 1) := zr0 zk_42 (zat_w (k := 78) (p := 3) (w := zw_cL_law_78) zw_cL_law_ok rfl (by decide +kernel))
theorem dL_law_1252 : decode cL_law 1252 = .ok (.iload_n 3, 1) := zr0 zk_29 (zat_w (k := 78) (p := 4) (w := zw_cL_law_78) zw_cL_law_ok rfl (by decide +kernel))
theorem dL_law_1253 : decode cL_law 1253 = .ok (.iconst 2, 1) := zr0 zk_5 (zat_w (k := 78) (p := 5) (w := zw_cL_law_78) zw_cL_law_ok rfl (by decide +kernel))
theorem dL_law_1254 : decode cL_law 1254 = .ok (.iadd, 1) := zr0 zk_96 (zat_w (k := 78) (p := 6) (w := zw_cL_law_78) zw_cL_law_ok rfl (by decide +kernel))
theorem dL_law_1255 : decode cL_law 1255 = .ok (.iaload, 1) := zr0 zk_46 (zat_w (k := 78) (p := 7) (w := zw_cL_law_78) zw_cL_law_ok rfl (by decide +kernel))
theorem dL_law_1256 : decode cL_law 1256 = .ok (.aload_n 0, 1) := zr0 zk_42 (zat_w (k := 78) (p := 8) (w := zw_cL_law_78) zw_cL_law_ok rfl (by decide +kernel))
theorem dL_law_1257 : decode cL_law 1257 = .ok (.iload_n 3, 1) := zr0 zk_29 (zat_w (k := 78) (p := 9) (w := zw_cL_law_78) zw_cL_law_ok rfl (by decide +kernel))
theorem dL_law_1258 : decode cL_law 1258 = .ok (.iconst 3, 1) := zr0 zk_6 (zat_w (k := 78) (p := 10) (w := zw_cL_law_78) zw_cL_law_ok rfl (by decide +kernel))
theorem dL_law_1259 : decode cL_law 1259 = .ok (.iadd, 1) := zr0 zk_96 (zat_w (k := 78) (p := 11) (w := zw_cL_law_78) zw_cL_law_ok rfl (by decide +kernel))
theorem dL_law_1260 : decode cL_law 1260 = .ok (.iaload, 1) := zr0 zk_46 (zat_w (k := 78) (p := 12) (w := zw_cL_law_78) zw_cL_law_ok rfl (by decide +kernel))
theorem dL_law_1261 : decode cL_law 1261 = .ok (.invokevirtual 137, 3) := zr2u zk_182 (x0 := 0) (x1 := 137) (zat_w (k := 78) (p := 13) (w := zw_cL_law_78) zw_cL_law_ok rfl (by decide +kernel)) (by decide +kernel)
theorem dL_law_1264 : decode cL_law 1264 = .ok (.pop, 1) := zr0 zk_87 (zat_w (k := 79) (p := 0) (w := zw_cL_law_79) zw_cL_law_ok rfl (by decide +kernel))
theorem dL_law_1265 : decode cL_law 1265 = .ok (.aload_n 2, 1) := zr0 zk_44 (zat_w (k := 79) (p := 1) (w := zw_cL_law_79) zw_cL_law_ok rfl (by decide +kernel))
theorem dL_law_1266 : decode cL_law 1266 = .ok (.aload_n 0, 1) := zr0 zk_42 (zat_w (k := 79) (p := 2) (w := zw_cL_law_79) zw_cL_law_ok rfl (by decide +kernel))
theorem dL_law_1267 : decode cL_law 1267 = .ok (.iload_n 3, 1) := zr0 zk_29 (zat_w (k := 79) (p := 3) (w := zw_cL_law_79) zw_cL_law_ok rfl (by decide +kernel))
theorem dL_law_1268 : decode cL_law 1268 = .ok (.iconst 1, 1) := zr0 zk_4 (zat_w (k := 79) (p := 4) (w := zw_cL_law_79) zw_cL_law_ok rfl (by decide +kernel))
theorem dL_law_1269 : decode cL_law 1269 = .ok (.iadd, 1) := zr0 zk_96 (zat_w (k := 79) (p := 5) (w := zw_cL_law_79) zw_cL_law_ok rfl (by decide +kernel))
theorem dL_law_1270 : decode cL_law 1270 = .ok (.iaload, 1) := zr0 zk_46 (zat_w (k := 79) (p := 6) (w := zw_cL_law_79) zw_cL_law_ok rfl (by decide +kernel))
theorem dL_law_1271 : decode cL_law 1271 = .ok (.aload_n 0, 1) := zr0 zk_42 (zat_w (k := 79) (p := 7) (w := zw_cL_law_79) zw_cL_law_ok rfl (by decide +kernel))
theorem dL_law_1272 : decode cL_law 1272 = .ok (.iload_n 3, 1) := zr0 zk_29 (zat_w (k := 79) (p := 8) (w := zw_cL_law_79) zw_cL_law_ok rfl (by decide +kernel))
theorem dL_law_1273 : decode cL_law 1273 = .ok (.iconst 2, 1) := zr0 zk_5 (zat_w (k := 79) (p := 9) (w := zw_cL_law_79) zw_cL_law_ok rfl (by decide +kernel))
theorem dL_law_1274 : decode cL_law 1274 = .ok (.iadd, 1) := zr0 zk_96 (zat_w (k := 79) (p := 10) (w := zw_cL_law_79) zw_cL_law_ok rfl (by decide +kernel))
theorem dL_law_1275 : decode cL_law 1275 = .ok (.iaload, 1) := zr0 zk_46 (zat_w (k := 79) (p := 11) (w := zw_cL_law_79) zw_cL_law_ok rfl (by decide +kernel))
theorem dL_law_1276 : decode cL_law 1276 = .ok (.aload_n 0, 1) := zr0 zk_42 (zat_w (k := 79) (p := 12) (w := zw_cL_law_79) zw_cL_law_ok rfl (by decide +kernel))
theorem dL_law_1277 : decode cL_law 1277 = .ok (.iload_n 3, 1) := zr0 zk_29 (zat_w (k := 79) (p := 13) (w := zw_cL_law_79) zw_cL_law_ok rfl (by decide +kernel))
theorem dL_law_1278 : decode cL_law 1278 = .ok (.iconst 3, 1) := zr0 zk_6 (zat_w (k := 79) (p := 14) (w := zw_cL_law_79) zw_cL_law_ok rfl (by decide +kernel))
theorem dL_law_1279 : decode cL_law 1279 = .ok (.iadd, 1) := zr0 zk_96 (zat_w (k := 79) (p := 15) (w := zw_cL_law_79) zw_cL_law_ok rfl (by decide +kernel))
theorem dL_law_1280 : decode cL_law 1280 = .ok (.iaload, 1) := zr0 zk_46 (zat_w (k := 80) (p := 0) (w := zw_cL_law_80) zw_cL_law_ok rfl (by decide +kernel))
theorem dL_law_1281 : decode cL_law 1281 = .ok (.invokevirtual 140, 3) := zr2u zk_182 (x0 := 0) (x1 := 140) (zat_w (k := 80) (p := 1) (w := zw_cL_law_80) zw_cL_law_ok rfl (by decide +kernel)) (by decide +kernel)
theorem dL_law_1284 : decode cL_law 1284 = .ok (.pop, 1) := zr0 zk_87 (zat_w (k := 80) (p := 4) (w := zw_cL_law_80) zw_cL_law_ok rfl (by decide +kernel))
theorem dL_law_1285 : decode cL_law 1285 = .ok (.goto 479, 3) := zr2s zk_167 (x0 := 1) (x1 := 223) (zat_w (k := 80) (p := 5) (w := zw_cL_law_80) zw_cL_law_ok rfl (by decide +kernel)) (by decide +kernel)
theorem dL_law_1288 : decode cL_law 1288 = .ok (.aload_n 1, 1) := zr0 zk_43 (zat_w (k := 80) (p := 8) (w := zw_cL_law_80) zw_cL_law_ok rfl (by decide +kernel))
theorem dL_law_1289 : decode cL_law 1289 = .ok (.aload_n 0, 1) := zr0 zk_42 (zat_w (k := 80) (p := 9) (w := zw_cL_law_80) zw_cL_law_ok rfl (by decide +kernel))
theorem dL_law_1290 : decode cL_law 1290 = .ok (.iload_n 3, 1) := zr0 zk_29 (zat_w (k := 80) (p := 10) (w := zw_cL_law_80) zw_cL_law_ok rfl (by decide +kernel))
theorem dL_law_1291 : decode cL_law 1291 = .ok (.iconst 1, 1) := zr0 zk_4 (zat_w (k := 80) (p := 11) (w := zw_cL_law_80) zw_cL_law_ok rfl (by decide +kernel))
theorem dL_law_1292 : decode cL_law 1292 = .ok (.iadd, 1) := zr0 zk_96 (zat_w (k := 80) (p := 12) (w := zw_cL_law_80) zw_cL_law_ok rfl (by decide +kernel))
theorem dL_law_1293 : decode cL_law 1293 = .ok (.iaload, 1) := zr0 zk_46 (zat_w (k := 80) (p := 13) (w := zw_cL_law_80) zw_cL_law_ok rfl (by decide +kernel))
theorem dL_law_1294 : decode cL_law 1294 = .ok (.invokevirtual 141, 3) := zr2u zk_182 (x0 := 0) (x1 := 141) (zat_w (k := 80) (p := 14) (w := zw_cL_law_80) zw_cL_law_ok rfl (by decide +kernel)) (by decide +kernel)
theorem dL_law_1297 : decode cL_law 1297 = .ok (.pop, 1) := zr0 zk_87 (zat_w (k := 81) (p := 1) (w := zw_cL_law_81) zw_cL_law_ok rfl (by decide +kernel))
theorem dL_law_1298 : decode cL_law 1298 = .ok (.aload_n 2, 1) := zr0 zk_44 (zat_w (k := 81) (p := 2) (w := zw_cL_law_81) zw_cL_law_ok rfl (by decide +kernel))
theorem dL_law_1299 : decode cL_law 1299 = .ok (.aload_n 0, 1) := zr0 zk_42 (zat_w (k := 81) (p := 3) (w := zw_cL_law_81) zw_cL_law_ok rfl (by decide +kernel))
theorem dL_law_1300 : decode cL_law 1300 = .ok (.iload_n 3, 1) := zr0 zk_29 (zat_w (k := 81) (p := 4) (w := zw_cL_law_81) zw_cL_law_ok rfl (by decide +kernel))
theorem dL_law_1301 : decode cL_law 1301 = .ok (.iconst 1, 1) := zr0 zk_4 (zat_w (k := 81) (p := 5) (w := zw_cL_law_81) zw_cL_law_ok rfl (by decide +kernel))
theorem dL_law_1302 : decode cL_law 1302 = .ok (.iadd, 1) := zr0 zk_96 (zat_w (k := 81) (p := 6) (w := zw_cL_law_81) zw_cL_law_ok rfl (by decide +kernel))
theorem dL_law_1303 : decode cL_law 1303 = .ok (.iaload, 1) := zr0 zk_46 (zat_w (k := 81) (p := 7) (w := zw_cL_law_81) zw_cL_law_ok rfl (by decide +kernel))
theorem dL_law_1304 : decode cL_law 1304 = .ok (.invokevirtual 144, 3) := zr2u zk_182 (x0 := 0) (x1 := 144) (zat_w (k := 81) (p := 8) (w := zw_cL_law_81) zw_cL_law_ok rfl (by decide +kernel)) (by decide +kernel)
theorem dL_law_1307 : decode cL_law 1307 = .ok (.pop, 1) := zr0 zk_87 (zat_w (k := 81) (p := 11) (w := zw_cL_law_81) zw_cL_law_ok rfl (by decide +kernel))
theorem dL_law_1308 : decode cL_law 1308 = .ok (.goto 456, 3) := zr2s zk_167 (x0 := 1) (x1 := 200) (zat_w (k := 81) (p := 12) (w := zw_cL_law_81) zw_cL_law_ok rfl (by decide +kernel)) (by decide +kernel)
theorem dL_law_1311 : decode cL_law 1311 = .ok (.aload_n 1, 1) := zr0 zk_43 (zat_w (k := 81) (p := 15) (w := zw_cL_law_81) zw_cL_law_ok rfl (by decide +kernel))
theorem dL_law_1312 : decode cL_law 1312 = .ok (.aload_n 0, 1) := zr0 zk_42 (zat_w (k := 82) (p := 0) (w := zw_cL_law_82) zw_cL_law_ok rfl (by decide +kernel))
theorem dL_law_1313 : decode cL_law 1313 = .ok (.iload_n 3, 1) := zr0 zk_29 (zat_w (k := 82) (p := 1) (w := zw_cL_law_82) zw_cL_law_ok rfl (by decide +kernel))
theorem dL_law_1314 : decode cL_law 1314 = .ok (.iconst 1, 1) := zr0 zk_4 (zat_w (k := 82) (p := 2) (w := zw_cL_law_82) zw_cL_law_ok rfl (by decide +kernel))
theorem dL_law_1315 : decode cL_law 1315 = .ok (.iadd, 1) := zr0 zk_96 (zat_w (k := 82) (p := 3) (w := zw_cL_law_82) zw_cL_law_ok rfl (by decide +kernel))
theorem dL_law_1316 : decode cL_law 1316 = .ok (.iaload, 1) := zr0 zk_46 (zat_w (k := 82) (p := 4) (w := zw_cL_law_82) zw_cL_law_ok rfl (by decide +kernel))
theorem dL_law_1317 : decode cL_law 1317 = .ok (.aload_n 0, 1) := zr0 zk_42 (zat_w (k := 82) (p := 5) (w := zw_cL_law_82) zw_cL_law_ok rfl (by decide +kernel))
theorem dL_law_1318 : decode cL_law 1318 = .ok (.iload_n 3, 1) := zr0 zk_29 (zat_w (k := 82) (p := 6) (w := zw_cL_law_82) zw_cL_law_ok rfl (by decide +kernel))
theorem dL_law_1319 : decode cL_law 1319 = .ok (.iconst 2, 1) := zr0 zk_5 (zat_w (k := 82) (p := 7) (w := zw_cL_law_82) zw_cL_law_ok rfl (by decide +kernel))
theorem dL_law_1320 : decode cL_law 1320 = .ok (.iadd, 1) := zr0 zk_96 (zat_w (k := 82) (p := 8) (w := zw_cL_law_82) zw_cL_law_ok rfl (by decide +kernel))
theorem dL_law_1321 : decode cL_law 1321 = .ok (.iaload, 1) := zr0 zk_46 (zat_w (k := 82) (p := 9) (w := zw_cL_law_82) zw_cL_law_ok rfl (by decide +kernel))
theorem dL_law_1322 : decode cL_law 1322 = .ok (.invokevirtual 145, 3) := zr2u zk_182 (x0 := 0) (x1 := 145) (zat_w (k := 82) (p := 10) (w := zw_cL_law_82) zw_cL_law_ok rfl (by decide +kernel)) (by decide +kernel)
theorem dL_law_1325 : decode cL_law 1325 = .ok (.pop, 1) := zr0 zk_87 (zat_w (k := 82) (p := 13) (w := zw_cL_law_82) zw_cL_law_ok rfl (by decide +kernel))
theorem dL_law_1326 : decode cL_law 1326 = .ok (.aload_n 2, 1) := zr0 zk_44 (zat_w (k := 82) (p := 14) (w := zw_cL_law_82) zw_cL_law_ok rfl (by decide +kernel))
theorem dL_law_1327 : decode cL_law 1327 = .ok (.aload_n 0, 1) := zr0 zk_42 (zat_w (k := 82) (p := 15) (w := zw_cL_law_82) zw_cL_law_ok rfl (by decide +kernel))
theorem dL_law_1328 : decode cL_law 1328 = .ok (.iload_n 3, 1) := zr0 zk_29 (zat_w (k := 83) (p := 0) (w := zw_cL_law_83) zw_cL_law_ok rfl (by decide +kernel))
theorem dL_law_1329 : decode cL_law 1329 = .ok (.iconst 1, 1) := zr0 zk_4 (zat_w (k := 83) (p := 1) (w := zw_cL_law_83) zw_cL_law_ok rfl (by decide +kernel))
theorem dL_law_1330 : decode cL_law 1330 = .ok (.iadd, 1) := zr0 zk_96 (zat_w (k := 83) (p := 2) (w := zw_cL_law_83) zw_cL_law_ok rfl (by decide +kernel))
theorem dL_law_1331 : decode cL_law 1331 = .ok (.iaload, 1) := zr0 zk_46 (zat_w (k := 83) (p := 3) (w := zw_cL_law_83) zw_cL_law_ok rfl (by decide +kernel))
theorem dL_law_1332 : decode cL_law 1332 = .ok (.aload_n 0, 1) := zr0 zk_42 (zat_w (k := 83) (p := 4) (w := zw_cL_law_83) zw_cL_law_ok rfl (by decide +kernel))
theorem dL_law_1333 : decode cL_law 1333 = .ok (.iload_n 3, 1) := zr0 zk_29 (zat_w (k := 83) (p := 5) (w := zw_cL_law_83) zw_cL_law_ok rfl (by decide +kernel))
theorem dL_law_1334 : decode cL_law 1334 = .ok (.iconst 2, 1) := zr0 zk_5 (zat_w (k := 83) (p := 6) (w := zw_cL_law_83) zw_cL_law_ok rfl (by decide +kernel))
theorem dL_law_1335 : decode cL_law 1335 = .ok (.iadd, 1) := zr0 zk_96 (zat_w (k := 83) (p := 7) (w := zw_cL_law_83) zw_cL_law_ok rfl (by decide +kernel))
theorem dL_law_1336 : decode cL_law 1336 = .ok (.iaload, 1) := zr0 zk_46 (zat_w (k := 83) (p := 8) (w := zw_cL_law_83) zw_cL_law_ok rfl (by decide +kernel))
theorem dL_law_1337 : decode cL_law 1337 = .ok (.invokevirtual 148, 3) := zr2u zk_182 (x0 := 0) (x1 := 148) (zat_w (k := 83) (p := 9) (w := zw_cL_law_83) zw_cL_law_ok rfl (by decide +kernel)) (by decide +kernel)
theorem dL_law_1340 : decode cL_law 1340 = .ok (.pop, 1) := zr0 zk_87 (zat_w (k := 83) (p := 12) (w := zw_cL_law_83) zw_cL_law_ok rfl (by decide +kernel))
theorem dL_law_1341 : decode cL_law 1341 = .ok (.goto 423, 3) := zr2s zk_167 (x0 := 1) (x1 := 167) (zat_w (k := 83) (p := 13) (w := zw_cL_law_83) zw_cL_law_ok rfl (by decide +kernel)) (by decide +kernel)
theorem dL_law_1344 : decode cL_law 1344 = .ok (.aload_n 1, 1) := zr0 zk_43 (zat_w (k := 84) (p := 0) (w := zw_cL_law_84) zw_cL_law_ok rfl (by decide +kernel))
theorem dL_law_1345 : decode cL_law 1345 = .ok (.aload_n 0, 1) := zr0 zk_42 (zat_w (k := 84) (p := 1) (w := zw_cL_law_84) zw_cL_law_ok rfl (by decide +kernel))
theorem dL_law_1346 : decode cL_law 1346 = .ok (.iload_n 3, 1) := zr0 zk_29 (zat_w (k := 84) (p := 2) (w := zw_cL_law_84) zw_cL_law_ok rfl (by decide +kernel))
theorem dL_law_1347 : decode cL_law 1347 = .ok (.iconst 1, 1) := zr0 zk_4 (zat_w (k := 84) (p := 3) (w := zw_cL_law_84) zw_cL_law_ok rfl (by decide +kernel))
theorem dL_law_1348 : decode cL_law 1348 = .ok (.iadd, 1) := zr0 zk_96 (zat_w (k := 84) (p := 4) (w := zw_cL_law_84) zw_cL_law_ok rfl (by decide +kernel))
theorem dL_law_1349 : decode cL_law 1349 = .ok (.iaload, 1) := zr0 zk_46 (zat_w (k := 84) (p := 5) (w := zw_cL_law_84) zw_cL_law_ok rfl (by decide +kernel))
theorem dL_law_1350 : decode cL_law 1350 = .ok (.aload_n 0, 1) := zr0 zk_42 (zat_w (k := 84) (p := 6) (w := zw_cL_law_84) zw_cL_law_ok rfl (by decide +kernel))
theorem dL_law_1351 : decode cL_law 1351 = .ok (.iload_n 3, 1) := zr0 zk_29 (zat_w (k := 84) (p := 7) (w := zw_cL_law_84) zw_cL_law_ok rfl (by decide +kernel))
theorem dL_law_1352 : decode cL_law 1352 = .ok (.iconst 2, 1) := zr0 zk_5 (zat_w (k := 84) (p := 8) (w := zw_cL_law_84) zw_cL_law_ok rfl (by decide +kernel))
theorem dL_law_1353 : decode cL_law 1353 = .ok (.iadd, 1) := zr0 zk_96 (zat_w (k := 84) (p := 9) (w := zw_cL_law_84) zw_cL_law_ok rfl (by decide +kernel))
theorem dL_law_1354 : decode cL_law 1354 = .ok (.iaload, 1) := zr0 zk_46 (zat_w (k := 84) (p := 10) (w := zw_cL_law_84) zw_cL_law_ok rfl (by decide +kernel))
theorem dL_law_1355 : decode cL_law 1355 = .ok (.aload_n 0, 1) := zr0 zk_42 (zat_w (k := 84) (p := 11) (w := zw_cL_law_84) zw_cL_law_ok rfl (by decide +kernel))
theorem dL_law_1356 : decode cL_law 1356 = .ok (.iload_n 3, 1) := zr0 zk_29 (zat_w (k := 84) (p := 12) (w := zw_cL_law_84) zw_cL_law_ok rfl (by decide +kernel))
theorem dL_law_1357 : decode cL_law 1357 = .ok (.iconst 3, 1) := zr0 zk_6 (zat_w (k := 84) (p := 13) (w := zw_cL_law_84) zw_cL_law_ok rfl (by decide +kernel))
theorem dL_law_1358 : decode cL_law 1358 = .ok (.iadd, 1) := zr0 zk_96 (zat_w (k := 84) (p := 14) (w := zw_cL_law_84) zw_cL_law_ok rfl (by decide +kernel))
theorem dL_law_1359 : decode cL_law 1359 = .ok (.iaload, 1) := zr0 zk_46 (zat_w (k := 84) (p := 15) (w := zw_cL_law_84) zw_cL_law_ok rfl (by decide +kernel))
theorem dL_law_1360 : decode cL_law 1360 = .ok (.aload_n 0, 1) := zr0 zk_42 (zat_w (k := 85) (p := 0) (w := zw_cL_law_85) zw_cL_law_ok rfl (by decide +kernel))
theorem dL_law_1361 : decode cL_law 1361 = .ok (.iload_n 3, 1) := zr0 zk_29 (zat_w (k := 85) (p := 1) (w := zw_cL_law_85) zw_cL_law_ok rfl (by decide +kernel))
theorem dL_law_1362 : decode cL_law 1362 = .ok (.iconst 4, 1) := zr0 zk_7 (zat_w (k := 85) (p := 2) (w := zw_cL_law_85) zw_cL_law_ok rfl (by decide +kernel))
theorem dL_law_1363 : decode cL_law 1363 = .ok (.iadd, 1) := zr0 zk_96 (zat_w (k := 85) (p := 3) (w := zw_cL_law_85) zw_cL_law_ok rfl (by decide +kernel))
theorem dL_law_1364 : decode cL_law 1364 = .ok (.iaload, 1) := zr0 zk_46 (zat_w (k := 85) (p := 4) (w := zw_cL_law_85) zw_cL_law_ok rfl (by decide +kernel))
theorem dL_law_1365 : decode cL_law 1365 = .ok (.invokevirtual 149, 3) := zr2u zk_182 (x0 := 0) (x1 := 149) (zat_w (k := 85) (p := 5) (w := zw_cL_law_85) zw_cL_law_ok rfl (by decide +kernel)) (by decide +kernel)
theorem dL_law_1368 : decode cL_law 1368 = .ok (.pop, 1) := zr0 zk_87 (zat_w (k := 85) (p := 8) (w := zw_cL_law_85) zw_cL_law_ok rfl (by decide +kernel))
theorem dL_law_1369 : decode cL_law 1369 = .ok (.aload_n 2, 1) := zr0 zk_44 (zat_w (k := 85) (p := 9) (w := zw_cL_law_85) zw_cL_law_ok rfl (by decide +kernel))
theorem dL_law_1370 : decode cL_law 1370 = .ok (.aload_n 0, 1) := zr0 zk_42 (zat_w (k := 85) (p := 10) (w := zw_cL_law_85) zw_cL_law_ok rfl (by decide +kernel))
theorem dL_law_1371 : decode cL_law 1371 = .ok (.iload_n 3, 1) := zr0 zk_29 (zat_w (k := 85) (p := 11) (w := zw_cL_law_85) zw_cL_law_ok rfl (by decide +kernel))
theorem dL_law_1372 : decode cL_law 1372 = .ok (.iconst 1, 1) := zr0 zk_4 (zat_w (k := 85) (p := 12) (w := zw_cL_law_85) zw_cL_law_ok rfl (by decide +kernel))
theorem dL_law_1373 : decode cL_law 1373 = .ok (.iadd, 1) := zr0 zk_96 (zat_w (k := 85) (p := 13) (w := zw_cL_law_85) zw_cL_law_ok rfl (by decide +kernel))
theorem dL_law_1374 : decode cL_law 1374 = .ok (.iaload, 1) := zr0 zk_46 (zat_w (k := 85) (p := 14) (w := zw_cL_law_85) zw_cL_law_ok rfl (by decide +kernel))
theorem dL_law_1375 : decode cL_law 1375 = .ok (.aload_n 0, 1) := zr0 zk_42 (zat_w (k := 85) (p := 15) (w := zw_cL_law_85) zw_cL_law_ok rfl (by decide +kernel))
theorem dL_law_1376 : decode cL_law 1376 = .ok (.iload_n 3, 1) := zr0 zk_29 (zat_w (k := 86) (p := 0) (w := zw_cL_law_86) zw_cL_law_ok rfl (by decide +kernel))
theorem dL_law_1377 : decode cL_law 1377 = .ok (.iconst 2, 1) := zr0 zk_5 (zat_w (k := 86) (p := 1) (w := zw_cL_law_86) zw_cL_law_ok rfl (by decide +kernel))
theorem dL_law_1378 : decode cL_law 1378 = .ok (.iadd, 1) := zr0 zk_96 (zat_w (k := 86) (p := 2) (w := zw_cL_law_86) zw_cL_law_ok rfl (by decide +kernel))
theorem dL_law_1379 : decode cL_law 1379 = .ok (.iaload, 1) := zr0 zk_46 (zat_w (k := 86) (p := 3) (w := zw_cL_law_86) zw_cL_law_ok rfl (by decide +kernel))
theorem dL_law_1380 : decode cL_law 1380 = .ok (.aload_n 0, 1) := zr0 zk_42 (zat_w (k := 86) (p := 4) (w := zw_cL_law_86) zw_cL_law_ok rfl (by decide +kernel))
theorem dL_law_1381 : decode cL_law 1381 = .ok (.iload_n 3, 1) := zr0 zk_29 (zat_w (k := 86) (p := 5) (w := zw_cL_law_86) zw_cL_law_ok rfl (by decide +kernel))
theorem dL_law_1382 : decode cL_law 1382 = .ok (.iconst 3, 1) := zr0 zk_6 (zat_w (k := 86) (p := 6) (w := zw_cL_law_86) zw_cL_law_ok rfl (by decide +kernel))
theorem dL_law_1383 : decode cL_law 1383 = .ok (.iadd, 1) := zr0 zk_96 (zat_w (k := 86) (p := 7) (w := zw_cL_law_86) zw_cL_law_ok rfl (by decide +kernel))
theorem dL_law_1384 : decode cL_law 1384 = .ok (.iaload, 1) := zr0 zk_46 (zat_w (k := 86) (p := 8) (w := zw_cL_law_86) zw_cL_law_ok rfl (by decide +kernel))
theorem dL_law_1385 : decode cL_law 1385 = .ok (.aload_n 0, 1) := zr0 zk_42 (zat_w (k := 86) (p := 9) (w := zw_cL_law_86) zw_cL_law_ok rfl (by decide +kernel))
theorem dL_law_1386 : decode cL_law 1386 = .ok (.iload_n 3, 1) := zr0 zk_29 (zat_w (k := 86) (p := 10) (w := zw_cL_law_86) zw_cL_law_ok rfl (by decide +kernel))
theorem dL_law_1387 : decode cL_law 1387 = .ok (.iconst 4, 1) := zr0 zk_7 (zat_w (k := 86) (p := 11) (w := zw_cL_law_86) zw_cL_law_ok rfl (by decide +kernel))
theorem dL_law_1388 : decode cL_law 1388 = .ok (.iadd, 1) := zr0 zk_96 (zat_w (k := 86) (p := 12) (w := zw_cL_law_86) zw_cL_law_ok rfl (by decide +kernel))
theorem dL_law_1389 : decode cL_law 1389 = .ok (.iaload, 1) := zr0 zk_46 (zat_w (k := 86) (p := 13) (w := zw_cL_law_86) zw_cL_law_ok rfl (by decide +kernel))
theorem dL_law_1390 : decode cL_law 1390 = .ok (.invokevirtual 152, 3) := zr2u zk_182 (x0 := 0) (x1 := 152) (zat_w (k := 86) (p := 14) (w := zw_cL_law_86) zw_cL_law_ok rfl (by decide +kernel)) (by decide +kernel)
theorem dL_law_1393 : decode cL_law 1393 = .ok (.pop, 1) := zr0 zk_87 (zat_w (k := 87) (p := 1) (w := zw_cL_law_87) zw_cL_law_ok rfl (by decide +kernel))
theorem dL_law_1394 : decode cL_law 1394 = .ok (.goto 370, 3) := zr2s zk_167 (x0 := 1) (x1 := 114) (zat_w (k := 87) (p := 2) (w := zw_cL_law_87) zw_cL_law_ok rfl (by decide +kernel)) (by decide +kernel)
theorem dL_law_1397 : decode cL_law 1397 = .ok (.aload_n 1, 1) := zr0 zk_43 (zat_w (k := 87) (p := 5) (w := zw_cL_law_87) zw_cL_law_ok rfl (by decide +kernel))
theorem dL_law_1398 : decode cL_law 1398 = .ok (.aload_n 0, 1) := zr0 zk_42 (zat_w (k := 87) (p := 6) (w := zw_cL_law_87) zw_cL_law_ok rfl (by decide +kernel))
theorem dL_law_1399 : decode cL_law 1399 = .ok (.iload_n 3, 1) := zr0 zk_29 (zat_w (k := 87) (p := 7) (w := zw_cL_law_87) zw_cL_law_ok rfl (by decide +kernel))
theorem dL_law_1400 : decode cL_law 1400 = .ok (.iconst 1, 1) := zr0 zk_4 (zat_w (k := 87) (p := 8) (w := zw_cL_law_87) zw_cL_law_ok rfl (by decide +kernel))
theorem dL_law_1401 : decode cL_law 1401 = .ok (.iadd, 1) := zr0 zk_96 (zat_w (k := 87) (p := 9) (w := zw_cL_law_87) zw_cL_law_ok rfl (by decide +kernel))
theorem dL_law_1402 : decode cL_law 1402 = .ok (.iaload, 1) := zr0 zk_46 (zat_w (k := 87) (p := 10) (w := zw_cL_law_87) zw_cL_law_ok rfl (by decide +kernel))
theorem dL_law_1403 : decode cL_law 1403 = .ok (.aload_n 0, 1) := zr0 zk_42 (zat_w (k := 87) (p := 11) (w := zw_cL_law_87) zw_cL_law_ok rfl (by decide +kernel))
theorem dL_law_1404 : decode cL_law 1404 = .ok (.iload_n 3, 1) := zr0 zk_29 (zat_w (k := 87) (p := 12) (w := zw_cL_law_87) zw_cL_law_ok rfl (by decide +kernel))
theorem dL_law_1405 : decode cL_law 1405 = .ok (.iconst 2, 1) := zr0 zk_5 (zat_w (k := 87) (p := 13) (w := zw_cL_law_87) zw_cL_law_ok rfl (by decide +kernel))
theorem dL_law_1406 : decode cL_law 1406 = .ok (.iadd, 1) := zr0 zk_96 (zat_w (k := 87) (p := 14) (w := zw_cL_law_87) zw_cL_law_ok rfl (by decide +kernel))
theorem dL_law_1407 : decode cL_law 1407 = .ok (.iaload, 1) := zr0 zk_46 (zat_w (k := 87) (p := 15) (w := zw_cL_law_87) zw_cL_law_ok rfl (by decide +kernel))
theorem dL_law_1408 : decode cL_law 1408 = .ok (.aload_n 0, 1) := zr0 zk_42 (zat_w (k := 88) (p := 0) (w := zw_cL_law_88) zw_cL_law_ok rfl (by decide +kernel))
theorem dL_law_1409 : decode cL_law 1409 = .ok (.iload_n 3, 1) := zr0 zk_29 (zat_w (k := 88) (p := 1) (w := zw_cL_law_88) zw_cL_law_ok rfl (by decide +kernel))
theorem dL_law_1410 : decode cL_law 1410 = .ok (.iconst 3, 1) := zr0 zk_6 (zat_w (k := 88) (p := 2) (w := zw_cL_law_88) zw_cL_law_ok rfl (by decide +kernel))
theorem dL_law_1411 : decode cL_law 1411 = .ok (.iadd, 1) := zr0 zk_96 (zat_w (k := 88) (p := 3) (w := zw_cL_law_88) zw_cL_law_ok rfl (by decide +kernel))
theorem dL_law_1412 : decode cL_law 1412 = .ok (.iaload, 1) := zr0 zk_46 (zat_w (k := 88) (p := 4) (w := zw_cL_law_88) zw_cL_law_ok rfl (by decide +kernel))
theorem dL_law_1413 : decode cL_law 1413 = .ok (.invokevirtual 153, 3) := zr2u zk_182 (x0 := 0) (x1 := 153) (zat_w (k := 88) (p := 5) (w := zw_cL_law_88) zw_cL_law_ok rfl (by decide +kernel)) (by decide +kernel)
theorem dL_law_1416 : decode cL_law 1416 = .ok (.pop2, 1) := zr0 zk_88 (zat_w (k := 88) (p := 8) (w := zw_cL_law_88) zw_cL_law_ok rfl (by decide +kernel))
theorem dL_law_1417 : decode cL_law 1417 = .ok (.aload_n 2, 1) := zr0 zk_44 (zat_w (k := 88) (p := 9) (w := zw_cL_law_88) zw_cL_law_ok rfl (by decide +kernel))
theorem dL_law_1418 : decode cL_law 1418 = .ok (.aload_n 0, 1) := zr0 zk_42 (zat_w (k := 88) (p := 10) (w := zw_cL_law_88) zw_cL_law_ok rfl (by decide +kernel))
theorem dL_law_1419 : decode cL_law 1419 = .ok (.iload_n 3, 1) := zr0 zk_29 (zat_w (k := 88) (p := 11) (w := zw_cL_law_88) zw_cL_law_ok rfl (by decide +kernel))
theorem dL_law_1420 : decode cL_law 1420 = .ok (.iconst 1, 1) := zr0 zk_4 (zat_w (k := 88) (p := 12) (w := zw_cL_law_88) zw_cL_law_ok rfl (by decide +kernel))
theorem dL_law_1421 : decode cL_law 1421 = .ok (.iadd, 1) := zr0 zk_96 (zat_w (k := 88) (p := 13) (w := zw_cL_law_88) zw_cL_law_ok rfl (by decide +kernel))
theorem dL_law_1422 : decode cL_law 1422 = .ok (.iaload, 1) := zr0 zk_46 (zat_w (k := 88) (p := 14) (w := zw_cL_law_88) zw_cL_law_ok rfl (by decide +kernel))
theorem dL_law_1423 : decode cL_law 1423 = .ok (.aload_n 0, 1) := zr0 zk_42 (zat_w (k := 88) (p := 15) (w := zw_cL_law_88) zw_cL_law_ok rfl (by decide +kernel))
theorem dL_law_1424 : decode cL_law 1424 = .ok (.iload_n 3, 1) := zr0 zk_29 (zat_w (k := 89) (p := 0) (w := zw_cL_law_89) zw_cL_law_ok rfl (by decide +kernel))
theorem dL_law_1425 : decode cL_law 1425 = .ok (.iconst 2, 1) := zr0 zk_5 (zat_w (k := 89) (p := 1) (w := zw_cL_law_89) zw_cL_law_ok rfl (by decide +kernel))
theorem dL_law_1426 : decode cL_law 1426 = .ok (.iadd, 1) := zr0 zk_96 (zat_w (k := 89) (p := 2) (w := zw_cL_law_89) zw_cL_law_ok rfl (by decide +kernel))
theorem dL_law_1427 : decode cL_law 1427 = .ok (.iaload, 1) := zr0 zk_46 (zat_w (k := 89) (p := 3) (w := zw_cL_law_89) zw_cL_law_ok rfl (by decide +kernel))
theorem dL_law_1428 : decode cL_law 1428 = .ok (.aload_n 0, 1) := zr0 zk_42 (zat_w (k := 89) (p := 4) (w := zw_cL_law_89) zw_cL_law_ok rfl (by decide +kernel))
theorem dL_law_1429 : decode cL_law 1429 = .ok (.iload_n 3, 1) := zr0 zk_29 (zat_w (k := 89) (p := 5) (w := zw_cL_law_89) zw_cL_law_ok rfl (by decide +kernel))
theorem dL_law_1430 : decode cL_law 1430 = .ok (.iconst 3, 1) := zr0 zk_6 (zat_w (k := 89) (p := 6) (w := zw_cL_law_89) zw_cL_law_ok rfl (by decide +kernel))
theorem dL_law_1431 : decode cL_law 1431 = .ok (.iadd, 1) := zr0 zk_96 (zat_w (k := 89) (p := 7) (w := zw_cL_law_89) zw_cL_law_ok rfl (by decide +kernel))
theorem dL_law_1432 : decode cL_law 1432 = .ok (.iaload, 1) := zr0 zk_46 (zat_w (k := 89) (p := 8) (w := zw_cL_law_89) zw_cL_law_ok rfl (by decide +kernel))
theorem dL_law_1433 : decode cL_law 1433 = .ok (.invokevirtual 156, 3) := zr2u zk_182 (x0 := 0) (x1 := 156) (zat_w (k := 89) (p := 9) (w := zw_cL_law_89) zw_cL_law_ok rfl (by decide +kernel)) (by decide +kernel)
theorem dL_law_1436 : decode cL_law 1436 = .ok (.pop2, 1) := zr0 zk_88 (zat_w (k := 89) (p := 12) (w := zw_cL_law_89) zw_cL_law_ok rfl (by decide +kernel))
theorem dL_law_1437 : decode cL_law 1437 = .ok (.goto 327, 3) := zr2s zk_167 (x0 := 1) (x1 := 71) (zat_w (k := 89) (p := 13) (w := zw_cL_law_89) zw_cL_law_ok rfl (by decide +kernel)) (by decide +kernel)
theorem dL_law_1440 : decode cL_law 1440 = .ok (.aload_n 1, 1) := zr0 zk_43 (zat_w (k := 90) (p := 0) (w := zw_cL_law_90) zw_cL_law_ok rfl (by decide +kernel))
theorem dL_law_1441 : decode cL_law 1441 = .ok (.aload_n 0, 1) := zr0 zk_42 (zat_w (k := 90) (p := 1) (w := zw_cL_law_90) zw_cL_law_ok rfl (by decide +kernel))
theorem dL_law_1442 : decode cL_law 1442 = .ok (.iload_n 3, 1) := zr0 zk_29 (zat_w (k := 90) (p := 2) (w := zw_cL_law_90) zw_cL_law_ok rfl (by decide +kernel))
theorem dL_law_1443 : decode cL_law 1443 = .ok (.iconst 1, 1) := zr0 zk_4 (zat_w (k := 90) (p := 3) (w := zw_cL_law_90) zw_cL_law_ok rfl (by decide +kernel))
theorem dL_law_1444 : decode cL_law 1444 = .ok (.iadd, 1) := zr0 zk_96 (zat_w (k := 90) (p := 4) (w := zw_cL_law_90) zw_cL_law_ok rfl (by decide +kernel))
theorem dL_law_1445 : decode cL_law 1445 = .ok (.iaload, 1) := zr0 zk_46 (zat_w (k := 90) (p := 5) (w := zw_cL_law_90) zw_cL_law_ok rfl (by decide +kernel))
theorem dL_law_1446 : decode cL_law 1446 = .ok (.aload_n 0, 1) := zr0 zk_42 (zat_w (k := 90) (p := 6) (w := zw_cL_law_90) zw_cL_law_ok rfl (by decide +kernel))
theorem dL_law_1447 : decode cL_law 1447 = .ok (.iload_n 3, 1) := zr0 zk_29 (zat_w (k := 90) (p := 7) (w := zw_cL_law_90) zw_cL_law_ok rfl (by decide +kernel))
theorem dL_law_1448 : decode cL_law 1448 = .ok (.iconst 2, 1) := zr0 zk_5 (zat_w (k := 90) (p := 8) (w := zw_cL_law_90) zw_cL_law_ok rfl (by decide +kernel))
theorem dL_law_1449 : decode cL_law 1449 = .ok (.iadd, 1) := zr0 zk_96 (zat_w (k := 90) (p := 9) (w := zw_cL_law_90) zw_cL_law_ok rfl (by decide +kernel))
theorem dL_law_1450 : decode cL_law 1450 = .ok (.iaload, 1) := zr0 zk_46 (zat_w (k := 90) (p := 10) (w := zw_cL_law_90) zw_cL_law_ok rfl (by decide +kernel))
theorem dL_law_1451 : decode cL_law 1451 = .ok (.aload_n 0, 1) := zr0 zk_42 (zat_w (k := 90) (p := 11) (w := zw_cL_law_90) zw_cL_law_ok rfl (by decide +kernel))
theorem dL_law_1452 : decode cL_law 1452 = .ok (.iload_n 3, 1) := zr0 zk_29 (zat_w (k := 90) (p := 12) (w := zw_cL_law_90) zw_cL_law_ok rfl (by decide +kernel))
theorem dL_law_1453 : decode cL_law 1453 = .ok (.iconst 3, 1) := zr0 zk_6 (zat_w (k := 90) (p := 13) (w := zw_cL_law_90) zw_cL_law_ok rfl (by decide +kernel))
theorem dL_law_1454 : decode cL_law 1454 = .ok (.iadd, 1) := zr0 zk_96 (zat_w (k := 90) (p := 14) (w := zw_cL_law_90) zw_cL_law_ok rfl (by decide +kernel))
theorem dL_law_1455 : decode cL_law 1455 = .ok (.iaload, 1) := zr0 zk_46 (zat_w (k := 90) (p := 15) (w := zw_cL_law_90) zw_cL_law_ok rfl (by decide +kernel))
theorem dL_law_1456 : decode cL_law 1456 = .ok (.aload_n 0, 1) := zr0 zk_42 (zat_w (k := 91) (p := 0) (w := zw_cL_law_91) zw_cL_law_ok rfl (by decide +kernel))
theorem dL_law_1457 : decode cL_law 1457 = .ok (.iload_n 3, 1) := zr0 zk_29 (zat_w (k := 91) (p := 1) (w := zw_cL_law_91) zw_cL_law_ok rfl (by decide +kernel))
theorem dL_law_1458 : decode cL_law 1458 = .ok (.iconst 4, 1) := zr0 zk_7 (zat_w (k := 91) (p := 2) (w := zw_cL_law_91) zw_cL_law_ok rfl (by decide +kernel))
theorem dL_law_1459 : decode cL_law 1459 = .ok (.iadd, 1) := zr0 zk_96 (zat_w (k := 91) (p := 3) (w := zw_cL_law_91) zw_cL_law_ok rfl (by decide +kernel))
theorem dL_law_1460 : decode cL_law 1460 = .ok (.iaload, 1) := zr0 zk_46 (zat_w (k := 91) (p := 4) (w := zw_cL_law_91) zw_cL_law_ok rfl (by decide +kernel))
theorem dL_law_1461 : decode cL_law 1461 = .ok (.aload_n 0, 1) := zr0 zk_42 (zat_w (k := 91) (p := 5) (w := zw_cL_law_91) zw_cL_law_ok rfl (by decide +kernel))
theorem dL_law_1462 : decode cL_law 1462 = .ok (.iload_n 3, 1) := zr0 zk_29 (zat_w (k := 91) (p := 6) (w := zw_cL_law_91) zw_cL_law_ok rfl (by decide +kernel))
theorem dL_law_1463 : decode cL_law 1463 = .ok (.iconst 5, 1) := zr0 zk_8 (zat_w (k := 91) (p := 7) (w := zw_cL_law_91) zw_cL_law_ok rfl (by decide +kernel))
theorem dL_law_1464 : decode cL_law 1464 = .ok (.iadd, 1) := zr0 zk_96 (zat_w (k := 91) (p := 8) (w := zw_cL_law_91) zw_cL_law_ok rfl (by decide +kernel))
theorem dL_law_1465 : decode cL_law 1465 = .ok (.iaload, 1) := zr0 zk_46 (zat_w (k := 91) (p := 9) (w := zw_cL_law_91) zw_cL_law_ok rfl (by decide +kernel))
theorem dL_law_1466 : decode cL_law 1466 = .ok (.invokevirtual 157, 3) := zr2u zk_182 (x0 := 0) (x1 := 157) (zat_w (k := 91) (p := 10) (w := zw_cL_law_91) zw_cL_law_ok rfl (by decide +kernel)) (by decide +kernel)
theorem dL_law_1469 : decode cL_law 1469 = .ok (.pop2, 1) := zr0 zk_88 (zat_w (k := 91) (p := 13) (w := zw_cL_law_91) zw_cL_law_ok rfl (by decide +kernel))
theorem dL_law_1470 : decode cL_law 1470 = .ok (.aload_n 2, 1) := zr0 zk_44 (zat_w (k := 91) (p := 14) (w := zw_cL_law_91) zw_cL_law_ok rfl (by decide +kernel))
theorem dL_law_1471 : decode cL_law 1471 = .ok (.aload_n 0, 1) := zr0 zk_42 (zat_w (k := 91) (p := 15) (w := zw_cL_law_91) zw_cL_law_ok rfl (by decide +kernel))
theorem dL_law_1472 : decode cL_law 1472 = .ok (.iload_n 3, 1) := zr0 zk_29 (zat_w (k := 92) (p := 0) (w := zw_cL_law_92) zw_cL_law_ok rfl (by decide +kernel))
theorem dL_law_1473 : decode cL_law 1473 = .ok (.iconst 1, 1) := zr0 zk_4 (zat_w (k := 92) (p := 1) (w := zw_cL_law_92) zw_cL_law_ok rfl (by decide +kernel))
theorem dL_law_1474 : decode cL_law 1474 = .ok (.iadd, 1) := zr0 zk_96 (zat_w (k := 92) (p := 2) (w := zw_cL_law_92) zw_cL_law_ok rfl (by decide +kernel))
theorem dL_law_1475 : decode cL_law 1475 = .ok (.iaload, 1) := zr0 zk_46 (zat_w (k := 92) (p := 3) (w := zw_cL_law_92) zw_cL_law_ok rfl (by decide +kernel))
theorem dL_law_1476 : decode cL_law 1476 = .ok (.aload_n 0, 1) := zr0 zk_42 (zat_w (k := 92) (p := 4) (w := zw_cL_law_92) zw_cL_law_ok rfl (by decide +kernel))
theorem dL_law_1477 : decode cL_law 1477 = .ok (.iload_n 3, 1) := zr0 zk_29 (zat_w (k := 92) (p := 5) (w := zw_cL_law_92) zw_cL_law_ok rfl (by decide +kernel))
theorem dL_law_1478 : decode cL_law 1478 = .ok (.iconst 2, 1) := zr0 zk_5 (zat_w (k := 92) (p := 6) (w := zw_cL_law_92) zw_cL_law_ok rfl (by decide +kernel))
theorem dL_law_1479 : decode cL_law 1479 = .ok (.iadd, 1) := zr0 zk_96 (zat_w (k := 92) (p := 7) (w := zw_cL_law_92) zw_cL_law_ok rfl (by decide +kernel))
theorem dL_law_1480 : decode cL_law 1480 = .ok (.iaload, 1) := zr0 zk_46 (zat_w (k := 92) (p := 8) (w := zw_cL_law_92) zw_cL_law_ok rfl (by decide +kernel))
theorem dL_law_1481 : decode cL_law 1481 = .ok (.aload_n 0, 1) := zr0 zk_42 (zat_w (k := 92) (p := 9) (w := zw_cL_law_92) zw_cL_law_ok rfl (by decide +kernel))
theorem dL_law_1482 : decode cL_law 1482 = .ok (.iload_n 3, 1) := zr0 zk_29 (zat_w (k := 92) (p := 10) (w := zw_cL_law_92) zw_cL_law_ok rfl (by decide +kernel))
theorem dL_law_1483 : decode cL_law 1483 = .ok (.iconst 3, 1) := zr0 zk_6 (zat_w (k := 92) (p := 11) (w := zw_cL_law_92) zw_cL_law_ok rfl (by decide +kernel))
theorem dL_law_1484 : decode cL_law 1484 = .ok (.iadd, 1) := zr0 zk_96 (zat_w (k := 92) (p := 12) (w := zw_cL_law_92) zw_cL_law_ok rfl (by decide +kernel))
theorem dL_law_1485 : decode cL_law 1485 = .ok (.iaload, 1) := zr0 zk_46 (zat_w (k := 92) (p := 13) (w := zw_cL_law_92) zw_cL_law_ok rfl (by decide +kernel))
theorem dL_law_1486 : decode cL_law 1486 = .ok (.aload_n 0, 1) := zr0 zk_42 (zat_w (k := 92) (p := 14) (w := zw_cL_law_92) zw_cL_law_ok rfl (by decide +kernel))
theorem dL_law_1487 : decode cL_law 1487 = .ok (.iload_n 3, 1) := zr0 zk_29 (zat_w (k := 92) (p := 15) (w := zw_cL_law_92) zw_cL_law_ok rfl (by decide +kernel))
theorem dL_law_1488 : decode cL_law 1488 = .ok (.iconst 4, 1) := zr0 zk_7 (zat_w (k := 93) (p := 0) (w := zw_cL_law_93) zw_cL_law_ok rfl (by decide +kernel))
theorem dL_law_1489 : decode cL_law 1489 = .ok (.iadd, 1) := zr0 zk_96 (zat_w (k := 93) (p := 1) (w := zw_cL_law_93) zw_cL_law_ok rfl (by decide +kernel))
theorem dL_law_1490 : decode cL_law 1490 = .ok (.iaload, 1) := zr0 zk_46 (zat_w (k := 93) (p := 2) (w := zw_cL_law_93) zw_cL_law_ok rfl (by decide +kernel))
theorem dL_law_1491 : decode cL_law 1491 = .ok (.aload_n 0, 1) := zr0 zk_42 (zat_w (k := 93) (p := 3) (w := zw_cL_law_93) zw_cL_law_ok rfl (by decide +kernel))
theorem dL_law_1492 : decode cL_law 1492 = .ok (.iload_n 3, 1) := zr0 zk_29 (zat_w (k := 93) (p := 4) (w := zw_cL_law_93) zw_cL_law_ok rfl (by decide +kernel))
theorem dL_law_1493 : decode cL_law 1493 = .ok (.iconst 5, 1) := zr0 zk_8 (zat_w (k := 93) (p := 5) (w := zw_cL_law_93) zw_cL_law_ok rfl (by decide +kernel))
theorem dL_law_1494 : decode cL_law 1494 = .ok (.iadd, 1) := zr0 zk_96 (zat_w (k := 93) (p := 6) (w := zw_cL_law_93) zw_cL_law_ok rfl (by decide +kernel))
theorem dL_law_1495 : decode cL_law 1495 = .ok (.iaload, 1) := zr0 zk_46 (zat_w (k := 93) (p := 7) (w := zw_cL_law_93) zw_cL_law_ok rfl (by decide +kernel))
theorem dL_law_1496 : decode cL_law 1496 = .ok (.invokevirtual 161, 3) := zr2u zk_182 (x0 := 0) (x1 := 161) (zat_w (k := 93) (p := 8) (w := zw_cL_law_93) zw_cL_law_ok rfl (by decide +kernel)) (by decide +kernel)
theorem dL_law_1499 : decode cL_law 1499 = .ok (.pop2, 1) := zr0 zk_88 (zat_w (k := 93) (p := 11) (w := zw_cL_law_93) zw_cL_law_ok rfl (by decide +kernel))
theorem dL_law_1500 : decode cL_law 1500 = .ok (.goto 264, 3) := zr2s zk_167 (x0 := 1) (x1 := 8) (zat_w (k := 93) (p := 12) (w := zw_cL_law_93) zw_cL_law_ok rfl (by decide +kernel)) (by decide +kernel)
theorem dL_law_1503 : decode cL_law 1503 = .ok (.aload_n 1, 1) := zr0 zk_43 (zat_w (k := 93) (p := 15) (w := zw_cL_law_93) zw_cL_law_ok rfl (by decide +kernel))
theorem dL_law_1504 : decode cL_law 1504 = .ok (.invokevirtual 162, 3) := zr2u zk_182 (x0 := 0) (x1 := 162) (zat_w (k := 94) (p := 0) (w := zw_cL_law_94) zw_cL_law_ok rfl (by decide +kernel)) (by decide +kernel)
theorem dL_law_1507 : decode cL_law 1507 = .ok (.pop, 1) := zr0 zk_87 (zat_w (k := 94) (p := 3) (w := zw_cL_law_94) zw_cL_law_ok rfl (by decide +kernel))
theorem dL_law_1508 : decode cL_law 1508 = .ok (.aload_n 2, 1) := zr0 zk_44 (zat_w (k := 94) (p := 4) (w := zw_cL_law_94) zw_cL_law_ok rfl (by decide +kernel))
theorem dL_law_1509 : decode cL_law 1509 = .ok (.invokevirtual 165, 3) := zr2u zk_182 (x0 := 0) (x1 := 165) (zat_w (k := 94) (p := 5) (w := zw_cL_law_94) zw_cL_law_ok rfl (by decide +kernel)) (by decide +kernel)
theorem dL_law_1512 : decode cL_law 1512 = .ok (.pop, 1) := zr0 zk_87 (zat_w (k := 94) (p := 8) (w := zw_cL_law_94) zw_cL_law_ok rfl (by decide +kernel))
theorem dL_law_1513 : decode cL_law 1513 = .ok (.goto 251, 3) := zr2s zk_167 (x0 := 0) (x1 := 251) (zat_w (k := 94) (p := 9) (w := zw_cL_law_94) zw_cL_law_ok rfl (by decide +kernel)) (by decide +kernel)
theorem dL_law_1516 : decode cL_law 1516 = .ok (.aload_n 1, 1) := zr0 zk_43 (zat_w (k := 94) (p := 12) (w := zw_cL_law_94) zw_cL_law_ok rfl (by decide +kernel))
theorem dL_law_1517 : decode cL_law 1517 = .ok (.invokevirtual 166, 3) := zr2u zk_182 (x0 := 0) (x1 := 166) (zat_w (k := 94) (p := 13) (w := zw_cL_law_94) zw_cL_law_ok rfl (by decide +kernel)) (by decide +kernel)
theorem dL_law_1520 : decode cL_law 1520 = .ok (.pop, 1) := zr0 zk_87 (zat_w (k := 95) (p := 0) (w := zw_cL_law_95) zw_cL_law_ok rfl (by decide +kernel))
theorem dL_law_1521 : decode cL_law 1521 = .ok (.aload_n 2, 1) := zr0 zk_44 (zat_w (k := 95) (p := 1) (w := zw_cL_law_95) zw_cL_law_ok rfl (by decide +kernel))
theorem dL_law_1522 : decode cL_law 1522 = .ok (.invokevirtual 169, 3) := zr2u zk_182 (x0 := 0) (x1 := 169) (zat_w (k := 95) (p := 2) (w := zw_cL_law_95) zw_cL_law_ok rfl (by decide +kernel)) (by decide +kernel)
theorem dL_law_1525 : decode cL_law 1525 = .ok (.pop, 1) := zr0 zk_87 (zat_w (k := 95) (p := 5) (w := zw_cL_law_95) zw_cL_law_ok rfl (by decide +kernel))
theorem dL_law_1526 : decode cL_law 1526 = .ok (.goto 238, 3) := zr2s zk_167 (x0 := 0) (x1 := 238) (zat_w (k := 95) (p := 6) (w := zw_cL_law_95) zw_cL_law_ok rfl (by decide +kernel)) (by decide +kernel)
theorem dL_law_1529 : decode cL_law 1529 = .ok (.aload_n 1, 1) := zr0 zk_43 (zat_w (k := 95) (p := 9) (w := zw_cL_law_95) zw_cL_law_ok rfl (by decide +kernel))
theorem dL_law_1530 : decode cL_law 1530 = .ok (.aload_n 0, 1) := zr0 zk_42 (zat_w (k := 95) (p := 10) (w := zw_cL_law_95) zw_cL_law_ok rfl (by decide +kernel))
theorem dL_law_1531 : decode cL_law 1531 = .ok (.iload_n 3, 1) := zr0 zk_29 (zat_w (k := 95) (p := 11) (w := zw_cL_law_95) zw_cL_law_ok rfl (by decide +kernel))
theorem dL_law_1532 : decode cL_law 1532 = .ok (.iconst 1, 1) := zr0 zk_4 (zat_w (k := 95) (p := 12) (w := zw_cL_law_95) zw_cL_law_ok rfl (by decide +kernel))
theorem dL_law_1533 : decode cL_law 1533 = .ok (.iadd, 1) := zr0 zk_96 (zat_w (k := 95) (p := 13) (w := zw_cL_law_95) zw_cL_law_ok rfl (by decide +kernel))
theorem dL_law_1534 : decode cL_law 1534 = .ok (.iaload, 1) := zr0 zk_46 (zat_w (k := 95) (p := 14) (w := zw_cL_law_95) zw_cL_law_ok rfl (by decide +kernel))
theorem dL_law_1535 : decode cL_law 1535 = .ok (.aload_n 0, 1) := zr0 zk_42 (zat_w (k := 95) (p := 15) (w := zw_cL_law_95) zw_cL_law_ok rfl (by decide +kernel))
theorem dL_law_1536 : decode cL_law 1536 = .ok (.iload_n 3, 1) := zr0 zk_29 (zat_w (k := 96) (p := 0) (w := zw_cL_law_96) zw_cL_law_ok rfl (by decide +kernel))
theorem dL_law_1537 : decode cL_law 1537 = .ok (.iconst 2, 1) := zr0 zk_5 (zat_w (k := 96) (p := 1) (w := zw_cL_law_96) zw_cL_law_ok rfl (by decide +kernel))
theorem dL_law_1538 : decode cL_law 1538 = .ok (.iadd, 1) := zr0 zk_96 (zat_w (k := 96) (p := 2) (w := zw_cL_law_96) zw_cL_law_ok rfl (by decide +kernel))
theorem dL_law_1539 : decode cL_law 1539 = .ok (.iaload, 1) := zr0 zk_46 (zat_w (k := 96) (p := 3) (w := zw_cL_law_96) zw_cL_law_ok rfl (by decide +kernel))
theorem dL_law_1540 : decode cL_law 1540 = .ok (.aload_n 0, 1) := zr0 zk_42 (zat_w (k := 96) (p := 4) (w := zw_cL_law_96) zw_cL_law_ok rfl (by decide +kernel))
theorem dL_law_1541 : decode cL_law 1541 = .ok (.iload_n 3, 1) := zr0 zk_29 (zat_w (k := 96) (p := 5) (w := zw_cL_law_96) zw_cL_law_ok rfl (by decide +kernel))
theorem dL_law_1542 : decode cL_law 1542 = .ok (.iconst 3, 1) := zr0 zk_6 (zat_w (k := 96) (p := 6) (w := zw_cL_law_96) zw_cL_law_ok rfl (by decide +kernel))
theorem dL_law_1543 : decode cL_law 1543 = .ok (.iadd, 1) := zr0 zk_96 (zat_w (k := 96) (p := 7) (w := zw_cL_law_96) zw_cL_law_ok rfl (by decide +kernel))
theorem dL_law_1544 : decode cL_law 1544 = .ok (.iaload, 1) := zr0 zk_46 (zat_w (k := 96) (p := 8) (w := zw_cL_law_96) zw_cL_law_ok rfl (by decide +kernel))
theorem dL_law_1545 : decode cL_law 1545 = .ok (.invokevirtual 170, 3) := zr2u zk_182 (x0 := 0) (x1 := 170) (zat_w (k := 96) (p := 9) (w := zw_cL_law_96) zw_cL_law_ok rfl (by decide +kernel)) (by decide +kernel)
theorem dL_law_1548 : decode cL_law 1548 = .ok (.pop, 1) := zr0 zk_87 (zat_w (k := 96) (p := 12) (w := zw_cL_law_96) zw_cL_law_ok rfl (by decide +kernel))
theorem dL_law_1549 : decode cL_law 1549 = .ok (.aload_n 2, 1) := zr0 zk_44 (zat_w (k := 96) (p := 13) (w := zw_cL_law_96) zw_cL_law_ok rfl (by decide +kernel))
theorem dL_law_1550 : decode cL_law 1550 = .ok (.aload_n 0, 1) := zr0 zk_42 (zat_w (k := 96) (p := 14) (w := zw_cL_law_96) zw_cL_law_ok rfl (by decide +kernel))
theorem dL_law_1551 : decode cL_law 1551 = .ok (.iload_n 3, 1) := zr0 zk_29 (zat_w (k := 96) (p := 15) (w := zw_cL_law_96) zw_cL_law_ok rfl (by decide +kernel))
theorem dL_law_1552 : decode cL_law 1552 = .ok (.iconst 1, 1) := zr0 zk_4 (zat_w (k := 97) (p := 0) (w := zw_cL_law_97) zw_cL_law_ok rfl (by decide +kernel))
theorem dL_law_1553 : decode cL_law 1553 = .ok (.iadd, 1) := zr0 zk_96 (zat_w (k := 97) (p := 1) (w := zw_cL_law_97) zw_cL_law_ok rfl (by decide +kernel))
theorem dL_law_1554 : decode cL_law 1554 = .ok (.iaload, 1) := zr0 zk_46 (zat_w (k := 97) (p := 2) (w := zw_cL_law_97) zw_cL_law_ok rfl (by decide +kernel))
theorem dL_law_1555 : decode cL_law 1555 = .ok (.aload_n 0, 1) := zr0 zk_42 (zat_w (k := 97) (p := 3) (w := zw_cL_law_97) zw_cL_law_ok rfl (by decide +kernel))
theorem dL_law_1556 : decode cL_law 1556 = .ok (.iload_n 3, 1) := zr0 zk_29 (zat_w (k := 97) (p := 4) (w := zw_cL_law_97) zw_cL_law_ok rfl (by decide +kernel))
theorem dL_law_1557 : decode cL_law 1557 = .ok (.iconst 2, 1) := zr0 zk_5 (zat_w (k := 97) (p := 5) (w := zw_cL_law_97) zw_cL_law_ok rfl (by decide +kernel))
theorem dL_law_1558 : decode cL_law 1558 = .ok (.iadd, 1) := zr0 zk_96 (zat_w (k := 97) (p := 6) (w := zw_cL_law_97) zw_cL_law_ok rfl (by decide +kernel))
theorem dL_law_1559 : decode cL_law 1559 = .ok (.iaload, 1) := zr0 zk_46 (zat_w (k := 97) (p := 7) (w := zw_cL_law_97) zw_cL_law_ok rfl (by decide +kernel))
theorem dL_law_1560 : decode cL_law 1560 = .ok (.aload_n 0, 1) := zr0 zk_42 (zat_w (k := 97) (p := 8) (w := zw_cL_law_97) zw_cL_law_ok rfl (by decide +kernel))
theorem dL_law_1561 : decode cL_law 1561 = .ok (.iload_n 3, 1) := zr0 zk_29 (zat_w (k := 97) (p := 9) (w := zw_cL_law_97) zw_cL_law_ok rfl (by decide +kernel))
theorem dL_law_1562 : decode cL_law 1562 = .ok (.iconst 3, 1) := zr0 zk_6 (zat_w (k := 97) (p := 10) (w := zw_cL_law_97) zw_cL_law_ok rfl (by decide +kernel))
theorem dL_law_1563 : decode cL_law 1563 = .ok (.iadd, 1) := zr0 zk_96 (zat_w (k := 97) (p := 11) (w := zw_cL_law_97) zw_cL_law_ok rfl (by decide +kernel))
theorem dL_law_1564 : decode cL_law 1564 = .ok (.iaload, 1) := zr0 zk_46 (zat_w (k := 97) (p := 12) (w := zw_cL_law_97) zw_cL_law_ok rfl (by decide +kernel))
theorem dL_law_1565 : decode cL_law 1565 = .ok (.invokevirtual 173, 3) := zr2u zk_182 (x0 := 0) (x1 := 173) (zat_w (k := 97) (p := 13) (w := zw_cL_law_97) zw_cL_law_ok rfl (by decide +kernel)) (by decide +kernel)
theorem dL_law_1568 : decode cL_law 1568 = .ok (.pop, 1) := zr0 zk_87 (zat_w (k := 98) (p := 0) (w := zw_cL_law_98) zw_cL_law_ok rfl (by decide +kernel))
theorem dL_law_1569 : decode cL_law 1569 = .ok (.goto 195, 3) := zr2s zk_167 (x0 := 0) (x1 := 195) (zat_w (k := 98) (p := 1) (w := zw_cL_law_98) zw_cL_law_ok rfl (by decide +kernel)) (by decide +kernel)
theorem dL_law_1572 : decode cL_law 1572 = .ok (.aload_n 1, 1) := zr0 zk_43 (zat_w (k := 98) (p := 4) (w := zw_cL_law_98) zw_cL_law_ok rfl (by decide +kernel))
theorem dL_law_1573 : decode cL_law 1573 = .ok (.aload_n 0, 1) := zr0 zk_42 (zat_w (k := 98) (p := 5) (w := zw_cL_law_98) zw_cL_law_ok rfl (by decide +kernel))
theorem dL_law_1574 : decode cL_law 1574 = .ok (.iload_n 3, 1) := zr0 zk_29 (zat_w (k := 98) (p := 6) (w := zw_cL_law_98) zw_cL_law_ok rfl (by decide +kernel))
theorem dL_law_1575 : decode cL_law 1575 = .ok (.iconst 1, 1) := zr0 zk_4 (zat_w (k := 98) (p := 7) (w := zw_cL_law_98) zw_cL_law_ok rfl (by decide +kernel))
theorem dL_law_1576 : decode cL_law 1576 = .ok (.iadd, 1) := zr0 zk_96 (zat_w (k := 98) (p := 8) (w := zw_cL_law_98) zw_cL_law_ok rfl (by decide +kernel))
theorem dL_law_1577 : decode cL_law 1577 = .ok (.iaload, 1) := zr0 zk_46 (zat_w (k := 98) (p := 9) (w := zw_cL_law_98) zw_cL_law_ok rfl (by decide +kernel))
theorem dL_law_1578 : decode cL_law 1578 = .ok (.aload_n 0, 1) := zr0 zk_42 (zat_w (k := 98) (p := 10) (w := zw_cL_law_98) zw_cL_law_ok rfl (by decide +kernel))
theorem dL_law_1579 : decode cL_law 1579 = .ok (.iload_n 3, 1) := zr0 zk_29 (zat_w (k := 98) (p := 11) (w := zw_cL_law_98) zw_cL_law_ok rfl (by decide +kernel))
theorem dL_law_1580 : decode cL_law 1580 = .ok (.iconst 2, 1) := zr0 zk_5 (zat_w (k := 98) (p := 12) (w := zw_cL_law_98) zw_cL_law_ok rfl (by decide +kernel))
theorem dL_law_1581 : decode cL_law 1581 = .ok (.iadd, 1) := zr0 zk_96 (zat_w (k := 98) (p := 13) (w := zw_cL_law_98) zw_cL_law_ok rfl (by decide +kernel))
theorem dL_law_1582 : decode cL_law 1582 = .ok (.iaload, 1) := zr0 zk_46 (zat_w (k := 98) (p := 14) (w := zw_cL_law_98) zw_cL_law_ok rfl (by decide +kernel))
theorem dL_law_1583 : decode cL_law 1583 = .ok (.aload_n 0, 1) := zr0 zk_42 (zat_w (k := 98) (p := 15) (w := zw_cL_law_98) zw_cL_law_ok rfl (by decide +kernel))
theorem dL_law_1584 : decode cL_law 1584 = .ok (.iload_n 3, 1) := zr0 zk_29 (zat_w (k := 99) (p := 0) (w := zw_cL_law_99) zw_cL_law_ok rfl (by decide +kernel))
theorem dL_law_1585 : decode cL_law 1585 = .ok (.iconst 3, 1) := zr0 zk_6 (zat_w (k := 99) (p := 1) (w := zw_cL_law_99) zw_cL_law_ok rfl (by decide +kernel))
theorem dL_law_1586 : decode cL_law 1586 = .ok (.iadd, 1) := zr0 zk_96 (zat_w (k := 99) (p := 2) (w := zw_cL_law_99) zw_cL_law_ok rfl (by decide +kernel))
theorem dL_law_1587 : decode cL_law 1587 = .ok (.iaload, 1) := zr0 zk_46 (zat_w (k := 99) (p := 3) (w := zw_cL_law_99) zw_cL_law_ok rfl (by decide +kernel))
theorem dL_law_1588 : decode cL_law 1588 = .ok (.invokevirtual 174, 3) := zr2u zk_182 (x0 := 0) (x1 := 174) (zat_w (k := 99) (p := 4) (w := zw_cL_law_99) zw_cL_law_ok rfl (by decide +kernel)) (by decide +kernel)
theorem dL_law_1591 : decode cL_law 1591 = .ok (.pop, 1) := zr0 zk_87 (zat_w (k := 99) (p := 7) (w := zw_cL_law_99) zw_cL_law_ok rfl (by decide +kernel))
theorem dL_law_1592 : decode cL_law 1592 = .ok (.aload_n 2, 1) := zr0 zk_44 (zat_w (k := 99) (p := 8) (w := zw_cL_law_99) zw_cL_law_ok rfl (by decide +kernel))
theorem dL_law_1593 : decode cL_law 1593 = .ok (.aload_n 0, 1) := zr0 zk_42 (zat_w (k := 99) (p := 9) (w := zw_cL_law_99) zw_cL_law_ok rfl (by decide +kernel))
theorem dL_law_1594 : decode cL_law 1594 = .ok (.iload_n 3, 1) := zr0 zk_29 (zat_w (k := 99) (p := 10) (w := zw_cL_law_99) zw_cL_law_ok rfl (by decide +kernel))
theorem dL_law_1595 : decode cL_law 1595 = .ok (.iconst 1, 1) := zr0 zk_4 (zat_w (k := 99) (p := 11) (w := zw_cL_law_99) zw_cL_law_ok rfl (by decide +kernel))
theorem dL_law_1596 : decode cL_law 1596 = .ok (.iadd, 1) := zr0 zk_96 (zat_w (k := 99) (p := 12) (w := zw_cL_law_99) zw_cL_law_ok rfl (by decide +kernel))
theorem dL_law_1597 : decode cL_law 1597 = .ok (.iaload, 1) := zr0 zk_46 (zat_w (k := 99) (p := 13) (w := zw_cL_law_99) zw_cL_law_ok rfl (by decide +kernel))
theorem dL_law_1598 : decode cL_law 1598 = .ok (.aload_n 0, 1) := zr0 zk_42 (zat_w (k := 99) (p := 14) (w := zw_cL_law_99) zw_cL_law_ok rfl (by decide +kernel))
theorem dL_law_1599 : decode cL_law 1599 = .ok (.iload_n 3, 1) := zr0 zk_29 (zat_w (k := 99) (p := 15) (w := zw_cL_law_99) zw_cL_law_ok rfl (by decide +kernel))
theorem dL_law_1600 : decode cL_law 1600 = .ok (.iconst 2, 1) := zr0 zk_5 (zat_w (k := 100) (p := 0) (w := zw_cL_law_100) zw_cL_law_ok rfl (by decide +kernel))
theorem dL_law_1601 : decode cL_law 1601 = .ok (.iadd, 1) := zr0 zk_96 (zat_w (k := 100) (p := 1) (w := zw_cL_law_100) zw_cL_law_ok rfl (by decide +kernel))
theorem dL_law_1602 : decode cL_law 1602 = .ok (.iaload, 1) := zr0 zk_46 (zat_w (k := 100) (p := 2) (w := zw_cL_law_100) zw_cL_law_ok rfl (by decide +kernel))
theorem dL_law_1603 : decode cL_law 1603 = .ok (.aload_n 0, 1) := zr0 zk_42 (zat_w (k := 100) (p := 3) (w := zw_cL_law_100) zw_cL_law_ok rfl (by decide +kernel))
theorem dL_law_1604 : decode cL_law 1604 = .ok (.iload_n 3, 1) := zr0 zk_29 (zat_w (k := 100) (p := 4) (w := zw_cL_law_100) zw_cL_law_ok rfl (by decide +kernel))
theorem dL_law_1605 : decode cL_law 1605 = .ok (.iconst 3, 1) := zr0 zk_6 (zat_w (k := 100) (p := 5) (w := zw_cL_law_100) zw_cL_law_ok rfl (by decide +kernel))
theorem dL_law_1606 : decode cL_law 1606 = .ok (.iadd, 1) := zr0 zk_96 (zat_w (k := 100) (p := 6) (w := zw_cL_law_100) zw_cL_law_ok rfl (by decide +kernel))
theorem dL_law_1607 : decode cL_law 1607 = .ok (.iaload, 1) := zr0 zk_46 (zat_w (k := 100) (p := 7) (w := zw_cL_law_100) zw_cL_law_ok rfl (by decide +kernel))
theorem dL_law_1608 : decode cL_law 1608 = .ok (.invokevirtual 177, 3) := zr2u zk_182 (x0 := 0) (x1 := 177) (zat_w (k := 100) (p := 8) (w := zw_cL_law_100) zw_cL_law_ok rfl (by decide +kernel)) (by decide +kernel)
theorem dL_law_1611 : decode cL_law 1611 = .ok (.pop, 1) := zr0 zk_87 (zat_w (k := 100) (p := 11) (w := zw_cL_law_100) zw_cL_law_ok rfl (by decide +kernel))
theorem dL_law_1612 : decode cL_law 1612 = .ok (.goto 152, 3) := zr2s zk_167 (x0 := 0) (x1 := 152) (zat_w (k := 100) (p := 12) (w := zw_cL_law_100) zw_cL_law_ok rfl (by decide +kernel)) (by decide +kernel)
theorem dL_law_1615 : decode cL_law 1615 = .ok (.aload_n 1, 1) := zr0 zk_43 (zat_w (k := 100) (p := 15) (w := zw_cL_law_100) zw_cL_law_ok rfl (by decide +kernel))
theorem dL_law_1616 : decode cL_law 1616 = .ok (.aload_n 0, 1) := zr0 zk_42 (zat_w (k := 101) (p := 0) (w := zw_cL_law_101) zw_cL_law_ok rfl (by decide +kernel))
theorem dL_law_1617 : decode cL_law 1617 = .ok (.iload_n 3, 1) := zr0 zk_29 (zat_w (k := 101) (p := 1) (w := zw_cL_law_101) zw_cL_law_ok rfl (by decide +kernel))
theorem dL_law_1618 : decode cL_law 1618 = .ok (.iconst 1, 1) := zr0 zk_4 (zat_w (k := 101) (p := 2) (w := zw_cL_law_101) zw_cL_law_ok rfl (by decide +kernel))
theorem dL_law_1619 : decode cL_law 1619 = .ok (.iadd, 1) := zr0 zk_96 (zat_w (k := 101) (p := 3) (w := zw_cL_law_101) zw_cL_law_ok rfl (by decide +kernel))
theorem dL_law_1620 : decode cL_law 1620 = .ok (.iaload, 1) := zr0 zk_46 (zat_w (k := 101) (p := 4) (w := zw_cL_law_101) zw_cL_law_ok rfl (by decide +kernel))
theorem dL_law_1621 : decode cL_law 1621 = .ok (.aload_n 0, 1) := zr0 zk_42 (zat_w (k := 101) (p := 5) (w := zw_cL_law_101) zw_cL_law_ok rfl (by decide +kernel))
theorem dL_law_1622 : decode cL_law 1622 = .ok (.iload_n 3, 1) := zr0 zk_29 (zat_w (k := 101) (p := 6) (w := zw_cL_law_101) zw_cL_law_ok rfl (by decide +kernel))
theorem dL_law_1623 : decode cL_law 1623 = .ok (.iconst 2, 1) := zr0 zk_5 (zat_w (k := 101) (p := 7) (w := zw_cL_law_101) zw_cL_law_ok rfl (by decide +kernel))
theorem dL_law_1624 : decode cL_law 1624 = .ok (.iadd, 1) := zr0 zk_96 (zat_w (k := 101) (p := 8) (w := zw_cL_law_101) zw_cL_law_ok rfl (by decide +kernel))
theorem dL_law_1625 : decode cL_law 1625 = .ok (.iaload, 1) := zr0 zk_46 (zat_w (k := 101) (p := 9) (w := zw_cL_law_101) zw_cL_law_ok rfl (by decide +kernel))
theorem dL_law_1626 : decode cL_law 1626 = .ok (.aload_n 0, 1) := zr0 zk_42 (zat_w (k := 101) (p := 10) (w := zw_cL_law_101) zw_cL_law_ok rfl (by decide +kernel))
theorem dL_law_1627 : decode cL_law 1627 = .ok (.iload_n 3, 1) := zr0 zk_29 (zat_w (k := 101) (p := 11) (w := zw_cL_law_101) zw_cL_law_ok rfl (by decide +kernel))
theorem dL_law_1628 : decode cL_law 1628 = .ok (.iconst 3, 1) := zr0 zk_6 (zat_w (k := 101) (p := 12) (w := zw_cL_law_101) zw_cL_law_ok rfl (by decide +kernel))
theorem dL_law_1629 : decode cL_law 1629 = .ok (.iadd, 1) := zr0 zk_96 (zat_w (k := 101) (p := 13) (w := zw_cL_law_101) zw_cL_law_ok rfl (by decide +kernel))
theorem dL_law_1630 : decode cL_law 1630 = .ok (.iaload, 1) := zr0 zk_46 (zat_w (k := 101) (p := 14) (w := zw_cL_law_101) zw_cL_law_ok rfl (by decide +kernel))
theorem dL_law_1631 : decode cL_law 1631 = .ok (.aload_n 0, 1) := zr0 zk_42 (zat_w (k := 101) (p := 15) (w := zw_cL_law_101) zw_cL_law_ok rfl (by decide +kernel))
theorem dL_law_1632 : decode cL_law 1632 = .ok (.iload_n 3, 1) := zr0 zk_29 (zat_w (k := 102) (p := 0) (w := zw_cL_law_102) zw_cL_law_ok rfl (by decide +kernel))
theorem dL_law_1633 : decode cL_law 1633 = .ok (.iconst 4, 1) := zr0 zk_7 (zat_w (k := 102) (p := 1) (w := zw_cL_law_102) zw_cL_law_ok rfl (by decide +kernel))
theorem dL_law_1634 : decode cL_law 1634 = .ok (.iadd, 1) := zr0 zk_96 (zat_w (k := 102) (p := 2) (w := zw_cL_law_102) zw_cL_law_ok rfl (by decide +kernel))
theorem dL_law_1635 : decode cL_law 1635 = .ok (.iaload, 1) := zr0 zk_46 (zat_w (k := 102) (p := 3) (w := zw_cL_law_102) zw_cL_law_ok rfl (by decide +kernel))
theorem dL_law_1636 : decode cL_law 1636 = .ok (.aload_n 0, 1) := zr0 zk_42 (zat_w (k := 102) (p := 4) (w := zw_cL_law_102) zw_cL_law_ok rfl (by decide +kernel))
theorem dL_law_1637 : decode cL_law 1637 = .ok (.iload_n 3, 1) := zr0 zk_29 (zat_w (k := 102) (p := 5) (w := zw_cL_law_102) zw_cL_law_ok rfl (by decide +kernel))
theorem dL_law_1638 : decode cL_law 1638 = .ok (.iconst 5, 1) := zr0 zk_8 (zat_w (k := 102) (p := 6) (w := zw_cL_law_102) zw_cL_law_ok rfl (by decide +kernel))
theorem dL_law_1639 : decode cL_law 1639 = .ok (.iadd, 1) := zr0 zk_96 (zat_w (k := 102) (p := 7) (w := zw_cL_law_102) zw_cL_law_ok rfl (by decide +kernel))
theorem dL_law_1640 : decode cL_law 1640 = .ok (.iaload, 1) := zr0 zk_46 (zat_w (k := 102) (p := 8) (w := zw_cL_law_102) zw_cL_law_ok rfl (by decide +kernel))
theorem dL_law_1641 : decode cL_law 1641 = .ok (.invokevirtual 178, 3) := zr2u zk_182 (x0 := 0) (x1 := 178) (zat_w (k := 102) (p := 9) (w := zw_cL_law_102) zw_cL_law_ok rfl (by decide +kernel)) (by decide +kernel)
theorem dL_law_1644 : decode cL_law 1644 = .ok (.pop, 1) := zr0 zk_87 (zat_w (k := 102) (p := 12) (w := zw_cL_law_102) zw_cL_law_ok rfl (by decide +kernel))
theorem dL_law_1645 : decode cL_law 1645 = .ok (.aload_n 2, 1) := zr0 zk_44 (zat_w (k := 102) (p := 13) (w := zw_cL_law_102) zw_cL_law_ok rfl (by decide +kernel))
theorem dL_law_1646 : decode cL_law 1646 = .ok (.aload_n 0, 1) := zr0 zk_42 (zat_w (k := 102) (p := 14) (w := zw_cL_law_102) zw_cL_law_ok rfl (by decide +kernel))
theorem dL_law_1647 : decode cL_law 1647 = .ok (.iload_n 3, 1) := zr0 zk_29 (zat_w (k := 102) (p := 15) (w := zw_cL_law_102) zw_cL_law_ok rfl (by decide +kernel))
theorem dL_law_1648 : decode cL_law 1648 = .ok (.iconst 1, 1) := zr0 zk_4 (zat_w (k := 103) (p := 0) (w := zw_cL_law_103) zw_cL_law_ok rfl (by decide +kernel))
theorem dL_law_1649 : decode cL_law 1649 = .ok (.iadd, 1) := zr0 zk_96 (zat_w (k := 103) (p := 1) (w := zw_cL_law_103) zw_cL_law_ok rfl (by decide +kernel))
theorem dL_law_1650 : decode cL_law 1650 = .ok (.iaload, 1) := zr0 zk_46 (zat_w (k := 103) (p := 2) (w := zw_cL_law_103) zw_cL_law_ok rfl (by decide +kernel))
theorem dL_law_1651 : decode cL_law 1651 = .ok (.aload_n 0, 1) := zr0 zk_42 (zat_w (k := 103) (p := 3) (w := zw_cL_law_103) zw_cL_law_ok rfl (by decide +kernel))
theorem dL_law_1652 : decode cL_law 1652 = .ok (.iload_n 3, 1) := zr0 zk_29 (zat_w (k := 103) (p := 4) (w := zw_cL_law_103) zw_cL_law_ok rfl (by decide +kernel))
theorem dL_law_1653 : decode cL_law 1653 = .ok (.iconst 2, 1) := zr0 zk_5 (zat_w (k := 103) (p := 5) (w := zw_cL_law_103) zw_cL_law_ok rfl (by decide +kernel))
theorem dL_law_1654 : decode cL_law 1654 = .ok (.iadd, 1) := zr0 zk_96 (zat_w (k := 103) (p := 6) (w := zw_cL_law_103) zw_cL_law_ok rfl (by decide +kernel))
theorem dL_law_1655 : decode cL_law 1655 = .ok (.iaload, 1) := zr0 zk_46 (zat_w (k := 103) (p := 7) (w := zw_cL_law_103) zw_cL_law_ok rfl (by decide +kernel))
theorem dL_law_1656 : decode cL_law 1656 = .ok (.aload_n 0, 1) := zr0 zk_42 (zat_w (k := 103) (p := 8) (w := zw_cL_law_103) zw_cL_law_ok rfl (by decide +kernel))
theorem dL_law_1657 : decode cL_law 1657 = .ok (.iload_n 3, 1) := zr0 zk_29 (zat_w (k := 103) (p := 9) (w := zw_cL_law_103) zw_cL_law_ok rfl (by decide +kernel))
theorem dL_law_1658 : decode cL_law 1658 = .ok (.iconst 3, 1) := zr0 zk_6 (zat_w (k := 103) (p := 10) (w := zw_cL_law_103) zw_cL_law_ok rfl (by decide +kernel))
theorem dL_law_1659 : decode cL_law 1659 = .ok (.iadd, 1) := zr0 zk_96 (zat_w (k := 103) (p := 11) (w := zw_cL_law_103) zw_cL_law_ok rfl (by decide +kernel))
theorem dL_law_1660 : decode cL_law 1660 = .ok (.iaload, 1) := zr0 zk_46 (zat_w (k := 103) (p := 12) (w := zw_cL_law_103) zw_cL_law_ok rfl (by decide +kernel))
theorem dL_law_1661 : decode cL_law 1661 = .ok (.aload_n 0, 1) := zr0 zk_42 (zat_w (k := 103) (p := 13) (w := zw_cL_law_103) zw_cL_law_ok rfl (by decide +kernel))
theorem dL_law_1662 : decode cL_law 1662 = .ok (.iload_n 3, 1) := zr0 zk_29 (zat_w (k := 103) (p := 14) (w := zw_cL_law_103) zw_cL_law_ok rfl (by decide +kernel))
theorem dL_law_1663 : decode cL_law 1663 = .ok (.iconst 4, 1) := zr0 zk_7 (zat_w (k := 103) (p := 15) (w := zw_cL_law_103) zw_cL_law_ok rfl (by decide +kernel))
theorem dL_law_1664 : decode cL_law 1664 = .ok (.iadd, 1) := zr0 zk_96 (zat_w (k := 104) (p := 0) (w := zw_cL_law_104) zw_cL_law_ok rfl (by decide +kernel))
theorem dL_law_1665 : decode cL_law 1665 = .ok (.iaload, 1) := zr0 zk_46 (zat_w (k := 104) (p := 1) (w := zw_cL_law_104) zw_cL_law_ok rfl (by decide +kernel))
theorem dL_law_1666 : decode cL_law 1666 = .ok (.aload_n 0, 1) := zr0 zk_42 (zat_w (k := 104) (p := 2) (w := zw_cL_law_104) zw_cL_law_ok rfl (by decide +kernel))
theorem dL_law_1667 : decode cL_law 1667 = .ok (.iload_n 3, 1) := zr0 zk_29 (zat_w (k := 104) (p := 3) (w := zw_cL_law_104) zw_cL_law_ok rfl (by decide +kernel))
theorem dL_law_1668 : decode cL_law 1668 = .ok (.iconst 5, 1) := zr0 zk_8 (zat_w (k := 104) (p := 4) (w := zw_cL_law_104) zw_cL_law_ok rfl (by decide +kernel))
theorem dL_law_1669 : decode cL_law 1669 = .ok (.iadd, 1) := zr0 zk_96 (zat_w (k := 104) (p := 5) (w := zw_cL_law_104) zw_cL_law_ok rfl (by decide +kernel))
theorem dL_law_1670 : decode cL_law 1670 = .ok (.iaload, 1) := zr0 zk_46 (zat_w (k := 104) (p := 6) (w := zw_cL_law_104) zw_cL_law_ok rfl (by decide +kernel))
theorem dL_law_1671 : decode cL_law 1671 = .ok (.invokevirtual 182, 3) := zr2u zk_182 (x0 := 0) (x1 := 182) (zat_w (k := 104) (p := 7) (w := zw_cL_law_104) zw_cL_law_ok rfl (by decide +kernel)) (by decide +kernel)
theorem dL_law_1674 : decode cL_law 1674 = .ok (.pop, 1) := zr0 zk_87 (zat_w (k := 104) (p := 10) (w := zw_cL_law_104) zw_cL_law_ok rfl (by decide +kernel))
theorem dL_law_1675 : decode cL_law 1675 = .ok (.goto 89, 3) := zr2s zk_167 (x0 := 0) (x1 := 89) (zat_w (k := 104) (p := 11) (w := zw_cL_law_104) zw_cL_law_ok rfl (by decide +kernel)) (by decide +kernel)
theorem dL_law_1678 : decode cL_law 1678 = .ok (.aload_n 1, 1) := zr0 zk_43 (zat_w (k := 104) (p := 14) (w := zw_cL_law_104) zw_cL_law_ok rfl (by decide +kernel))
theorem dL_law_1679 : decode cL_law 1679 = .ok (.aload_n 0, 1) := zr0 zk_42 (zat_w (k := 104) (p := 15) (w := zw_cL_law_104) zw_cL_law_ok rfl (by decide +kernel))
theorem dL_law_1680 : decode cL_law 1680 = .ok (.iload_n 3, 1) := zr0 zk_29 (zat_w (k := 105) (p := 0) (w := zw_cL_law_105) zw_cL_law_ok rfl (by decide +kernel))
theorem dL_law_1681 : decode cL_law 1681 = .ok (.iconst 1, 1) := zr0 zk_4 (zat_w (k := 105) (p := 1) (w := zw_cL_law_105) zw_cL_law_ok rfl (by decide +kernel))
theorem dL_law_1682 : decode cL_law 1682 = .ok (.iadd, 1) := zr0 zk_96 (zat_w (k := 105) (p := 2) (w := zw_cL_law_105) zw_cL_law_ok rfl (by decide +kernel))
theorem dL_law_1683 : decode cL_law 1683 = .ok (.iaload, 1) := zr0 zk_46 (zat_w (k := 105) (p := 3) (w := zw_cL_law_105) zw_cL_law_ok rfl (by decide +kernel))
theorem dL_law_1684 : decode cL_law 1684 = .ok (.aload_n 0, 1) := zr0 zk_42 (zat_w (k := 105) (p := 4) (w := zw_cL_law_105) zw_cL_law_ok rfl (by decide +kernel))
theorem dL_law_1685 : decode cL_law 1685 = .ok (.iload_n 3, 1) := zr0 zk_29 (zat_w (k := 105) (p := 5) (w := zw_cL_law_105) zw_cL_law_ok rfl (by decide +kernel))
theorem dL_law_1686 : decode cL_law 1686 = .ok (.iconst 2, 1) := zr0 zk_5 (zat_w (k := 105) (p := 6) (w := zw_cL_law_105) zw_cL_law_ok rfl (by decide +kernel))
theorem dL_law_1687 : decode cL_law 1687 = .ok (.iadd, 1) := zr0 zk_96 (zat_w (k := 105) (p := 7) (w := zw_cL_law_105) zw_cL_law_ok rfl (by decide +kernel))
theorem dL_law_1688 : decode cL_law 1688 = .ok (.iaload, 1) := zr0 zk_46 (zat_w (k := 105) (p := 8) (w := zw_cL_law_105) zw_cL_law_ok rfl (by decide +kernel))
theorem dL_law_1689 : decode cL_law 1689 = .ok (.aload_n 0, 1) := zr0 zk_42 (zat_w (k := 105) (p := 9) (w := zw_cL_law_105) zw_cL_law_ok rfl (by decide +kernel))
theorem dL_law_1690 : decode cL_law 1690 = .ok (.iload_n 3, 1) := zr0 zk_29 (zat_w (k := 105) (p := 10) (w := zw_cL_law_105) zw_cL_law_ok rfl (by decide +kernel))
theorem dL_law_1691 : decode cL_law 1691 = .ok (.iconst 3, 1) := zr0 zk_6 (zat_w (k := 105) (p := 11) (w := zw_cL_law_105) zw_cL_law_ok rfl (by decide +kernel))
theorem dL_law_1692 : decode cL_law 1692 = .ok (.iadd, 1) := zr0 zk_96 (zat_w (k := 105) (p := 12) (w := zw_cL_law_105) zw_cL_law_ok rfl (by decide +kernel))
theorem dL_law_1693 : decode cL_law 1693 = .ok (.iaload, 1) := zr0 zk_46 (zat_w (k := 105) (p := 13) (w := zw_cL_law_105) zw_cL_law_ok rfl (by decide +kernel))
theorem dL_law_1694 : decode cL_law 1694 = .ok (.aload_n 0, 1) := zr0 zk_42 (zat_w (k := 105) (p := 14) (w := zw_cL_law_105) zw_cL_law_ok rfl (by decide +kernel))
theorem dL_law_1695 : decode cL_law 1695 = .ok (.iload_n 3, 1) := zr0 zk_29 (zat_w (k := 105) (p := 15) (w := zw_cL_law_105) zw_cL_law_ok rfl (by decide +kernel))
theorem dL_law_1696 : decode cL_law 1696 = .ok (.iconst 4, 1) := zr0 zk_7 (zat_w (k := 106) (p := 0) (w := zw_cL_law_106) zw_cL_law_ok rfl (by decide +kernel))
theorem dL_law_1697 : decode cL_law 1697 = .ok (.iadd, 1) := zr0 zk_96 (zat_w (k := 106) (p := 1) (w := zw_cL_law_106) zw_cL_law_ok rfl (by decide +kernel))
theorem dL_law_1698 : decode cL_law 1698 = .ok (.iaload, 1) := zr0 zk_46 (zat_w (k := 106) (p := 2) (w := zw_cL_law_106) zw_cL_law_ok rfl (by decide +kernel))
theorem dL_law_1699 : decode cL_law 1699 = .ok (.invokevirtual 183, 3) := zr2u zk_182 (x0 := 0) (x1 := 183) (zat_w (k := 106) (p := 3) (w := zw_cL_law_106) zw_cL_law_ok rfl (by decide +kernel)) (by decide +kernel)
theorem dL_law_1702 : decode cL_law 1702 = .ok (.pop, 1) := zr0 zk_87 (zat_w (k := 106) (p := 6) (w := zw_cL_law_106) zw_cL_law_ok rfl (by decide +kernel))
theorem dL_law_1703 : decode cL_law 1703 = .ok (.aload_n 2, 1) := zr0 zk_44 (zat_w (k := 106) (p := 7) (w := zw_cL_law_106) zw_cL_law_ok rfl (by decide +kernel))
theorem dL_law_1704 : decode cL_law 1704 = .ok (.aload_n 0, 1) := zr0 zk_42 (zat_w (k := 106) (p := 8) (w := zw_cL_law_106) zw_cL_law_ok rfl (by decide +kernel))
theorem dL_law_1705 : decode cL_law 1705 = .ok (.iload_n 3, 1) := zr0 zk_29 (zat_w (k := 106) (p := 9) (w := zw_cL_law_106) zw_cL_law_ok rfl (by decide +kernel))
theorem dL_law_1706 : decode cL_law 1706 = .ok (.iconst 1, 1) := zr0 zk_4 (zat_w (k := 106) (p := 10) (w := zw_cL_law_106) zw_cL_law_ok rfl (by decide +kernel))
theorem dL_law_1707 : decode cL_law 1707 = .ok (.iadd, 1) := zr0 zk_96 (zat_w (k := 106) (p := 11) (w := zw_cL_law_106) zw_cL_law_ok rfl (by decide +kernel))
theorem dL_law_1708 : decode cL_law 1708 = .ok (.iaload, 1) := zr0 zk_46 (zat_w (k := 106) (p := 12) (w := zw_cL_law_106) zw_cL_law_ok rfl (by decide +kernel))
theorem dL_law_1709 : decode cL_law 1709 = .ok (.aload_n 0, 1) := zr0 zk_42 (zat_w (k := 106) (p := 13) (w := zw_cL_law_106) zw_cL_law_ok rfl (by decide +kernel))
theorem dL_law_1710 : decode cL_law 1710 = .ok (.iload_n 3, 1) := zr0 zk_29 (zat_w (k := 106) (p := 14) (w := zw_cL_law_106) zw_cL_law_ok rfl (by decide +kernel))
theorem dL_law_1711 : decode cL_law 1711 = .ok (.iconst 2, 1) := zr0 zk_5 (zat_w (k := 106) (p := 15) (w := zw_cL_law_106) zw_cL_law_ok rfl (by decide +kernel))
theorem dL_law_1712 : decode cL_law 1712 = .ok (.iadd, 1) := zr0 zk_96 (zat_w (k := 107) (p := 0) (w := zw_cL_law_107) zw_cL_law_ok rfl (by decide +kernel))
theorem dL_law_1713 : decode cL_law 1713 = .ok (.iaload, 1) := zr0 zk_46 (zat_w (k := 107) (p := 1) (w := zw_cL_law_107) zw_cL_law_ok rfl (by decide +kernel))
theorem dL_law_1714 : decode cL_law 1714 = .ok (.aload_n 0, 1) := zr0 zk_42 (zat_w (k := 107) (p := 2) (w := zw_cL_law_107) zw_cL_law_ok rfl (by decide +kernel))
theorem dL_law_1715 : decode cL_law 1715 = .ok (.iload_n 3, 1) := zr0 zk_29 (zat_w (k := 107) (p := 3) (w := zw_cL_law_107) zw_cL_law_ok rfl (by decide +kernel))
theorem dL_law_1716 : decode cL_law 1716 = .ok (.iconst 3, 1) := zr0 zk_6 (zat_w (k := 107) (p := 4) (w := zw_cL_law_107) zw_cL_law_ok rfl (by decide +kernel))
theorem dL_law_1717 : decode cL_law 1717 = .ok (.iadd, 1) := zr0 zk_96 (zat_w (k := 107) (p := 5) (w := zw_cL_law_107) zw_cL_law_ok rfl (by decide +kernel))
theorem dL_law_1718 : decode cL_law 1718 = .ok (.iaload, 1) := zr0 zk_46 (zat_w (k := 107) (p := 6) (w := zw_cL_law_107) zw_cL_law_ok rfl (by decide +kernel))
theorem dL_law_1719 : decode cL_law 1719 = .ok (.aload_n 0, 1) := zr0 zk_42 (zat_w (k := 107) (p := 7) (w := zw_cL_law_107) zw_cL_law_ok rfl (by decide +kernel))
theorem dL_law_1720 : decode cL_law 1720 = .ok (.iload_n 3, 1) := zr0 zk_29 (zat_w (k := 107) (p := 8) (w := zw_cL_law_107) zw_cL_law_ok rfl (by decide +kernel))
theorem dL_law_1721 : decode cL_law 1721 = .ok (.iconst 4, 1) := zr0 zk_7 (zat_w (k := 107) (p := 9) (w := zw_cL_law_107) zw_cL_law_ok rfl (by decide +kernel))
theorem dL_law_1722 : decode cL_law 1722 = .ok (.iadd, 1) := zr0 zk_96 (zat_w (k := 107) (p := 10) (w := zw_cL_law_107) zw_cL_law_ok rfl (by decide +kernel))
theorem dL_law_1723 : decode cL_law 1723 = .ok (.iaload, 1) := zr0 zk_46 (zat_w (k := 107) (p := 11) (w := zw_cL_law_107) zw_cL_law_ok rfl (by decide +kernel))
theorem dL_law_1724 : decode cL_law 1724 = .ok (.invokevirtual 186, 3) := zr2u zk_182 (x0 := 0) (x1 := 186) (zat_w (k := 107) (p := 12) (w := zw_cL_law_107) zw_cL_law_ok rfl (by decide +kernel)) (by decide +kernel)
theorem dL_law_1727 : decode cL_law 1727 = .ok (.pop, 1) := zr0 zk_87 (zat_w (k := 107) (p := 15) (w := zw_cL_law_107) zw_cL_law_ok rfl (by decide +kernel))
theorem dL_law_1728 : decode cL_law 1728 = .ok (.goto 36, 3) := zr2s zk_167 (x0 := 0) (x1 := 36) (zat_w (k := 108) (p := 0) (w := zw_cL_law_108) zw_cL_law_ok rfl (by decide +kernel)) (by decide +kernel)
theorem dL_law_1731 : decode cL_law 1731 = .ok (.aload_n 1, 1) := zr0 zk_43 (zat_w (k := 108) (p := 3) (w := zw_cL_law_108) zw_cL_law_ok rfl (by decide +kernel))
theorem dL_law_1732 : decode cL_law 1732 = .ok (.aload_n 0, 1) := zr0 zk_42 (zat_w (k := 108) (p := 4) (w := zw_cL_law_108) zw_cL_law_ok rfl (by decide +kernel))
theorem dL_law_1733 : decode cL_law 1733 = .ok (.iload_n 3, 1) := zr0 zk_29 (zat_w (k := 108) (p := 5) (w := zw_cL_law_108) zw_cL_law_ok rfl (by decide +kernel))
theorem dL_law_1734 : decode cL_law 1734 = .ok (.iconst 1, 1) := zr0 zk_4 (zat_w (k := 108) (p := 6) (w := zw_cL_law_108) zw_cL_law_ok rfl (by decide +kernel))
theorem dL_law_1735 : decode cL_law 1735 = .ok (.iadd, 1) := zr0 zk_96 (zat_w (k := 108) (p := 7) (w := zw_cL_law_108) zw_cL_law_ok rfl (by decide +kernel))
theorem dL_law_1736 : decode cL_law 1736 = .ok (.iaload, 1) := zr0 zk_46 (zat_w (k := 108) (p := 8) (w := zw_cL_law_108) zw_cL_law_ok rfl (by decide +kernel))
theorem dL_law_1737 : decode cL_law 1737 = .ok (.aload_n 0, 1) := zr0 zk_42 (zat_w (k := 108) (p := 9) (w := zw_cL_law_108) zw_cL_law_ok rfl (by decide +kernel))
theorem dL_law_1738 : decode cL_law 1738 = .ok (.iload_n 3, 1) := zr0 zk_29 (zat_w (k := 108) (p := 10) (w := zw_cL_law_108) zw_cL_law_ok rfl (by decide +kernel))
theorem dL_law_1739 : decode cL_law 1739 = .ok (.iconst 2, 1) := zr0 zk_5 (zat_w (k := 108) (p := 11) (w := zw_cL_law_108) zw_cL_law_ok rfl (by decide +kernel))
theorem dL_law_1740 : decode cL_law 1740 = .ok (.iadd, 1) := zr0 zk_96 (zat_w (k := 108) (p := 12) (w := zw_cL_law_108) zw_cL_law_ok rfl (by decide +kernel))
theorem dL_law_1741 : decode cL_law 1741 = .ok (.iaload, 1) := zr0 zk_46 (zat_w (k := 108) (p := 13) (w := zw_cL_law_108) zw_cL_law_ok rfl (by decide +kernel))
theorem dL_law_1742 : decode cL_law 1742 = .ok (.invokevirtual 187, 3) := zr2u zk_182 (x0 := 0) (x1 := 187) (zat_w (k := 108) (p := 14) (w := zw_cL_law_108) zw_cL_law_ok rfl (by decide +kernel)) (by decide +kernel)
theorem dL_law_1745 : decode cL_law 1745 = .ok (.aload_n 2, 1) := zr0 zk_44 (zat_w (k := 109) (p := 1) (w := zw_cL_law_109) zw_cL_law_ok rfl (by decide +kernel))
theorem dL_law_1746 : decode cL_law 1746 = .ok (.aload_n 0, 1) := zr0 zk_42 (zat_w (k := 109) (p := 2) (w := zw_cL_law_109) zw_cL_law_ok rfl (by decide +kernel))
theorem dL_law_1747 : decode cL_law 1747 = .ok (.iload_n 3, 1) := zr0 zk_29 (zat_w (k := 109) (p := 3) (w := zw_cL_law_109) zw_cL_law_ok rfl (by decide +kernel))
theorem dL_law_1748 : decode cL_law 1748 = .ok (.iconst 1, 1) := zr0 zk_4 (zat_w (k := 109) (p := 4) (w := zw_cL_law_109) zw_cL_law_ok rfl (by decide +kernel))
theorem dL_law_1749 : decode cL_law 1749 = .ok (.iadd, 1) := zr0 zk_96 (zat_w (k := 109) (p := 5) (w := zw_cL_law_109) zw_cL_law_ok rfl (by decide +kernel))
theorem dL_law_1750 : decode cL_law 1750 = .ok (.iaload, 1) := zr0 zk_46 (zat_w (k := 109) (p := 6) (w := zw_cL_law_109) zw_cL_law_ok rfl (by decide +kernel))
theorem dL_law_1751 : decode cL_law 1751 = .ok (.aload_n 0, 1) := zr0 zk_42 (zat_w (k := 109) (p := 7) (w := zw_cL_law_109) zw_cL_law_ok rfl (by decide +kernel))
theorem dL_law_1752 : decode cL_law 1752 = .ok (.iload_n 3, 1) := zr0 zk_29 (zat_w (k := 109) (p := 8) (w := zw_cL_law_109) zw_cL_law_ok rfl (by decide +kernel))
theorem dL_law_1753 : decode cL_law 1753 = .ok (.iconst 2, 1) := zr0 zk_5 (zat_w (k := 109) (p := 9) (w := zw_cL_law_109) zw_cL_law_ok rfl (by decide +kernel))
theorem dL_law_1754 : decode cL_law 1754 = .ok (.iadd, 1) := zr0 zk_96 (zat_w (k := 109) (p := 10) (w := zw_cL_law_109) zw_cL_law_ok rfl (by decide +kernel))
theorem dL_law_1755 : decode cL_law 1755 = .ok (.iaload, 1) := zr0 zk_46 (zat_w (k := 109) (p := 11) (w := zw_cL_law_109) zw_cL_law_ok rfl (by decide +kernel))
theorem dL_law_1756 : decode cL_law 1756 = .ok (.invokevirtual 190, 3) := zr2u zk_182 (x0 := 0) (x1 := 190) (zat_w (k := 109) (p := 12) (w := zw_cL_law_109) zw_cL_law_ok rfl (by decide +kernel)) (by decide +kernel)
theorem dL_law_1759 : decode cL_law 1759 = .ok (.if_icmp .eq 5, 3) := zr2s zk_159 (x0 := 0) (x1 := 5) (zat_w (k := 109) (p := 15) (w := zw_cL_law_109) zw_cL_law_ok rfl (by decide +kernel)) (by decide +kernel)
theorem dL_law_1762 : decode cL_law 1762 = .ok (.iconst 0, 1) := zr0 zk_3 (zat_w (k := 110) (p := 2) (w := zw_cL_law_110) zw_cL_law_ok rfl (by decide +kernel))
theorem dL_law_1763 : decode cL_law 1763 = .ok (.ireturn, 1) := zr0 zk_172 (zat_w (k := 110) (p := 3) (w := zw_cL_law_110) zw_cL_law_ok rfl (by decide +kernel))
theorem dL_law_1764 : decode cL_law 1764 = .ok (.iinc 3 7, 3) := zrii zk_132 (x0 := 3) (x1 := 7) (zat_w (k := 110) (p := 4) (w := zw_cL_law_110) zw_cL_law_ok rfl (by decide +kernel)) (by decide +kernel)
theorem dL_law_1767 : decode cL_law 1767 = .ok (.goto (-1749), 3) := zr2s zk_167 (x0 := 249) (x1 := 43) (zat_w (k := 110) (p := 7) (w := zw_cL_law_110) zw_cL_law_ok rfl (by decide +kernel)) (by decide +kernel)
theorem dL_law_1770 : decode cL_law 1770 = .ok (.iconst 1, 1) := zr0 zk_4 (zat_w (k := 110) (p := 10) (w := zw_cL_law_110) zw_cL_law_ok rfl (by decide +kernel))
theorem dL_law_1771 : decode cL_law 1771 = .ok (.ireturn, 1) := zr0 zk_172 (zat_w (k := 110) (p := 11) (w := zw_cL_law_110) zw_cL_law_ok rfl (by decide +kernel))
end Zj_53a_dL_1
section Zj_54_lw
set_option maxRecDepth 20000 in
theorem tw_cl7 : Cond.classLink R_law 7 "NoZeroWithin" ∈ mc_WS := mc_mem (List.mem_append_right _ (List.mem_append_left _ (List.mem_of_getElem? (i := 17) rfl))) rfl
set_option maxRecDepth 20000 in
theorem tw_cl10 : Cond.classLink R_law 10 "NoZeroWithinModel" ∈ mc_WS := mc_mem (List.mem_append_right _ (List.mem_append_right _ (List.mem_append_right _ (List.mem_append_right _ (List.mem_append_left _ (List.mem_of_getElem? (i := 160) rfl)))))) rfl
/-- one call of both sides, one behind the other: what they answer (E: the same), the world behind them -/
def jI (y1 : MethodName) (c1 : ByteArray) (n1 : Nat) (y2 : MethodName) (c2 : ByteArray) (n2 mc ms : Nat) (E : Prop) (A : List Value) (w : mc_W) (Q : mc_W → Prop) : Prop :=
  ∃ (r1 r2 : Int32) (d1 d2 : Nat) (fs : List Value), d1 ≤ 60 ∧ d2 ≤ 60 ∧ (E → r1 = r2) ∧ w[0]? = some (.inl (6, fs)) ∧ mc_S y1 c1 n1 (some .int) d1 mc ms (.ref 0 :: A) w (fun r w1 => r = some (.int r1) ∧ (∃ fs1, w1[29]? = some (.inl (7, fs1))) ∧ mc_T y2 c2 n2 (some .int) d2 (.ref 29 :: A) w1 (some (.int r2)) Q)
def jL (y1 : MethodName) (c1 : ByteArray) (n1 : Nat) (y2 : MethodName) (c2 : ByteArray) (n2 mc ms : Nat) (E : Prop) (A : List Value) (w : mc_W) (Q : mc_W → Prop) : Prop :=
  ∃ (r1 r2 : Int64) (d1 d2 : Nat) (fs : List Value), d1 ≤ 60 ∧ d2 ≤ 60 ∧ (E → r1 = r2) ∧ w[0]? = some (.inl (6, fs)) ∧ mc_S y1 c1 n1 (some .long) d1 mc ms (.ref 0 :: A) w (fun r w1 => r = some (.long r1) ∧ (∃ fs1, w1[29]? = some (.inl (7, fs1))) ∧ mc_T y2 c2 n2 (some .long) d2 (.ref 29 :: A) w1 (some (.long r2)) Q)
theorem lw_CR {N : Nat} {xs : Nat → Int32} {d mc ms n2 kc ks : Nat} (h1 : d ≤ 60) (h2 : n2 ≤ 45) (h3 : kc + mc ≤ 600000) (h4 : ks + ms ≤ 7302250) : mc_CR (mc_JL N xs) d mc ms n2 kc ks :=
  ⟨by show d + 1 ≤ 2048; omega, by show 8 + (n2 + 11) + 64 * d ≤ 84000; omega, h3, h4⟩
theorem lw_vi {N i k : Nat} {j : Int32} (hj : j = nI k) (h : i + k < N) (hN : N ≤ 3584) : vp_in (nI i + j) N := by
  subst hj; rw [nI_add]; exact vp_in_nI h (by omega)
theorem lw_vx {N i k : Nat} {j : Int32} {xs : Nat → Int32} (hj : j = nI k) (h : i + k < N) (hN : N ≤ 3584) : xs (nI i + j).toNatClampNeg = xs (i + k) := by
  subst hj; rw [nI_add, nIc (by omega)]
theorem lw_pop2 {own : String} {cc : ByteArray} {nL : Nat} {J : mc_J} {pc : Nat} {L : List (Option Value)} {st : List Value} {w : mc_W} {kc ks : Nat} {v : Value} (hd : decode cc pc = .ok (.pop2, 1)) (hv : v.category = 2) (k : mc_E own cc nL J (pc + 1) L st w kc ks) : mc_E own cc nL J pc L (v :: st) w kc ks :=
  fun p l e s m args below meth c H locs ls g X G R T hl => lv_pop2_2 X.1 X.2.1 hd ((mc_vm_cat g v).trans hv) (k p l e s m args below meth c H locs ls g X G R T hl)
theorem lw_c0 {N i0 : Nat} {xs : Nat → Int32} {E : Prop} {w : mc_W} {kc ks : Nat} {Q : mc_W → Prop} (hN : N ≤ 3584) (hi : i0 + 7 ≤ N) (hj : jI yX6_count cX6_count 2 yX7_count cX7_count 2 0 0 E [.int (xs (i0 + 1))] w Q) (hk : kc ≤ 500000) (hs : ks ≤ 7000000) (hK : ∀ w2, Q w2 → mc_E R_law code 4 (mc_JL N xs) 1764 [some (.ref 1000300), some (.ref 0), some (.ref 29), some (.int (nI i0))] [] w2 (kc + 0) (ks + 0)) : mc_E R_law code 4 (mc_JL N xs) 216 [some (.ref 1000300), some (.ref 0), some (.ref 29), some (.int (nI i0))] [] w kc ks := by
  obtain ⟨r1, r2, d1, d2, fs, h1, h2, hr, hw, hS⟩ := hj
  refine e_aloadn (pc := 216) dL_law_216 rfl ?_
  refine e_aloadn (pc := 217) dL_law_217 rfl ?_
  refine e_iloadn (pc := 218) dL_law_218 rfl ?_
  refine e_iconst (v := 1) (pc := 219) dL_law_219 (by decide) ?_
  refine e_iadd (pc := 220) dL_law_220 ?_
  refine e_sld (x := xs (i0 + 1)) (pc := 221) dL_law_221 (lw_vi (k := 1) rfl (by omega) hN) (lw_vx (k := 1) rfl (by omega) hN) ?_
  refine e_callV (pc := 222) hS dL_law_222 kL_13 hw rfl rfl rfl (lw_CR h1 (Nat.le_of_ble_eq_true rfl) (by omega) (by omega)) rfl (Nat.le_of_ble_eq_true rfl) (fun r w1 h => ?_)
  obtain ⟨rfl, ⟨fs1, hw1⟩, hT⟩ := h
  refine e_pop (pc := 225) dL_law_225 rfl ?_
  refine e_aloadn (pc := 226) dL_law_226 rfl ?_
  refine e_aloadn (pc := 227) dL_law_227 rfl ?_
  refine e_iloadn (pc := 228) dL_law_228 rfl ?_
  refine e_iconst (v := 1) (pc := 229) dL_law_229 (by decide) ?_
  refine e_iadd (pc := 230) dL_law_230 ?_
  refine e_sld (x := xs (i0 + 1)) (pc := 231) dL_law_231 (lw_vi (k := 1) rfl (by omega) hN) (lw_vx (k := 1) rfl (by omega) hN) ?_
  refine e_cvX (pc := 232) hT dL_law_232 kL_17 hw1 rfl rfl rfl rfl (lw_CR h2 (Nat.le_of_ble_eq_true rfl) (by omega) (by omega)) (Nat.le_of_ble_eq_true rfl) (fun w2 hQ => ?_)
  refine e_pop (pc := 235) dL_law_235 rfl ?_
  refine e_goto (pc := 236) dL_law_236 (t := 1764) (by decide) ?_
  exact hK w2 hQ
theorem lw_c1 {N i0 : Nat} {xs : Nat → Int32} {E : Prop} {w : mc_W} {kc ks : Nat} {Q : mc_W → Prop} (hN : N ≤ 3584) (hi : i0 + 7 ≤ N) (hj : jI yX6_set cX6_set 4 yX7_set cX7_set 4 0 0 E [.int (xs (i0 + 1)), .int (xs (i0 + 2))] w Q) (hk : kc ≤ 500000) (hs : ks ≤ 7000000) (hK : ∀ w2, Q w2 → mc_E R_law code 4 (mc_JL N xs) 1764 [some (.ref 1000300), some (.ref 0), some (.ref 29), some (.int (nI i0))] [] w2 (kc + 0) (ks + 0)) : mc_E R_law code 4 (mc_JL N xs) 239 [some (.ref 1000300), some (.ref 0), some (.ref 29), some (.int (nI i0))] [] w kc ks := by
  obtain ⟨r1, r2, d1, d2, fs, h1, h2, hr, hw, hS⟩ := hj
  refine e_aloadn (pc := 239) dL_law_239 rfl ?_
  refine e_aloadn (pc := 240) dL_law_240 rfl ?_
  refine e_iloadn (pc := 241) dL_law_241 rfl ?_
  refine e_iconst (v := 1) (pc := 242) dL_law_242 (by decide) ?_
  refine e_iadd (pc := 243) dL_law_243 ?_
  refine e_sld (x := xs (i0 + 1)) (pc := 244) dL_law_244 (lw_vi (k := 1) rfl (by omega) hN) (lw_vx (k := 1) rfl (by omega) hN) ?_
  refine e_aloadn (pc := 245) dL_law_245 rfl ?_
  refine e_iloadn (pc := 246) dL_law_246 rfl ?_
  refine e_iconst (v := 2) (pc := 247) dL_law_247 (by decide) ?_
  refine e_iadd (pc := 248) dL_law_248 ?_
  refine e_sld (x := xs (i0 + 2)) (pc := 249) dL_law_249 (lw_vi (k := 2) rfl (by omega) hN) (lw_vx (k := 2) rfl (by omega) hN) ?_
  refine e_callV (pc := 250) hS dL_law_250 kL_18 hw rfl rfl rfl (lw_CR h1 (Nat.le_of_ble_eq_true rfl) (by omega) (by omega)) rfl (Nat.le_of_ble_eq_true rfl) (fun r w1 h => ?_)
  obtain ⟨rfl, ⟨fs1, hw1⟩, hT⟩ := h
  refine e_pop (pc := 253) dL_law_253 rfl ?_
  refine e_aloadn (pc := 254) dL_law_254 rfl ?_
  refine e_aloadn (pc := 255) dL_law_255 rfl ?_
  refine e_iloadn (pc := 256) dL_law_256 rfl ?_
  refine e_iconst (v := 1) (pc := 257) dL_law_257 (by decide) ?_
  refine e_iadd (pc := 258) dL_law_258 ?_
  refine e_sld (x := xs (i0 + 1)) (pc := 259) dL_law_259 (lw_vi (k := 1) rfl (by omega) hN) (lw_vx (k := 1) rfl (by omega) hN) ?_
  refine e_aloadn (pc := 260) dL_law_260 rfl ?_
  refine e_iloadn (pc := 261) dL_law_261 rfl ?_
  refine e_iconst (v := 2) (pc := 262) dL_law_262 (by decide) ?_
  refine e_iadd (pc := 263) dL_law_263 ?_
  refine e_sld (x := xs (i0 + 2)) (pc := 264) dL_law_264 (lw_vi (k := 2) rfl (by omega) hN) (lw_vx (k := 2) rfl (by omega) hN) ?_
  refine e_cvX (pc := 265) hT dL_law_265 kL_22 hw1 rfl rfl rfl rfl (lw_CR h2 (Nat.le_of_ble_eq_true rfl) (by omega) (by omega)) (Nat.le_of_ble_eq_true rfl) (fun w2 hQ => ?_)
  refine e_pop (pc := 268) dL_law_268 rfl ?_
  refine e_goto (pc := 269) dL_law_269 (t := 1764) (by decide) ?_
  exact hK w2 hQ
theorem lw_c2 {N i0 : Nat} {xs : Nat → Int32} {E : Prop} {w : mc_W} {kc ks : Nat} {Q : mc_W → Prop} (hN : N ≤ 3584) (hi : i0 + 7 ≤ N) (hj : jI yX6_feed cX6_feed 7 yX7_feed cX7_feed 8 0 0 E [.int (xs (i0 + 1)), .int (xs (i0 + 2)), .int (xs (i0 + 3)), .int (xs (i0 + 4)), .int (xs (i0 + 5)), .int (xs (i0 + 6))] w Q) (hk : kc ≤ 500000) (hs : ks ≤ 7000000) (hK : ∀ w2, Q w2 → mc_E R_law code 4 (mc_JL N xs) 1764 [some (.ref 1000300), some (.ref 0), some (.ref 29), some (.int (nI i0))] [] w2 (kc + 0) (ks + 0)) : mc_E R_law code 4 (mc_JL N xs) 272 [some (.ref 1000300), some (.ref 0), some (.ref 29), some (.int (nI i0))] [] w kc ks := by
  obtain ⟨r1, r2, d1, d2, fs, h1, h2, hr, hw, hS⟩ := hj
  refine e_aloadn (pc := 272) dL_law_272 rfl ?_
  refine e_aloadn (pc := 273) dL_law_273 rfl ?_
  refine e_iloadn (pc := 274) dL_law_274 rfl ?_
  refine e_iconst (v := 1) (pc := 275) dL_law_275 (by decide) ?_
  refine e_iadd (pc := 276) dL_law_276 ?_
  refine e_sld (x := xs (i0 + 1)) (pc := 277) dL_law_277 (lw_vi (k := 1) rfl (by omega) hN) (lw_vx (k := 1) rfl (by omega) hN) ?_
  refine e_aloadn (pc := 278) dL_law_278 rfl ?_
  refine e_iloadn (pc := 279) dL_law_279 rfl ?_
  refine e_iconst (v := 2) (pc := 280) dL_law_280 (by decide) ?_
  refine e_iadd (pc := 281) dL_law_281 ?_
  refine e_sld (x := xs (i0 + 2)) (pc := 282) dL_law_282 (lw_vi (k := 2) rfl (by omega) hN) (lw_vx (k := 2) rfl (by omega) hN) ?_
  refine e_aloadn (pc := 283) dL_law_283 rfl ?_
  refine e_iloadn (pc := 284) dL_law_284 rfl ?_
  refine e_iconst (v := 3) (pc := 285) dL_law_285 (by decide) ?_
  refine e_iadd (pc := 286) dL_law_286 ?_
  refine e_sld (x := xs (i0 + 3)) (pc := 287) dL_law_287 (lw_vi (k := 3) rfl (by omega) hN) (lw_vx (k := 3) rfl (by omega) hN) ?_
  refine e_aloadn (pc := 288) dL_law_288 rfl ?_
  refine e_iloadn (pc := 289) dL_law_289 rfl ?_
  refine e_iconst (v := 4) (pc := 290) dL_law_290 (by decide) ?_
  refine e_iadd (pc := 291) dL_law_291 ?_
  refine e_sld (x := xs (i0 + 4)) (pc := 292) dL_law_292 (lw_vi (k := 4) rfl (by omega) hN) (lw_vx (k := 4) rfl (by omega) hN) ?_
  refine e_aloadn (pc := 293) dL_law_293 rfl ?_
  refine e_iloadn (pc := 294) dL_law_294 rfl ?_
  refine e_iconst (v := 5) (pc := 295) dL_law_295 (by decide) ?_
  refine e_iadd (pc := 296) dL_law_296 ?_
  refine e_sld (x := xs (i0 + 5)) (pc := 297) dL_law_297 (lw_vi (k := 5) rfl (by omega) hN) (lw_vx (k := 5) rfl (by omega) hN) ?_
  refine e_aloadn (pc := 298) dL_law_298 rfl ?_
  refine e_iloadn (pc := 299) dL_law_299 rfl ?_
  refine e_bipush (v := 6) (pc := 300) dL_law_300 (by decide) ?_
  refine e_iadd (pc := 302) dL_law_302 ?_
  refine e_sld (x := xs (i0 + 6)) (pc := 303) dL_law_303 (lw_vi (k := 6) rfl (by omega) hN) (lw_vx (k := 6) rfl (by omega) hN) ?_
  refine e_callV (pc := 304) hS dL_law_304 kL_23 hw rfl rfl rfl (lw_CR h1 (Nat.le_of_ble_eq_true rfl) (by omega) (by omega)) rfl (Nat.le_of_ble_eq_true rfl) (fun r w1 h => ?_)
  obtain ⟨rfl, ⟨fs1, hw1⟩, hT⟩ := h
  refine e_pop (pc := 307) dL_law_307 rfl ?_
  refine e_aloadn (pc := 308) dL_law_308 rfl ?_
  refine e_aloadn (pc := 309) dL_law_309 rfl ?_
  refine e_iloadn (pc := 310) dL_law_310 rfl ?_
  refine e_iconst (v := 1) (pc := 311) dL_law_311 (by decide) ?_
  refine e_iadd (pc := 312) dL_law_312 ?_
  refine e_sld (x := xs (i0 + 1)) (pc := 313) dL_law_313 (lw_vi (k := 1) rfl (by omega) hN) (lw_vx (k := 1) rfl (by omega) hN) ?_
  refine e_aloadn (pc := 314) dL_law_314 rfl ?_
  refine e_iloadn (pc := 315) dL_law_315 rfl ?_
  refine e_iconst (v := 2) (pc := 316) dL_law_316 (by decide) ?_
  refine e_iadd (pc := 317) dL_law_317 ?_
  refine e_sld (x := xs (i0 + 2)) (pc := 318) dL_law_318 (lw_vi (k := 2) rfl (by omega) hN) (lw_vx (k := 2) rfl (by omega) hN) ?_
  refine e_aloadn (pc := 319) dL_law_319 rfl ?_
  refine e_iloadn (pc := 320) dL_law_320 rfl ?_
  refine e_iconst (v := 3) (pc := 321) dL_law_321 (by decide) ?_
  refine e_iadd (pc := 322) dL_law_322 ?_
  refine e_sld (x := xs (i0 + 3)) (pc := 323) dL_law_323 (lw_vi (k := 3) rfl (by omega) hN) (lw_vx (k := 3) rfl (by omega) hN) ?_
  refine e_aloadn (pc := 324) dL_law_324 rfl ?_
  refine e_iloadn (pc := 325) dL_law_325 rfl ?_
  refine e_iconst (v := 4) (pc := 326) dL_law_326 (by decide) ?_
  refine e_iadd (pc := 327) dL_law_327 ?_
  refine e_sld (x := xs (i0 + 4)) (pc := 328) dL_law_328 (lw_vi (k := 4) rfl (by omega) hN) (lw_vx (k := 4) rfl (by omega) hN) ?_
  refine e_aloadn (pc := 329) dL_law_329 rfl ?_
  refine e_iloadn (pc := 330) dL_law_330 rfl ?_
  refine e_iconst (v := 5) (pc := 331) dL_law_331 (by decide) ?_
  refine e_iadd (pc := 332) dL_law_332 ?_
  refine e_sld (x := xs (i0 + 5)) (pc := 333) dL_law_333 (lw_vi (k := 5) rfl (by omega) hN) (lw_vx (k := 5) rfl (by omega) hN) ?_
  refine e_aloadn (pc := 334) dL_law_334 rfl ?_
  refine e_iloadn (pc := 335) dL_law_335 rfl ?_
  refine e_bipush (v := 6) (pc := 336) dL_law_336 (by decide) ?_
  refine e_iadd (pc := 338) dL_law_338 ?_
  refine e_sld (x := xs (i0 + 6)) (pc := 339) dL_law_339 (lw_vi (k := 6) rfl (by omega) hN) (lw_vx (k := 6) rfl (by omega) hN) ?_
  refine e_cvX (pc := 340) hT dL_law_340 kL_27 hw1 rfl rfl rfl rfl (lw_CR h2 (Nat.le_of_ble_eq_true rfl) (by omega) (by omega)) (Nat.le_of_ble_eq_true rfl) (fun w2 hQ => ?_)
  refine e_pop (pc := 343) dL_law_343 rfl ?_
  refine e_goto (pc := 344) dL_law_344 (t := 1764) (by decide) ?_
  exact hK w2 hQ
theorem lw_c3 {N i0 : Nat} {xs : Nat → Int32} {E : Prop} {w : mc_W} {kc ks : Nat} {Q : mc_W → Prop} (hN : N ≤ 3584) (hi : i0 + 7 ≤ N) (hj : jI yX6_text cX6_text 3 yX7_text cX7_text 3 2 170 E [] w Q) (hk : kc ≤ 500000) (hs : ks ≤ 7000000) (hK : ∀ w2, Q w2 → mc_E R_law code 4 (mc_JL N xs) 1764 [some (.ref 1000300), some (.ref 0), some (.ref 29), some (.int (nI i0))] [] w2 (kc + 2) (ks + 170)) : mc_E R_law code 4 (mc_JL N xs) 347 [some (.ref 1000300), some (.ref 0), some (.ref 29), some (.int (nI i0))] [] w kc ks := by
  obtain ⟨r1, r2, d1, d2, fs, h1, h2, hr, hw, hS⟩ := hj
  refine e_aloadn (pc := 347) dL_law_347 rfl ?_
  refine e_callV (pc := 348) hS dL_law_348 kL_28 hw rfl rfl rfl (lw_CR h1 (Nat.le_of_ble_eq_true rfl) (by omega) (by omega)) rfl (Nat.le_of_ble_eq_true rfl) (fun r w1 h => ?_)
  obtain ⟨rfl, ⟨fs1, hw1⟩, hT⟩ := h
  refine e_pop (pc := 351) dL_law_351 rfl ?_
  refine e_aloadn (pc := 352) dL_law_352 rfl ?_
  refine e_cvX (pc := 353) hT dL_law_353 kL_32 hw1 rfl rfl rfl rfl (lw_CR h2 (Nat.le_of_ble_eq_true rfl) (by omega) (by omega)) (Nat.le_of_ble_eq_true rfl) (fun w2 hQ => ?_)
  refine e_pop (pc := 356) dL_law_356 rfl ?_
  refine e_goto (pc := 357) dL_law_357 (t := 1764) (by decide) ?_
  exact hK w2 hQ
theorem lw_c4 {N i0 : Nat} {xs : Nat → Int32} {E : Prop} {w : mc_W} {kc ks : Nat} {Q : mc_W → Prop} (hN : N ≤ 3584) (hi : i0 + 7 ≤ N) (hj : jI yX6_force cX6_force 3 yX7_force cX7_force 3 0 0 E [.int (xs (i0 + 1))] w Q) (hk : kc ≤ 500000) (hs : ks ≤ 7000000) (hK : ∀ w2, Q w2 → mc_E R_law code 4 (mc_JL N xs) 1764 [some (.ref 1000300), some (.ref 0), some (.ref 29), some (.int (nI i0))] [] w2 (kc + 0) (ks + 0)) : mc_E R_law code 4 (mc_JL N xs) 360 [some (.ref 1000300), some (.ref 0), some (.ref 29), some (.int (nI i0))] [] w kc ks := by
  obtain ⟨r1, r2, d1, d2, fs, h1, h2, hr, hw, hS⟩ := hj
  refine e_aloadn (pc := 360) dL_law_360 rfl ?_
  refine e_aloadn (pc := 361) dL_law_361 rfl ?_
  refine e_iloadn (pc := 362) dL_law_362 rfl ?_
  refine e_iconst (v := 1) (pc := 363) dL_law_363 (by decide) ?_
  refine e_iadd (pc := 364) dL_law_364 ?_
  refine e_sld (x := xs (i0 + 1)) (pc := 365) dL_law_365 (lw_vi (k := 1) rfl (by omega) hN) (lw_vx (k := 1) rfl (by omega) hN) ?_
  refine e_callV (pc := 366) hS dL_law_366 kL_33 hw rfl rfl rfl (lw_CR h1 (Nat.le_of_ble_eq_true rfl) (by omega) (by omega)) rfl (Nat.le_of_ble_eq_true rfl) (fun r w1 h => ?_)
  obtain ⟨rfl, ⟨fs1, hw1⟩, hT⟩ := h
  refine e_pop (pc := 369) dL_law_369 rfl ?_
  refine e_aloadn (pc := 370) dL_law_370 rfl ?_
  refine e_aloadn (pc := 371) dL_law_371 rfl ?_
  refine e_iloadn (pc := 372) dL_law_372 rfl ?_
  refine e_iconst (v := 1) (pc := 373) dL_law_373 (by decide) ?_
  refine e_iadd (pc := 374) dL_law_374 ?_
  refine e_sld (x := xs (i0 + 1)) (pc := 375) dL_law_375 (lw_vi (k := 1) rfl (by omega) hN) (lw_vx (k := 1) rfl (by omega) hN) ?_
  refine e_cvX (pc := 376) hT dL_law_376 kL_36 hw1 rfl rfl rfl rfl (lw_CR h2 (Nat.le_of_ble_eq_true rfl) (by omega) (by omega)) (Nat.le_of_ble_eq_true rfl) (fun w2 hQ => ?_)
  refine e_pop (pc := 379) dL_law_379 rfl ?_
  refine e_goto (pc := 380) dL_law_380 (t := 1764) (by decide) ?_
  exact hK w2 hQ
theorem lw_c5 {N i0 : Nat} {xs : Nat → Int32} {E : Prop} {w : mc_W} {kc ks : Nat} {Q : mc_W → Prop} (hN : N ≤ 3584) (hi : i0 + 7 ≤ N) (hj : jI yX6_asks cX6_asks 5 yX7_asks cX7_asks 5 0 0 E [.int (xs (i0 + 1)), .int (xs (i0 + 2)), .int (xs (i0 + 3)), .int (xs (i0 + 4))] w Q) (hk : kc ≤ 500000) (hs : ks ≤ 7000000) (hK : ∀ w2, Q w2 → mc_E R_law code 4 (mc_JL N xs) 1764 [some (.ref 1000300), some (.ref 0), some (.ref 29), some (.int (nI i0))] [] w2 (kc + 0) (ks + 0)) : mc_E R_law code 4 (mc_JL N xs) 383 [some (.ref 1000300), some (.ref 0), some (.ref 29), some (.int (nI i0))] [] w kc ks := by
  obtain ⟨r1, r2, d1, d2, fs, h1, h2, hr, hw, hS⟩ := hj
  refine e_aloadn (pc := 383) dL_law_383 rfl ?_
  refine e_aloadn (pc := 384) dL_law_384 rfl ?_
  refine e_iloadn (pc := 385) dL_law_385 rfl ?_
  refine e_iconst (v := 1) (pc := 386) dL_law_386 (by decide) ?_
  refine e_iadd (pc := 387) dL_law_387 ?_
  refine e_sld (x := xs (i0 + 1)) (pc := 388) dL_law_388 (lw_vi (k := 1) rfl (by omega) hN) (lw_vx (k := 1) rfl (by omega) hN) ?_
  refine e_aloadn (pc := 389) dL_law_389 rfl ?_
  refine e_iloadn (pc := 390) dL_law_390 rfl ?_
  refine e_iconst (v := 2) (pc := 391) dL_law_391 (by decide) ?_
  refine e_iadd (pc := 392) dL_law_392 ?_
  refine e_sld (x := xs (i0 + 2)) (pc := 393) dL_law_393 (lw_vi (k := 2) rfl (by omega) hN) (lw_vx (k := 2) rfl (by omega) hN) ?_
  refine e_aloadn (pc := 394) dL_law_394 rfl ?_
  refine e_iloadn (pc := 395) dL_law_395 rfl ?_
  refine e_iconst (v := 3) (pc := 396) dL_law_396 (by decide) ?_
  refine e_iadd (pc := 397) dL_law_397 ?_
  refine e_sld (x := xs (i0 + 3)) (pc := 398) dL_law_398 (lw_vi (k := 3) rfl (by omega) hN) (lw_vx (k := 3) rfl (by omega) hN) ?_
  refine e_aloadn (pc := 399) dL_law_399 rfl ?_
  refine e_iloadn (pc := 400) dL_law_400 rfl ?_
  refine e_iconst (v := 4) (pc := 401) dL_law_401 (by decide) ?_
  refine e_iadd (pc := 402) dL_law_402 ?_
  refine e_sld (x := xs (i0 + 4)) (pc := 403) dL_law_403 (lw_vi (k := 4) rfl (by omega) hN) (lw_vx (k := 4) rfl (by omega) hN) ?_
  refine e_callV (pc := 404) hS dL_law_404 kL_37 hw rfl rfl rfl (lw_CR h1 (Nat.le_of_ble_eq_true rfl) (by omega) (by omega)) rfl (Nat.le_of_ble_eq_true rfl) (fun r w1 h => ?_)
  obtain ⟨rfl, ⟨fs1, hw1⟩, hT⟩ := h
  refine e_pop (pc := 407) dL_law_407 rfl ?_
  refine e_aloadn (pc := 408) dL_law_408 rfl ?_
  refine e_aloadn (pc := 409) dL_law_409 rfl ?_
  refine e_iloadn (pc := 410) dL_law_410 rfl ?_
  refine e_iconst (v := 1) (pc := 411) dL_law_411 (by decide) ?_
  refine e_iadd (pc := 412) dL_law_412 ?_
  refine e_sld (x := xs (i0 + 1)) (pc := 413) dL_law_413 (lw_vi (k := 1) rfl (by omega) hN) (lw_vx (k := 1) rfl (by omega) hN) ?_
  refine e_aloadn (pc := 414) dL_law_414 rfl ?_
  refine e_iloadn (pc := 415) dL_law_415 rfl ?_
  refine e_iconst (v := 2) (pc := 416) dL_law_416 (by decide) ?_
  refine e_iadd (pc := 417) dL_law_417 ?_
  refine e_sld (x := xs (i0 + 2)) (pc := 418) dL_law_418 (lw_vi (k := 2) rfl (by omega) hN) (lw_vx (k := 2) rfl (by omega) hN) ?_
  refine e_aloadn (pc := 419) dL_law_419 rfl ?_
  refine e_iloadn (pc := 420) dL_law_420 rfl ?_
  refine e_iconst (v := 3) (pc := 421) dL_law_421 (by decide) ?_
  refine e_iadd (pc := 422) dL_law_422 ?_
  refine e_sld (x := xs (i0 + 3)) (pc := 423) dL_law_423 (lw_vi (k := 3) rfl (by omega) hN) (lw_vx (k := 3) rfl (by omega) hN) ?_
  refine e_aloadn (pc := 424) dL_law_424 rfl ?_
  refine e_iloadn (pc := 425) dL_law_425 rfl ?_
  refine e_iconst (v := 4) (pc := 426) dL_law_426 (by decide) ?_
  refine e_iadd (pc := 427) dL_law_427 ?_
  refine e_sld (x := xs (i0 + 4)) (pc := 428) dL_law_428 (lw_vi (k := 4) rfl (by omega) hN) (lw_vx (k := 4) rfl (by omega) hN) ?_
  refine e_cvX (pc := 429) hT dL_law_429 kL_41 hw1 rfl rfl rfl rfl (lw_CR h2 (Nat.le_of_ble_eq_true rfl) (by omega) (by omega)) (Nat.le_of_ble_eq_true rfl) (fun w2 hQ => ?_)
  refine e_pop (pc := 432) dL_law_432 rfl ?_
  refine e_goto (pc := 433) dL_law_433 (t := 1764) (by decide) ?_
  exact hK w2 hQ
theorem lw_c6 {N i0 : Nat} {xs : Nat → Int32} {E : Prop} {w : mc_W} {kc ks : Nat} {Q : mc_W → Prop} (hN : N ≤ 3584) (hi : i0 + 7 ≤ N) (hj : jI yX6_clerk cX6_clerk 4 yX7_clerk cX7_clerk 3 0 0 E [.int (xs (i0 + 1)), .int (xs (i0 + 2))] w Q) (hk : kc ≤ 500000) (hs : ks ≤ 7000000) (hK : ∀ w2, Q w2 → mc_E R_law code 4 (mc_JL N xs) 1764 [some (.ref 1000300), some (.ref 0), some (.ref 29), some (.int (nI i0))] [] w2 (kc + 0) (ks + 0)) : mc_E R_law code 4 (mc_JL N xs) 436 [some (.ref 1000300), some (.ref 0), some (.ref 29), some (.int (nI i0))] [] w kc ks := by
  obtain ⟨r1, r2, d1, d2, fs, h1, h2, hr, hw, hS⟩ := hj
  refine e_aloadn (pc := 436) dL_law_436 rfl ?_
  refine e_aloadn (pc := 437) dL_law_437 rfl ?_
  refine e_iloadn (pc := 438) dL_law_438 rfl ?_
  refine e_iconst (v := 1) (pc := 439) dL_law_439 (by decide) ?_
  refine e_iadd (pc := 440) dL_law_440 ?_
  refine e_sld (x := xs (i0 + 1)) (pc := 441) dL_law_441 (lw_vi (k := 1) rfl (by omega) hN) (lw_vx (k := 1) rfl (by omega) hN) ?_
  refine e_aloadn (pc := 442) dL_law_442 rfl ?_
  refine e_iloadn (pc := 443) dL_law_443 rfl ?_
  refine e_iconst (v := 2) (pc := 444) dL_law_444 (by decide) ?_
  refine e_iadd (pc := 445) dL_law_445 ?_
  refine e_sld (x := xs (i0 + 2)) (pc := 446) dL_law_446 (lw_vi (k := 2) rfl (by omega) hN) (lw_vx (k := 2) rfl (by omega) hN) ?_
  refine e_callV (pc := 447) hS dL_law_447 kL_42 hw rfl rfl rfl (lw_CR h1 (Nat.le_of_ble_eq_true rfl) (by omega) (by omega)) rfl (Nat.le_of_ble_eq_true rfl) (fun r w1 h => ?_)
  obtain ⟨rfl, ⟨fs1, hw1⟩, hT⟩ := h
  refine e_pop (pc := 450) dL_law_450 rfl ?_
  refine e_aloadn (pc := 451) dL_law_451 rfl ?_
  refine e_aloadn (pc := 452) dL_law_452 rfl ?_
  refine e_iloadn (pc := 453) dL_law_453 rfl ?_
  refine e_iconst (v := 1) (pc := 454) dL_law_454 (by decide) ?_
  refine e_iadd (pc := 455) dL_law_455 ?_
  refine e_sld (x := xs (i0 + 1)) (pc := 456) dL_law_456 (lw_vi (k := 1) rfl (by omega) hN) (lw_vx (k := 1) rfl (by omega) hN) ?_
  refine e_aloadn (pc := 457) dL_law_457 rfl ?_
  refine e_iloadn (pc := 458) dL_law_458 rfl ?_
  refine e_iconst (v := 2) (pc := 459) dL_law_459 (by decide) ?_
  refine e_iadd (pc := 460) dL_law_460 ?_
  refine e_sld (x := xs (i0 + 2)) (pc := 461) dL_law_461 (lw_vi (k := 2) rfl (by omega) hN) (lw_vx (k := 2) rfl (by omega) hN) ?_
  refine e_cvX (pc := 462) hT dL_law_462 kL_45 hw1 rfl rfl rfl rfl (lw_CR h2 (Nat.le_of_ble_eq_true rfl) (by omega) (by omega)) (Nat.le_of_ble_eq_true rfl) (fun w2 hQ => ?_)
  refine e_pop (pc := 465) dL_law_465 rfl ?_
  refine e_goto (pc := 466) dL_law_466 (t := 1764) (by decide) ?_
  exact hK w2 hQ
theorem lw_c7 {N i0 : Nat} {xs : Nat → Int32} {E : Prop} {w : mc_W} {kc ks : Nat} {Q : mc_W → Prop} (hN : N ≤ 3584) (hi : i0 + 7 ≤ N) (hj : jI yX6_told cX6_told 3 yX7_told cX7_told 3 0 0 E [.int (xs (i0 + 1)), .int (xs (i0 + 2))] w Q) (hk : kc ≤ 500000) (hs : ks ≤ 7000000) (hK : ∀ w2, Q w2 → mc_E R_law code 4 (mc_JL N xs) 1764 [some (.ref 1000300), some (.ref 0), some (.ref 29), some (.int (nI i0))] [] w2 (kc + 0) (ks + 0)) : mc_E R_law code 4 (mc_JL N xs) 469 [some (.ref 1000300), some (.ref 0), some (.ref 29), some (.int (nI i0))] [] w kc ks := by
  obtain ⟨r1, r2, d1, d2, fs, h1, h2, hr, hw, hS⟩ := hj
  refine e_aloadn (pc := 469) dL_law_469 rfl ?_
  refine e_aloadn (pc := 470) dL_law_470 rfl ?_
  refine e_iloadn (pc := 471) dL_law_471 rfl ?_
  refine e_iconst (v := 1) (pc := 472) dL_law_472 (by decide) ?_
  refine e_iadd (pc := 473) dL_law_473 ?_
  refine e_sld (x := xs (i0 + 1)) (pc := 474) dL_law_474 (lw_vi (k := 1) rfl (by omega) hN) (lw_vx (k := 1) rfl (by omega) hN) ?_
  refine e_aloadn (pc := 475) dL_law_475 rfl ?_
  refine e_iloadn (pc := 476) dL_law_476 rfl ?_
  refine e_iconst (v := 2) (pc := 477) dL_law_477 (by decide) ?_
  refine e_iadd (pc := 478) dL_law_478 ?_
  refine e_sld (x := xs (i0 + 2)) (pc := 479) dL_law_479 (lw_vi (k := 2) rfl (by omega) hN) (lw_vx (k := 2) rfl (by omega) hN) ?_
  refine e_callV (pc := 480) hS dL_law_480 kL_46 hw rfl rfl rfl (lw_CR h1 (Nat.le_of_ble_eq_true rfl) (by omega) (by omega)) rfl (Nat.le_of_ble_eq_true rfl) (fun r w1 h => ?_)
  obtain ⟨rfl, ⟨fs1, hw1⟩, hT⟩ := h
  refine e_pop (pc := 483) dL_law_483 rfl ?_
  refine e_aloadn (pc := 484) dL_law_484 rfl ?_
  refine e_aloadn (pc := 485) dL_law_485 rfl ?_
  refine e_iloadn (pc := 486) dL_law_486 rfl ?_
  refine e_iconst (v := 1) (pc := 487) dL_law_487 (by decide) ?_
  refine e_iadd (pc := 488) dL_law_488 ?_
  refine e_sld (x := xs (i0 + 1)) (pc := 489) dL_law_489 (lw_vi (k := 1) rfl (by omega) hN) (lw_vx (k := 1) rfl (by omega) hN) ?_
  refine e_aloadn (pc := 490) dL_law_490 rfl ?_
  refine e_iloadn (pc := 491) dL_law_491 rfl ?_
  refine e_iconst (v := 2) (pc := 492) dL_law_492 (by decide) ?_
  refine e_iadd (pc := 493) dL_law_493 ?_
  refine e_sld (x := xs (i0 + 2)) (pc := 494) dL_law_494 (lw_vi (k := 2) rfl (by omega) hN) (lw_vx (k := 2) rfl (by omega) hN) ?_
  refine e_cvX (pc := 495) hT dL_law_495 kL_49 hw1 rfl rfl rfl rfl (lw_CR h2 (Nat.le_of_ble_eq_true rfl) (by omega) (by omega)) (Nat.le_of_ble_eq_true rfl) (fun w2 hQ => ?_)
  refine e_pop (pc := 498) dL_law_498 rfl ?_
  refine e_goto (pc := 499) dL_law_499 (t := 1764) (by decide) ?_
  exact hK w2 hQ
theorem lw_c8 {N i0 : Nat} {xs : Nat → Int32} {E : Prop} {w : mc_W} {kc ks : Nat} {Q : mc_W → Prop} (hN : N ≤ 3584) (hi : i0 + 7 ≤ N) (hj : jI yX6_figure cX6_figure 5 yX7_figure cX7_figure 4 0 0 E [.int (xs (i0 + 1)), .int (xs (i0 + 2)), .int (xs (i0 + 3))] w Q) (hk : kc ≤ 500000) (hs : ks ≤ 7000000) (hK : ∀ w2, Q w2 → mc_E R_law code 4 (mc_JL N xs) 1764 [some (.ref 1000300), some (.ref 0), some (.ref 29), some (.int (nI i0))] [] w2 (kc + 0) (ks + 0)) : mc_E R_law code 4 (mc_JL N xs) 502 [some (.ref 1000300), some (.ref 0), some (.ref 29), some (.int (nI i0))] [] w kc ks := by
  obtain ⟨r1, r2, d1, d2, fs, h1, h2, hr, hw, hS⟩ := hj
  refine e_aloadn (pc := 502) dL_law_502 rfl ?_
  refine e_aloadn (pc := 503) dL_law_503 rfl ?_
  refine e_iloadn (pc := 504) dL_law_504 rfl ?_
  refine e_iconst (v := 1) (pc := 505) dL_law_505 (by decide) ?_
  refine e_iadd (pc := 506) dL_law_506 ?_
  refine e_sld (x := xs (i0 + 1)) (pc := 507) dL_law_507 (lw_vi (k := 1) rfl (by omega) hN) (lw_vx (k := 1) rfl (by omega) hN) ?_
  refine e_aloadn (pc := 508) dL_law_508 rfl ?_
  refine e_iloadn (pc := 509) dL_law_509 rfl ?_
  refine e_iconst (v := 2) (pc := 510) dL_law_510 (by decide) ?_
  refine e_iadd (pc := 511) dL_law_511 ?_
  refine e_sld (x := xs (i0 + 2)) (pc := 512) dL_law_512 (lw_vi (k := 2) rfl (by omega) hN) (lw_vx (k := 2) rfl (by omega) hN) ?_
  refine e_aloadn (pc := 513) dL_law_513 rfl ?_
  refine e_iloadn (pc := 514) dL_law_514 rfl ?_
  refine e_iconst (v := 3) (pc := 515) dL_law_515 (by decide) ?_
  refine e_iadd (pc := 516) dL_law_516 ?_
  refine e_sld (x := xs (i0 + 3)) (pc := 517) dL_law_517 (lw_vi (k := 3) rfl (by omega) hN) (lw_vx (k := 3) rfl (by omega) hN) ?_
  refine e_callV (pc := 518) hS dL_law_518 kL_50 hw rfl rfl rfl (lw_CR h1 (Nat.le_of_ble_eq_true rfl) (by omega) (by omega)) rfl (Nat.le_of_ble_eq_true rfl) (fun r w1 h => ?_)
  obtain ⟨rfl, ⟨fs1, hw1⟩, hT⟩ := h
  refine e_pop (pc := 521) dL_law_521 rfl ?_
  refine e_aloadn (pc := 522) dL_law_522 rfl ?_
  refine e_aloadn (pc := 523) dL_law_523 rfl ?_
  refine e_iloadn (pc := 524) dL_law_524 rfl ?_
  refine e_iconst (v := 1) (pc := 525) dL_law_525 (by decide) ?_
  refine e_iadd (pc := 526) dL_law_526 ?_
  refine e_sld (x := xs (i0 + 1)) (pc := 527) dL_law_527 (lw_vi (k := 1) rfl (by omega) hN) (lw_vx (k := 1) rfl (by omega) hN) ?_
  refine e_aloadn (pc := 528) dL_law_528 rfl ?_
  refine e_iloadn (pc := 529) dL_law_529 rfl ?_
  refine e_iconst (v := 2) (pc := 530) dL_law_530 (by decide) ?_
  refine e_iadd (pc := 531) dL_law_531 ?_
  refine e_sld (x := xs (i0 + 2)) (pc := 532) dL_law_532 (lw_vi (k := 2) rfl (by omega) hN) (lw_vx (k := 2) rfl (by omega) hN) ?_
  refine e_aloadn (pc := 533) dL_law_533 rfl ?_
  refine e_iloadn (pc := 534) dL_law_534 rfl ?_
  refine e_iconst (v := 3) (pc := 535) dL_law_535 (by decide) ?_
  refine e_iadd (pc := 536) dL_law_536 ?_
  refine e_sld (x := xs (i0 + 3)) (pc := 537) dL_law_537 (lw_vi (k := 3) rfl (by omega) hN) (lw_vx (k := 3) rfl (by omega) hN) ?_
  refine e_cvX (pc := 538) hT dL_law_538 kL_54 hw1 rfl rfl rfl rfl (lw_CR h2 (Nat.le_of_ble_eq_true rfl) (by omega) (by omega)) (Nat.le_of_ble_eq_true rfl) (fun w2 hQ => ?_)
  refine e_pop (pc := 541) dL_law_541 rfl ?_
  refine e_goto (pc := 542) dL_law_542 (t := 1764) (by decide) ?_
  exact hK w2 hQ
theorem lw_c9 {N i0 : Nat} {xs : Nat → Int32} {E : Prop} {w : mc_W} {kc ks : Nat} {Q : mc_W → Prop} (hN : N ≤ 3584) (hi : i0 + 7 ≤ N) (hj : jL yX6_reads cX6_reads 9 yX7_reads cX7_reads 5 0 0 E [.int (xs (i0 + 1)), .int (xs (i0 + 2))] w Q) (hk : kc ≤ 500000) (hs : ks ≤ 7000000) (hK : ∀ w2, Q w2 → mc_E R_law code 4 (mc_JL N xs) 1764 [some (.ref 1000300), some (.ref 0), some (.ref 29), some (.int (nI i0))] [] w2 (kc + 0) (ks + 0)) : mc_E R_law code 4 (mc_JL N xs) 545 [some (.ref 1000300), some (.ref 0), some (.ref 29), some (.int (nI i0))] [] w kc ks := by
  obtain ⟨r1, r2, d1, d2, fs, h1, h2, hr, hw, hS⟩ := hj
  refine e_aloadn (pc := 545) dL_law_545 rfl ?_
  refine e_aloadn (pc := 546) dL_law_546 rfl ?_
  refine e_iloadn (pc := 547) dL_law_547 rfl ?_
  refine e_iconst (v := 1) (pc := 548) dL_law_548 (by decide) ?_
  refine e_iadd (pc := 549) dL_law_549 ?_
  refine e_sld (x := xs (i0 + 1)) (pc := 550) dL_law_550 (lw_vi (k := 1) rfl (by omega) hN) (lw_vx (k := 1) rfl (by omega) hN) ?_
  refine e_aloadn (pc := 551) dL_law_551 rfl ?_
  refine e_iloadn (pc := 552) dL_law_552 rfl ?_
  refine e_iconst (v := 2) (pc := 553) dL_law_553 (by decide) ?_
  refine e_iadd (pc := 554) dL_law_554 ?_
  refine e_sld (x := xs (i0 + 2)) (pc := 555) dL_law_555 (lw_vi (k := 2) rfl (by omega) hN) (lw_vx (k := 2) rfl (by omega) hN) ?_
  refine e_callV (pc := 556) hS dL_law_556 kL_55 hw rfl rfl rfl (lw_CR h1 (Nat.le_of_ble_eq_true rfl) (by omega) (by omega)) rfl (Nat.le_of_ble_eq_true rfl) (fun r w1 h => ?_)
  obtain ⟨rfl, ⟨fs1, hw1⟩, hT⟩ := h
  refine lw_pop2 (pc := 559) dL_law_559 rfl ?_
  refine e_aloadn (pc := 560) dL_law_560 rfl ?_
  refine e_aloadn (pc := 561) dL_law_561 rfl ?_
  refine e_iloadn (pc := 562) dL_law_562 rfl ?_
  refine e_iconst (v := 1) (pc := 563) dL_law_563 (by decide) ?_
  refine e_iadd (pc := 564) dL_law_564 ?_
  refine e_sld (x := xs (i0 + 1)) (pc := 565) dL_law_565 (lw_vi (k := 1) rfl (by omega) hN) (lw_vx (k := 1) rfl (by omega) hN) ?_
  refine e_aloadn (pc := 566) dL_law_566 rfl ?_
  refine e_iloadn (pc := 567) dL_law_567 rfl ?_
  refine e_iconst (v := 2) (pc := 568) dL_law_568 (by decide) ?_
  refine e_iadd (pc := 569) dL_law_569 ?_
  refine e_sld (x := xs (i0 + 2)) (pc := 570) dL_law_570 (lw_vi (k := 2) rfl (by omega) hN) (lw_vx (k := 2) rfl (by omega) hN) ?_
  refine e_cvX (pc := 571) hT dL_law_571 kL_59 hw1 rfl rfl rfl rfl (lw_CR h2 (Nat.le_of_ble_eq_true rfl) (by omega) (by omega)) (Nat.le_of_ble_eq_true rfl) (fun w2 hQ => ?_)
  refine lw_pop2 (pc := 574) dL_law_574 rfl ?_
  refine e_goto (pc := 575) dL_law_575 (t := 1764) (by decide) ?_
  exact hK w2 hQ
theorem lw_c10 {N i0 : Nat} {xs : Nat → Int32} {E : Prop} {w : mc_W} {kc ks : Nat} {Q : mc_W → Prop} (hN : N ≤ 3584) (hi : i0 + 7 ≤ N) (hj : jL yX6_plain cX6_plain 4 yX7_plain cX7_plain 3 0 0 E [.int (xs (i0 + 1)), .int (xs (i0 + 2))] w Q) (hk : kc ≤ 500000) (hs : ks ≤ 7000000) (hK : ∀ w2, Q w2 → mc_E R_law code 4 (mc_JL N xs) 1764 [some (.ref 1000300), some (.ref 0), some (.ref 29), some (.int (nI i0))] [] w2 (kc + 0) (ks + 0)) : mc_E R_law code 4 (mc_JL N xs) 578 [some (.ref 1000300), some (.ref 0), some (.ref 29), some (.int (nI i0))] [] w kc ks := by
  obtain ⟨r1, r2, d1, d2, fs, h1, h2, hr, hw, hS⟩ := hj
  refine e_aloadn (pc := 578) dL_law_578 rfl ?_
  refine e_aloadn (pc := 579) dL_law_579 rfl ?_
  refine e_iloadn (pc := 580) dL_law_580 rfl ?_
  refine e_iconst (v := 1) (pc := 581) dL_law_581 (by decide) ?_
  refine e_iadd (pc := 582) dL_law_582 ?_
  refine e_sld (x := xs (i0 + 1)) (pc := 583) dL_law_583 (lw_vi (k := 1) rfl (by omega) hN) (lw_vx (k := 1) rfl (by omega) hN) ?_
  refine e_aloadn (pc := 584) dL_law_584 rfl ?_
  refine e_iloadn (pc := 585) dL_law_585 rfl ?_
  refine e_iconst (v := 2) (pc := 586) dL_law_586 (by decide) ?_
  refine e_iadd (pc := 587) dL_law_587 ?_
  refine e_sld (x := xs (i0 + 2)) (pc := 588) dL_law_588 (lw_vi (k := 2) rfl (by omega) hN) (lw_vx (k := 2) rfl (by omega) hN) ?_
  refine e_callV (pc := 589) hS dL_law_589 kL_60 hw rfl rfl rfl (lw_CR h1 (Nat.le_of_ble_eq_true rfl) (by omega) (by omega)) rfl (Nat.le_of_ble_eq_true rfl) (fun r w1 h => ?_)
  obtain ⟨rfl, ⟨fs1, hw1⟩, hT⟩ := h
  refine lw_pop2 (pc := 592) dL_law_592 rfl ?_
  refine e_aloadn (pc := 593) dL_law_593 rfl ?_
  refine e_aloadn (pc := 594) dL_law_594 rfl ?_
  refine e_iloadn (pc := 595) dL_law_595 rfl ?_
  refine e_iconst (v := 1) (pc := 596) dL_law_596 (by decide) ?_
  refine e_iadd (pc := 597) dL_law_597 ?_
  refine e_sld (x := xs (i0 + 1)) (pc := 598) dL_law_598 (lw_vi (k := 1) rfl (by omega) hN) (lw_vx (k := 1) rfl (by omega) hN) ?_
  refine e_aloadn (pc := 599) dL_law_599 rfl ?_
  refine e_iloadn (pc := 600) dL_law_600 rfl ?_
  refine e_iconst (v := 2) (pc := 601) dL_law_601 (by decide) ?_
  refine e_iadd (pc := 602) dL_law_602 ?_
  refine e_sld (x := xs (i0 + 2)) (pc := 603) dL_law_603 (lw_vi (k := 2) rfl (by omega) hN) (lw_vx (k := 2) rfl (by omega) hN) ?_
  refine e_cvX (pc := 604) hT dL_law_604 kL_63 hw1 rfl rfl rfl rfl (lw_CR h2 (Nat.le_of_ble_eq_true rfl) (by omega) (by omega)) (Nat.le_of_ble_eq_true rfl) (fun w2 hQ => ?_)
  refine lw_pop2 (pc := 607) dL_law_607 rfl ?_
  refine e_goto (pc := 608) dL_law_608 (t := 1764) (by decide) ?_
  exact hK w2 hQ
theorem lw_c11 {N i0 : Nat} {xs : Nat → Int32} {E : Prop} {w : mc_W} {kc ks : Nat} {Q : mc_W → Prop} (hN : N ≤ 3584) (hi : i0 + 7 ≤ N) (hj : jL yX6_adds cX6_adds 5 yX7_adds cX7_adds 4 0 0 E [.int (xs (i0 + 1)), .int (xs (i0 + 2)), .int (xs (i0 + 3))] w Q) (hk : kc ≤ 500000) (hs : ks ≤ 7000000) (hK : ∀ w2, Q w2 → mc_E R_law code 4 (mc_JL N xs) 1764 [some (.ref 1000300), some (.ref 0), some (.ref 29), some (.int (nI i0))] [] w2 (kc + 0) (ks + 0)) : mc_E R_law code 4 (mc_JL N xs) 611 [some (.ref 1000300), some (.ref 0), some (.ref 29), some (.int (nI i0))] [] w kc ks := by
  obtain ⟨r1, r2, d1, d2, fs, h1, h2, hr, hw, hS⟩ := hj
  refine e_aloadn (pc := 611) dL_law_611 rfl ?_
  refine e_aloadn (pc := 612) dL_law_612 rfl ?_
  refine e_iloadn (pc := 613) dL_law_613 rfl ?_
  refine e_iconst (v := 1) (pc := 614) dL_law_614 (by decide) ?_
  refine e_iadd (pc := 615) dL_law_615 ?_
  refine e_sld (x := xs (i0 + 1)) (pc := 616) dL_law_616 (lw_vi (k := 1) rfl (by omega) hN) (lw_vx (k := 1) rfl (by omega) hN) ?_
  refine e_aloadn (pc := 617) dL_law_617 rfl ?_
  refine e_iloadn (pc := 618) dL_law_618 rfl ?_
  refine e_iconst (v := 2) (pc := 619) dL_law_619 (by decide) ?_
  refine e_iadd (pc := 620) dL_law_620 ?_
  refine e_sld (x := xs (i0 + 2)) (pc := 621) dL_law_621 (lw_vi (k := 2) rfl (by omega) hN) (lw_vx (k := 2) rfl (by omega) hN) ?_
  refine e_aloadn (pc := 622) dL_law_622 rfl ?_
  refine e_iloadn (pc := 623) dL_law_623 rfl ?_
  refine e_iconst (v := 3) (pc := 624) dL_law_624 (by decide) ?_
  refine e_iadd (pc := 625) dL_law_625 ?_
  refine e_sld (x := xs (i0 + 3)) (pc := 626) dL_law_626 (lw_vi (k := 3) rfl (by omega) hN) (lw_vx (k := 3) rfl (by omega) hN) ?_
  refine e_callV (pc := 627) hS dL_law_627 kL_64 hw rfl rfl rfl (lw_CR h1 (Nat.le_of_ble_eq_true rfl) (by omega) (by omega)) rfl (Nat.le_of_ble_eq_true rfl) (fun r w1 h => ?_)
  obtain ⟨rfl, ⟨fs1, hw1⟩, hT⟩ := h
  refine lw_pop2 (pc := 630) dL_law_630 rfl ?_
  refine e_aloadn (pc := 631) dL_law_631 rfl ?_
  refine e_aloadn (pc := 632) dL_law_632 rfl ?_
  refine e_iloadn (pc := 633) dL_law_633 rfl ?_
  refine e_iconst (v := 1) (pc := 634) dL_law_634 (by decide) ?_
  refine e_iadd (pc := 635) dL_law_635 ?_
  refine e_sld (x := xs (i0 + 1)) (pc := 636) dL_law_636 (lw_vi (k := 1) rfl (by omega) hN) (lw_vx (k := 1) rfl (by omega) hN) ?_
  refine e_aloadn (pc := 637) dL_law_637 rfl ?_
  refine e_iloadn (pc := 638) dL_law_638 rfl ?_
  refine e_iconst (v := 2) (pc := 639) dL_law_639 (by decide) ?_
  refine e_iadd (pc := 640) dL_law_640 ?_
  refine e_sld (x := xs (i0 + 2)) (pc := 641) dL_law_641 (lw_vi (k := 2) rfl (by omega) hN) (lw_vx (k := 2) rfl (by omega) hN) ?_
  refine e_aloadn (pc := 642) dL_law_642 rfl ?_
  refine e_iloadn (pc := 643) dL_law_643 rfl ?_
  refine e_iconst (v := 3) (pc := 644) dL_law_644 (by decide) ?_
  refine e_iadd (pc := 645) dL_law_645 ?_
  refine e_sld (x := xs (i0 + 3)) (pc := 646) dL_law_646 (lw_vi (k := 3) rfl (by omega) hN) (lw_vx (k := 3) rfl (by omega) hN) ?_
  refine e_cvX (pc := 647) hT dL_law_647 kL_68 hw1 rfl rfl rfl rfl (lw_CR h2 (Nat.le_of_ble_eq_true rfl) (by omega) (by omega)) (Nat.le_of_ble_eq_true rfl) (fun w2 hQ => ?_)
  refine lw_pop2 (pc := 650) dL_law_650 rfl ?_
  refine e_goto (pc := 651) dL_law_651 (t := 1764) (by decide) ?_
  exact hK w2 hQ
theorem lw_c12 {N i0 : Nat} {xs : Nat → Int32} {E : Prop} {w : mc_W} {kc ks : Nat} {Q : mc_W → Prop} (hN : N ≤ 3584) (hi : i0 + 7 ≤ N) (hj : jI yX6_apart cX6_apart 8 yX7_apart cX7_apart 7 0 0 E [.int (xs (i0 + 1)), .int (xs (i0 + 2)), .int (xs (i0 + 3))] w Q) (hk : kc ≤ 500000) (hs : ks ≤ 7000000) (hK : ∀ w2, Q w2 → mc_E R_law code 4 (mc_JL N xs) 1764 [some (.ref 1000300), some (.ref 0), some (.ref 29), some (.int (nI i0))] [] w2 (kc + 0) (ks + 0)) : mc_E R_law code 4 (mc_JL N xs) 654 [some (.ref 1000300), some (.ref 0), some (.ref 29), some (.int (nI i0))] [] w kc ks := by
  obtain ⟨r1, r2, d1, d2, fs, h1, h2, hr, hw, hS⟩ := hj
  refine e_aloadn (pc := 654) dL_law_654 rfl ?_
  refine e_aloadn (pc := 655) dL_law_655 rfl ?_
  refine e_iloadn (pc := 656) dL_law_656 rfl ?_
  refine e_iconst (v := 1) (pc := 657) dL_law_657 (by decide) ?_
  refine e_iadd (pc := 658) dL_law_658 ?_
  refine e_sld (x := xs (i0 + 1)) (pc := 659) dL_law_659 (lw_vi (k := 1) rfl (by omega) hN) (lw_vx (k := 1) rfl (by omega) hN) ?_
  refine e_aloadn (pc := 660) dL_law_660 rfl ?_
  refine e_iloadn (pc := 661) dL_law_661 rfl ?_
  refine e_iconst (v := 2) (pc := 662) dL_law_662 (by decide) ?_
  refine e_iadd (pc := 663) dL_law_663 ?_
  refine e_sld (x := xs (i0 + 2)) (pc := 664) dL_law_664 (lw_vi (k := 2) rfl (by omega) hN) (lw_vx (k := 2) rfl (by omega) hN) ?_
  refine e_aloadn (pc := 665) dL_law_665 rfl ?_
  refine e_iloadn (pc := 666) dL_law_666 rfl ?_
  refine e_iconst (v := 3) (pc := 667) dL_law_667 (by decide) ?_
  refine e_iadd (pc := 668) dL_law_668 ?_
  refine e_sld (x := xs (i0 + 3)) (pc := 669) dL_law_669 (lw_vi (k := 3) rfl (by omega) hN) (lw_vx (k := 3) rfl (by omega) hN) ?_
  refine e_callV (pc := 670) hS dL_law_670 kL_69 hw rfl rfl rfl (lw_CR h1 (Nat.le_of_ble_eq_true rfl) (by omega) (by omega)) rfl (Nat.le_of_ble_eq_true rfl) (fun r w1 h => ?_)
  obtain ⟨rfl, ⟨fs1, hw1⟩, hT⟩ := h
  refine e_pop (pc := 673) dL_law_673 rfl ?_
  refine e_aloadn (pc := 674) dL_law_674 rfl ?_
  refine e_aloadn (pc := 675) dL_law_675 rfl ?_
  refine e_iloadn (pc := 676) dL_law_676 rfl ?_
  refine e_iconst (v := 1) (pc := 677) dL_law_677 (by decide) ?_
  refine e_iadd (pc := 678) dL_law_678 ?_
  refine e_sld (x := xs (i0 + 1)) (pc := 679) dL_law_679 (lw_vi (k := 1) rfl (by omega) hN) (lw_vx (k := 1) rfl (by omega) hN) ?_
  refine e_aloadn (pc := 680) dL_law_680 rfl ?_
  refine e_iloadn (pc := 681) dL_law_681 rfl ?_
  refine e_iconst (v := 2) (pc := 682) dL_law_682 (by decide) ?_
  refine e_iadd (pc := 683) dL_law_683 ?_
  refine e_sld (x := xs (i0 + 2)) (pc := 684) dL_law_684 (lw_vi (k := 2) rfl (by omega) hN) (lw_vx (k := 2) rfl (by omega) hN) ?_
  refine e_aloadn (pc := 685) dL_law_685 rfl ?_
  refine e_iloadn (pc := 686) dL_law_686 rfl ?_
  refine e_iconst (v := 3) (pc := 687) dL_law_687 (by decide) ?_
  refine e_iadd (pc := 688) dL_law_688 ?_
  refine e_sld (x := xs (i0 + 3)) (pc := 689) dL_law_689 (lw_vi (k := 3) rfl (by omega) hN) (lw_vx (k := 3) rfl (by omega) hN) ?_
  refine e_cvX (pc := 690) hT dL_law_690 kL_72 hw1 rfl rfl rfl rfl (lw_CR h2 (Nat.le_of_ble_eq_true rfl) (by omega) (by omega)) (Nat.le_of_ble_eq_true rfl) (fun w2 hQ => ?_)
  refine e_pop (pc := 693) dL_law_693 rfl ?_
  refine e_goto (pc := 694) dL_law_694 (t := 1764) (by decide) ?_
  exact hK w2 hQ
theorem lw_c13 {N i0 : Nat} {xs : Nat → Int32} {E : Prop} {w : mc_W} {kc ks : Nat} {Q : mc_W → Prop} (hN : N ≤ 3584) (hi : i0 + 7 ≤ N) (hj : jL yX6_book cX6_book 13 yX7_book cX7_book 9 0 0 E [.int (xs (i0 + 1)), .int (xs (i0 + 2)), .int (xs (i0 + 3))] w Q) (hk : kc ≤ 500000) (hs : ks ≤ 7000000) (hK : ∀ w2, Q w2 → mc_E R_law code 4 (mc_JL N xs) 1764 [some (.ref 1000300), some (.ref 0), some (.ref 29), some (.int (nI i0))] [] w2 (kc + 0) (ks + 0)) : mc_E R_law code 4 (mc_JL N xs) 697 [some (.ref 1000300), some (.ref 0), some (.ref 29), some (.int (nI i0))] [] w kc ks := by
  obtain ⟨r1, r2, d1, d2, fs, h1, h2, hr, hw, hS⟩ := hj
  refine e_aloadn (pc := 697) dL_law_697 rfl ?_
  refine e_aloadn (pc := 698) dL_law_698 rfl ?_
  refine e_iloadn (pc := 699) dL_law_699 rfl ?_
  refine e_iconst (v := 1) (pc := 700) dL_law_700 (by decide) ?_
  refine e_iadd (pc := 701) dL_law_701 ?_
  refine e_sld (x := xs (i0 + 1)) (pc := 702) dL_law_702 (lw_vi (k := 1) rfl (by omega) hN) (lw_vx (k := 1) rfl (by omega) hN) ?_
  refine e_aloadn (pc := 703) dL_law_703 rfl ?_
  refine e_iloadn (pc := 704) dL_law_704 rfl ?_
  refine e_iconst (v := 2) (pc := 705) dL_law_705 (by decide) ?_
  refine e_iadd (pc := 706) dL_law_706 ?_
  refine e_sld (x := xs (i0 + 2)) (pc := 707) dL_law_707 (lw_vi (k := 2) rfl (by omega) hN) (lw_vx (k := 2) rfl (by omega) hN) ?_
  refine e_aloadn (pc := 708) dL_law_708 rfl ?_
  refine e_iloadn (pc := 709) dL_law_709 rfl ?_
  refine e_iconst (v := 3) (pc := 710) dL_law_710 (by decide) ?_
  refine e_iadd (pc := 711) dL_law_711 ?_
  refine e_sld (x := xs (i0 + 3)) (pc := 712) dL_law_712 (lw_vi (k := 3) rfl (by omega) hN) (lw_vx (k := 3) rfl (by omega) hN) ?_
  refine e_callV (pc := 713) hS dL_law_713 kL_73 hw rfl rfl rfl (lw_CR h1 (Nat.le_of_ble_eq_true rfl) (by omega) (by omega)) rfl (Nat.le_of_ble_eq_true rfl) (fun r w1 h => ?_)
  obtain ⟨rfl, ⟨fs1, hw1⟩, hT⟩ := h
  refine lw_pop2 (pc := 716) dL_law_716 rfl ?_
  refine e_aloadn (pc := 717) dL_law_717 rfl ?_
  refine e_aloadn (pc := 718) dL_law_718 rfl ?_
  refine e_iloadn (pc := 719) dL_law_719 rfl ?_
  refine e_iconst (v := 1) (pc := 720) dL_law_720 (by decide) ?_
  refine e_iadd (pc := 721) dL_law_721 ?_
  refine e_sld (x := xs (i0 + 1)) (pc := 722) dL_law_722 (lw_vi (k := 1) rfl (by omega) hN) (lw_vx (k := 1) rfl (by omega) hN) ?_
  refine e_aloadn (pc := 723) dL_law_723 rfl ?_
  refine e_iloadn (pc := 724) dL_law_724 rfl ?_
  refine e_iconst (v := 2) (pc := 725) dL_law_725 (by decide) ?_
  refine e_iadd (pc := 726) dL_law_726 ?_
  refine e_sld (x := xs (i0 + 2)) (pc := 727) dL_law_727 (lw_vi (k := 2) rfl (by omega) hN) (lw_vx (k := 2) rfl (by omega) hN) ?_
  refine e_aloadn (pc := 728) dL_law_728 rfl ?_
  refine e_iloadn (pc := 729) dL_law_729 rfl ?_
  refine e_iconst (v := 3) (pc := 730) dL_law_730 (by decide) ?_
  refine e_iadd (pc := 731) dL_law_731 ?_
  refine e_sld (x := xs (i0 + 3)) (pc := 732) dL_law_732 (lw_vi (k := 3) rfl (by omega) hN) (lw_vx (k := 3) rfl (by omega) hN) ?_
  refine e_cvX (pc := 733) hT dL_law_733 kL_76 hw1 rfl rfl rfl rfl (lw_CR h2 (Nat.le_of_ble_eq_true rfl) (by omega) (by omega)) (Nat.le_of_ble_eq_true rfl) (fun w2 hQ => ?_)
  refine lw_pop2 (pc := 736) dL_law_736 rfl ?_
  refine e_goto (pc := 737) dL_law_737 (t := 1764) (by decide) ?_
  exact hK w2 hQ
theorem lw_c14 {N i0 : Nat} {xs : Nat → Int32} {E : Prop} {w : mc_W} {kc ks : Nat} {Q : mc_W → Prop} (hN : N ≤ 3584) (hi : i0 + 7 ≤ N) (hj : jL yX6_who cX6_who 13 yX7_who cX7_who 11 0 0 E [.int (xs (i0 + 1)), .int (xs (i0 + 2))] w Q) (hk : kc ≤ 500000) (hs : ks ≤ 7000000) (hK : ∀ w2, Q w2 → mc_E R_law code 4 (mc_JL N xs) 1764 [some (.ref 1000300), some (.ref 0), some (.ref 29), some (.int (nI i0))] [] w2 (kc + 0) (ks + 0)) : mc_E R_law code 4 (mc_JL N xs) 740 [some (.ref 1000300), some (.ref 0), some (.ref 29), some (.int (nI i0))] [] w kc ks := by
  obtain ⟨r1, r2, d1, d2, fs, h1, h2, hr, hw, hS⟩ := hj
  refine e_aloadn (pc := 740) dL_law_740 rfl ?_
  refine e_aloadn (pc := 741) dL_law_741 rfl ?_
  refine e_iloadn (pc := 742) dL_law_742 rfl ?_
  refine e_iconst (v := 1) (pc := 743) dL_law_743 (by decide) ?_
  refine e_iadd (pc := 744) dL_law_744 ?_
  refine e_sld (x := xs (i0 + 1)) (pc := 745) dL_law_745 (lw_vi (k := 1) rfl (by omega) hN) (lw_vx (k := 1) rfl (by omega) hN) ?_
  refine e_aloadn (pc := 746) dL_law_746 rfl ?_
  refine e_iloadn (pc := 747) dL_law_747 rfl ?_
  refine e_iconst (v := 2) (pc := 748) dL_law_748 (by decide) ?_
  refine e_iadd (pc := 749) dL_law_749 ?_
  refine e_sld (x := xs (i0 + 2)) (pc := 750) dL_law_750 (lw_vi (k := 2) rfl (by omega) hN) (lw_vx (k := 2) rfl (by omega) hN) ?_
  refine e_callV (pc := 751) hS dL_law_751 kL_77 hw rfl rfl rfl (lw_CR h1 (Nat.le_of_ble_eq_true rfl) (by omega) (by omega)) rfl (Nat.le_of_ble_eq_true rfl) (fun r w1 h => ?_)
  obtain ⟨rfl, ⟨fs1, hw1⟩, hT⟩ := h
  refine lw_pop2 (pc := 754) dL_law_754 rfl ?_
  refine e_aloadn (pc := 755) dL_law_755 rfl ?_
  refine e_aloadn (pc := 756) dL_law_756 rfl ?_
  refine e_iloadn (pc := 757) dL_law_757 rfl ?_
  refine e_iconst (v := 1) (pc := 758) dL_law_758 (by decide) ?_
  refine e_iadd (pc := 759) dL_law_759 ?_
  refine e_sld (x := xs (i0 + 1)) (pc := 760) dL_law_760 (lw_vi (k := 1) rfl (by omega) hN) (lw_vx (k := 1) rfl (by omega) hN) ?_
  refine e_aloadn (pc := 761) dL_law_761 rfl ?_
  refine e_iloadn (pc := 762) dL_law_762 rfl ?_
  refine e_iconst (v := 2) (pc := 763) dL_law_763 (by decide) ?_
  refine e_iadd (pc := 764) dL_law_764 ?_
  refine e_sld (x := xs (i0 + 2)) (pc := 765) dL_law_765 (lw_vi (k := 2) rfl (by omega) hN) (lw_vx (k := 2) rfl (by omega) hN) ?_
  refine e_cvX (pc := 766) hT dL_law_766 kL_80 hw1 rfl rfl rfl rfl (lw_CR h2 (Nat.le_of_ble_eq_true rfl) (by omega) (by omega)) (Nat.le_of_ble_eq_true rfl) (fun w2 hQ => ?_)
  refine lw_pop2 (pc := 769) dL_law_769 rfl ?_
  refine e_goto (pc := 770) dL_law_770 (t := 1764) (by decide) ?_
  exact hK w2 hQ
theorem lw_c15 {N i0 : Nat} {xs : Nat → Int32} {E : Prop} {w : mc_W} {kc ks : Nat} {Q : mc_W → Prop} (hN : N ≤ 3584) (hi : i0 + 7 ≤ N) (hj : jL yX6_smuggled cX6_smuggled 15 yX7_smuggled cX7_smuggled 14 0 0 E [.int (xs (i0 + 1)), .int (xs (i0 + 2)), .int (xs (i0 + 3))] w Q) (hk : kc ≤ 500000) (hs : ks ≤ 7000000) (hK : ∀ w2, Q w2 → mc_E R_law code 4 (mc_JL N xs) 1764 [some (.ref 1000300), some (.ref 0), some (.ref 29), some (.int (nI i0))] [] w2 (kc + 0) (ks + 0)) : mc_E R_law code 4 (mc_JL N xs) 773 [some (.ref 1000300), some (.ref 0), some (.ref 29), some (.int (nI i0))] [] w kc ks := by
  obtain ⟨r1, r2, d1, d2, fs, h1, h2, hr, hw, hS⟩ := hj
  refine e_aloadn (pc := 773) dL_law_773 rfl ?_
  refine e_aloadn (pc := 774) dL_law_774 rfl ?_
  refine e_iloadn (pc := 775) dL_law_775 rfl ?_
  refine e_iconst (v := 1) (pc := 776) dL_law_776 (by decide) ?_
  refine e_iadd (pc := 777) dL_law_777 ?_
  refine e_sld (x := xs (i0 + 1)) (pc := 778) dL_law_778 (lw_vi (k := 1) rfl (by omega) hN) (lw_vx (k := 1) rfl (by omega) hN) ?_
  refine e_aloadn (pc := 779) dL_law_779 rfl ?_
  refine e_iloadn (pc := 780) dL_law_780 rfl ?_
  refine e_iconst (v := 2) (pc := 781) dL_law_781 (by decide) ?_
  refine e_iadd (pc := 782) dL_law_782 ?_
  refine e_sld (x := xs (i0 + 2)) (pc := 783) dL_law_783 (lw_vi (k := 2) rfl (by omega) hN) (lw_vx (k := 2) rfl (by omega) hN) ?_
  refine e_aloadn (pc := 784) dL_law_784 rfl ?_
  refine e_iloadn (pc := 785) dL_law_785 rfl ?_
  refine e_iconst (v := 3) (pc := 786) dL_law_786 (by decide) ?_
  refine e_iadd (pc := 787) dL_law_787 ?_
  refine e_sld (x := xs (i0 + 3)) (pc := 788) dL_law_788 (lw_vi (k := 3) rfl (by omega) hN) (lw_vx (k := 3) rfl (by omega) hN) ?_
  refine e_callV (pc := 789) hS dL_law_789 kL_81 hw rfl rfl rfl (lw_CR h1 (Nat.le_of_ble_eq_true rfl) (by omega) (by omega)) rfl (Nat.le_of_ble_eq_true rfl) (fun r w1 h => ?_)
  obtain ⟨rfl, ⟨fs1, hw1⟩, hT⟩ := h
  refine lw_pop2 (pc := 792) dL_law_792 rfl ?_
  refine e_aloadn (pc := 793) dL_law_793 rfl ?_
  refine e_aloadn (pc := 794) dL_law_794 rfl ?_
  refine e_iloadn (pc := 795) dL_law_795 rfl ?_
  refine e_iconst (v := 1) (pc := 796) dL_law_796 (by decide) ?_
  refine e_iadd (pc := 797) dL_law_797 ?_
  refine e_sld (x := xs (i0 + 1)) (pc := 798) dL_law_798 (lw_vi (k := 1) rfl (by omega) hN) (lw_vx (k := 1) rfl (by omega) hN) ?_
  refine e_aloadn (pc := 799) dL_law_799 rfl ?_
  refine e_iloadn (pc := 800) dL_law_800 rfl ?_
  refine e_iconst (v := 2) (pc := 801) dL_law_801 (by decide) ?_
  refine e_iadd (pc := 802) dL_law_802 ?_
  refine e_sld (x := xs (i0 + 2)) (pc := 803) dL_law_803 (lw_vi (k := 2) rfl (by omega) hN) (lw_vx (k := 2) rfl (by omega) hN) ?_
  refine e_aloadn (pc := 804) dL_law_804 rfl ?_
  refine e_iloadn (pc := 805) dL_law_805 rfl ?_
  refine e_iconst (v := 3) (pc := 806) dL_law_806 (by decide) ?_
  refine e_iadd (pc := 807) dL_law_807 ?_
  refine e_sld (x := xs (i0 + 3)) (pc := 808) dL_law_808 (lw_vi (k := 3) rfl (by omega) hN) (lw_vx (k := 3) rfl (by omega) hN) ?_
  refine e_cvX (pc := 809) hT dL_law_809 kL_84 hw1 rfl rfl rfl rfl (lw_CR h2 (Nat.le_of_ble_eq_true rfl) (by omega) (by omega)) (Nat.le_of_ble_eq_true rfl) (fun w2 hQ => ?_)
  refine lw_pop2 (pc := 812) dL_law_812 rfl ?_
  refine e_goto (pc := 813) dL_law_813 (t := 1764) (by decide) ?_
  exact hK w2 hQ
theorem lw_c16 {N i0 : Nat} {xs : Nat → Int32} {E : Prop} {w : mc_W} {kc ks : Nat} {Q : mc_W → Prop} (hN : N ≤ 3584) (hi : i0 + 7 ≤ N) (hj : jL yX6_slip cX6_slip 14 yX7_slip cX7_slip 14 0 0 E [.int (xs (i0 + 1)), .int (xs (i0 + 2)), .int (xs (i0 + 3))] w Q) (hk : kc ≤ 500000) (hs : ks ≤ 7000000) (hK : ∀ w2, Q w2 → mc_E R_law code 4 (mc_JL N xs) 1764 [some (.ref 1000300), some (.ref 0), some (.ref 29), some (.int (nI i0))] [] w2 (kc + 0) (ks + 0)) : mc_E R_law code 4 (mc_JL N xs) 816 [some (.ref 1000300), some (.ref 0), some (.ref 29), some (.int (nI i0))] [] w kc ks := by
  obtain ⟨r1, r2, d1, d2, fs, h1, h2, hr, hw, hS⟩ := hj
  refine e_aloadn (pc := 816) dL_law_816 rfl ?_
  refine e_aloadn (pc := 817) dL_law_817 rfl ?_
  refine e_iloadn (pc := 818) dL_law_818 rfl ?_
  refine e_iconst (v := 1) (pc := 819) dL_law_819 (by decide) ?_
  refine e_iadd (pc := 820) dL_law_820 ?_
  refine e_sld (x := xs (i0 + 1)) (pc := 821) dL_law_821 (lw_vi (k := 1) rfl (by omega) hN) (lw_vx (k := 1) rfl (by omega) hN) ?_
  refine e_aloadn (pc := 822) dL_law_822 rfl ?_
  refine e_iloadn (pc := 823) dL_law_823 rfl ?_
  refine e_iconst (v := 2) (pc := 824) dL_law_824 (by decide) ?_
  refine e_iadd (pc := 825) dL_law_825 ?_
  refine e_sld (x := xs (i0 + 2)) (pc := 826) dL_law_826 (lw_vi (k := 2) rfl (by omega) hN) (lw_vx (k := 2) rfl (by omega) hN) ?_
  refine e_aloadn (pc := 827) dL_law_827 rfl ?_
  refine e_iloadn (pc := 828) dL_law_828 rfl ?_
  refine e_iconst (v := 3) (pc := 829) dL_law_829 (by decide) ?_
  refine e_iadd (pc := 830) dL_law_830 ?_
  refine e_sld (x := xs (i0 + 3)) (pc := 831) dL_law_831 (lw_vi (k := 3) rfl (by omega) hN) (lw_vx (k := 3) rfl (by omega) hN) ?_
  refine e_callV (pc := 832) hS dL_law_832 kL_85 hw rfl rfl rfl (lw_CR h1 (Nat.le_of_ble_eq_true rfl) (by omega) (by omega)) rfl (Nat.le_of_ble_eq_true rfl) (fun r w1 h => ?_)
  obtain ⟨rfl, ⟨fs1, hw1⟩, hT⟩ := h
  refine lw_pop2 (pc := 835) dL_law_835 rfl ?_
  refine e_aloadn (pc := 836) dL_law_836 rfl ?_
  refine e_aloadn (pc := 837) dL_law_837 rfl ?_
  refine e_iloadn (pc := 838) dL_law_838 rfl ?_
  refine e_iconst (v := 1) (pc := 839) dL_law_839 (by decide) ?_
  refine e_iadd (pc := 840) dL_law_840 ?_
  refine e_sld (x := xs (i0 + 1)) (pc := 841) dL_law_841 (lw_vi (k := 1) rfl (by omega) hN) (lw_vx (k := 1) rfl (by omega) hN) ?_
  refine e_aloadn (pc := 842) dL_law_842 rfl ?_
  refine e_iloadn (pc := 843) dL_law_843 rfl ?_
  refine e_iconst (v := 2) (pc := 844) dL_law_844 (by decide) ?_
  refine e_iadd (pc := 845) dL_law_845 ?_
  refine e_sld (x := xs (i0 + 2)) (pc := 846) dL_law_846 (lw_vi (k := 2) rfl (by omega) hN) (lw_vx (k := 2) rfl (by omega) hN) ?_
  refine e_aloadn (pc := 847) dL_law_847 rfl ?_
  refine e_iloadn (pc := 848) dL_law_848 rfl ?_
  refine e_iconst (v := 3) (pc := 849) dL_law_849 (by decide) ?_
  refine e_iadd (pc := 850) dL_law_850 ?_
  refine e_sld (x := xs (i0 + 3)) (pc := 851) dL_law_851 (lw_vi (k := 3) rfl (by omega) hN) (lw_vx (k := 3) rfl (by omega) hN) ?_
  refine e_cvX (pc := 852) hT dL_law_852 kL_88 hw1 rfl rfl rfl rfl (lw_CR h2 (Nat.le_of_ble_eq_true rfl) (by omega) (by omega)) (Nat.le_of_ble_eq_true rfl) (fun w2 hQ => ?_)
  refine lw_pop2 (pc := 855) dL_law_855 rfl ?_
  refine e_goto (pc := 856) dL_law_856 (t := 1764) (by decide) ?_
  exact hK w2 hQ
theorem lw_c17 {N i0 : Nat} {xs : Nat → Int32} {E : Prop} {w : mc_W} {kc ks : Nat} {Q : mc_W → Prop} (hN : N ≤ 3584) (hi : i0 + 7 ≤ N) (hj : jL yX6_sure cX6_sure 9 yX7_sure cX7_sure 6 0 0 E [.int (xs (i0 + 1)), .int (xs (i0 + 2))] w Q) (hk : kc ≤ 500000) (hs : ks ≤ 7000000) (hK : ∀ w2, Q w2 → mc_E R_law code 4 (mc_JL N xs) 1764 [some (.ref 1000300), some (.ref 0), some (.ref 29), some (.int (nI i0))] [] w2 (kc + 0) (ks + 0)) : mc_E R_law code 4 (mc_JL N xs) 859 [some (.ref 1000300), some (.ref 0), some (.ref 29), some (.int (nI i0))] [] w kc ks := by
  obtain ⟨r1, r2, d1, d2, fs, h1, h2, hr, hw, hS⟩ := hj
  refine e_aloadn (pc := 859) dL_law_859 rfl ?_
  refine e_aloadn (pc := 860) dL_law_860 rfl ?_
  refine e_iloadn (pc := 861) dL_law_861 rfl ?_
  refine e_iconst (v := 1) (pc := 862) dL_law_862 (by decide) ?_
  refine e_iadd (pc := 863) dL_law_863 ?_
  refine e_sld (x := xs (i0 + 1)) (pc := 864) dL_law_864 (lw_vi (k := 1) rfl (by omega) hN) (lw_vx (k := 1) rfl (by omega) hN) ?_
  refine e_aloadn (pc := 865) dL_law_865 rfl ?_
  refine e_iloadn (pc := 866) dL_law_866 rfl ?_
  refine e_iconst (v := 2) (pc := 867) dL_law_867 (by decide) ?_
  refine e_iadd (pc := 868) dL_law_868 ?_
  refine e_sld (x := xs (i0 + 2)) (pc := 869) dL_law_869 (lw_vi (k := 2) rfl (by omega) hN) (lw_vx (k := 2) rfl (by omega) hN) ?_
  refine e_callV (pc := 870) hS dL_law_870 kL_89 hw rfl rfl rfl (lw_CR h1 (Nat.le_of_ble_eq_true rfl) (by omega) (by omega)) rfl (Nat.le_of_ble_eq_true rfl) (fun r w1 h => ?_)
  obtain ⟨rfl, ⟨fs1, hw1⟩, hT⟩ := h
  refine lw_pop2 (pc := 873) dL_law_873 rfl ?_
  refine e_aloadn (pc := 874) dL_law_874 rfl ?_
  refine e_aloadn (pc := 875) dL_law_875 rfl ?_
  refine e_iloadn (pc := 876) dL_law_876 rfl ?_
  refine e_iconst (v := 1) (pc := 877) dL_law_877 (by decide) ?_
  refine e_iadd (pc := 878) dL_law_878 ?_
  refine e_sld (x := xs (i0 + 1)) (pc := 879) dL_law_879 (lw_vi (k := 1) rfl (by omega) hN) (lw_vx (k := 1) rfl (by omega) hN) ?_
  refine e_aloadn (pc := 880) dL_law_880 rfl ?_
  refine e_iloadn (pc := 881) dL_law_881 rfl ?_
  refine e_iconst (v := 2) (pc := 882) dL_law_882 (by decide) ?_
  refine e_iadd (pc := 883) dL_law_883 ?_
  refine e_sld (x := xs (i0 + 2)) (pc := 884) dL_law_884 (lw_vi (k := 2) rfl (by omega) hN) (lw_vx (k := 2) rfl (by omega) hN) ?_
  refine e_cvX (pc := 885) hT dL_law_885 kL_92 hw1 rfl rfl rfl rfl (lw_CR h2 (Nat.le_of_ble_eq_true rfl) (by omega) (by omega)) (Nat.le_of_ble_eq_true rfl) (fun w2 hQ => ?_)
  refine lw_pop2 (pc := 888) dL_law_888 rfl ?_
  refine e_goto (pc := 889) dL_law_889 (t := 1764) (by decide) ?_
  exact hK w2 hQ
theorem lw_c18 {N i0 : Nat} {xs : Nat → Int32} {E : Prop} {w : mc_W} {kc ks : Nat} {Q : mc_W → Prop} (hN : N ≤ 3584) (hi : i0 + 7 ≤ N) (hj : jI yX6_shortest cX6_shortest 11 yX7_shortest cX7_shortest 11 0 0 E [.int (xs (i0 + 1)), .int (xs (i0 + 2)), .int (xs (i0 + 3))] w Q) (hk : kc ≤ 500000) (hs : ks ≤ 7000000) (hK : ∀ w2, Q w2 → mc_E R_law code 4 (mc_JL N xs) 1764 [some (.ref 1000300), some (.ref 0), some (.ref 29), some (.int (nI i0))] [] w2 (kc + 0) (ks + 0)) : mc_E R_law code 4 (mc_JL N xs) 892 [some (.ref 1000300), some (.ref 0), some (.ref 29), some (.int (nI i0))] [] w kc ks := by
  obtain ⟨r1, r2, d1, d2, fs, h1, h2, hr, hw, hS⟩ := hj
  refine e_aloadn (pc := 892) dL_law_892 rfl ?_
  refine e_aloadn (pc := 893) dL_law_893 rfl ?_
  refine e_iloadn (pc := 894) dL_law_894 rfl ?_
  refine e_iconst (v := 1) (pc := 895) dL_law_895 (by decide) ?_
  refine e_iadd (pc := 896) dL_law_896 ?_
  refine e_sld (x := xs (i0 + 1)) (pc := 897) dL_law_897 (lw_vi (k := 1) rfl (by omega) hN) (lw_vx (k := 1) rfl (by omega) hN) ?_
  refine e_aloadn (pc := 898) dL_law_898 rfl ?_
  refine e_iloadn (pc := 899) dL_law_899 rfl ?_
  refine e_iconst (v := 2) (pc := 900) dL_law_900 (by decide) ?_
  refine e_iadd (pc := 901) dL_law_901 ?_
  refine e_sld (x := xs (i0 + 2)) (pc := 902) dL_law_902 (lw_vi (k := 2) rfl (by omega) hN) (lw_vx (k := 2) rfl (by omega) hN) ?_
  refine e_aloadn (pc := 903) dL_law_903 rfl ?_
  refine e_iloadn (pc := 904) dL_law_904 rfl ?_
  refine e_iconst (v := 3) (pc := 905) dL_law_905 (by decide) ?_
  refine e_iadd (pc := 906) dL_law_906 ?_
  refine e_sld (x := xs (i0 + 3)) (pc := 907) dL_law_907 (lw_vi (k := 3) rfl (by omega) hN) (lw_vx (k := 3) rfl (by omega) hN) ?_
  refine e_callV (pc := 908) hS dL_law_908 kL_93 hw rfl rfl rfl (lw_CR h1 (Nat.le_of_ble_eq_true rfl) (by omega) (by omega)) rfl (Nat.le_of_ble_eq_true rfl) (fun r w1 h => ?_)
  obtain ⟨rfl, ⟨fs1, hw1⟩, hT⟩ := h
  refine e_pop (pc := 911) dL_law_911 rfl ?_
  refine e_aloadn (pc := 912) dL_law_912 rfl ?_
  refine e_aloadn (pc := 913) dL_law_913 rfl ?_
  refine e_iloadn (pc := 914) dL_law_914 rfl ?_
  refine e_iconst (v := 1) (pc := 915) dL_law_915 (by decide) ?_
  refine e_iadd (pc := 916) dL_law_916 ?_
  refine e_sld (x := xs (i0 + 1)) (pc := 917) dL_law_917 (lw_vi (k := 1) rfl (by omega) hN) (lw_vx (k := 1) rfl (by omega) hN) ?_
  refine e_aloadn (pc := 918) dL_law_918 rfl ?_
  refine e_iloadn (pc := 919) dL_law_919 rfl ?_
  refine e_iconst (v := 2) (pc := 920) dL_law_920 (by decide) ?_
  refine e_iadd (pc := 921) dL_law_921 ?_
  refine e_sld (x := xs (i0 + 2)) (pc := 922) dL_law_922 (lw_vi (k := 2) rfl (by omega) hN) (lw_vx (k := 2) rfl (by omega) hN) ?_
  refine e_aloadn (pc := 923) dL_law_923 rfl ?_
  refine e_iloadn (pc := 924) dL_law_924 rfl ?_
  refine e_iconst (v := 3) (pc := 925) dL_law_925 (by decide) ?_
  refine e_iadd (pc := 926) dL_law_926 ?_
  refine e_sld (x := xs (i0 + 3)) (pc := 927) dL_law_927 (lw_vi (k := 3) rfl (by omega) hN) (lw_vx (k := 3) rfl (by omega) hN) ?_
  refine e_cvX (pc := 928) hT dL_law_928 kL_96 hw1 rfl rfl rfl rfl (lw_CR h2 (Nat.le_of_ble_eq_true rfl) (by omega) (by omega)) (Nat.le_of_ble_eq_true rfl) (fun w2 hQ => ?_)
  refine e_pop (pc := 931) dL_law_931 rfl ?_
  refine e_goto (pc := 932) dL_law_932 (t := 1764) (by decide) ?_
  exact hK w2 hQ
theorem lw_c19 {N i0 : Nat} {xs : Nat → Int32} {E : Prop} {w : mc_W} {kc ks : Nat} {Q : mc_W → Prop} (hN : N ≤ 3584) (hi : i0 + 7 ≤ N) (hj : jI yX6_lend cX6_lend 5 yX7_lend cX7_lend 5 0 0 E [.int (xs (i0 + 1)), .int (xs (i0 + 2)), .int (xs (i0 + 3))] w Q) (hk : kc ≤ 500000) (hs : ks ≤ 7000000) (hK : ∀ w2, Q w2 → mc_E R_law code 4 (mc_JL N xs) 1764 [some (.ref 1000300), some (.ref 0), some (.ref 29), some (.int (nI i0))] [] w2 (kc + 0) (ks + 0)) : mc_E R_law code 4 (mc_JL N xs) 935 [some (.ref 1000300), some (.ref 0), some (.ref 29), some (.int (nI i0))] [] w kc ks := by
  obtain ⟨r1, r2, d1, d2, fs, h1, h2, hr, hw, hS⟩ := hj
  refine e_aloadn (pc := 935) dL_law_935 rfl ?_
  refine e_aloadn (pc := 936) dL_law_936 rfl ?_
  refine e_iloadn (pc := 937) dL_law_937 rfl ?_
  refine e_iconst (v := 1) (pc := 938) dL_law_938 (by decide) ?_
  refine e_iadd (pc := 939) dL_law_939 ?_
  refine e_sld (x := xs (i0 + 1)) (pc := 940) dL_law_940 (lw_vi (k := 1) rfl (by omega) hN) (lw_vx (k := 1) rfl (by omega) hN) ?_
  refine e_aloadn (pc := 941) dL_law_941 rfl ?_
  refine e_iloadn (pc := 942) dL_law_942 rfl ?_
  refine e_iconst (v := 2) (pc := 943) dL_law_943 (by decide) ?_
  refine e_iadd (pc := 944) dL_law_944 ?_
  refine e_sld (x := xs (i0 + 2)) (pc := 945) dL_law_945 (lw_vi (k := 2) rfl (by omega) hN) (lw_vx (k := 2) rfl (by omega) hN) ?_
  refine e_aloadn (pc := 946) dL_law_946 rfl ?_
  refine e_iloadn (pc := 947) dL_law_947 rfl ?_
  refine e_iconst (v := 3) (pc := 948) dL_law_948 (by decide) ?_
  refine e_iadd (pc := 949) dL_law_949 ?_
  refine e_sld (x := xs (i0 + 3)) (pc := 950) dL_law_950 (lw_vi (k := 3) rfl (by omega) hN) (lw_vx (k := 3) rfl (by omega) hN) ?_
  refine e_callV (pc := 951) hS dL_law_951 kL_97 hw rfl rfl rfl (lw_CR h1 (Nat.le_of_ble_eq_true rfl) (by omega) (by omega)) rfl (Nat.le_of_ble_eq_true rfl) (fun r w1 h => ?_)
  obtain ⟨rfl, ⟨fs1, hw1⟩, hT⟩ := h
  refine e_pop (pc := 954) dL_law_954 rfl ?_
  refine e_aloadn (pc := 955) dL_law_955 rfl ?_
  refine e_aloadn (pc := 956) dL_law_956 rfl ?_
  refine e_iloadn (pc := 957) dL_law_957 rfl ?_
  refine e_iconst (v := 1) (pc := 958) dL_law_958 (by decide) ?_
  refine e_iadd (pc := 959) dL_law_959 ?_
  refine e_sld (x := xs (i0 + 1)) (pc := 960) dL_law_960 (lw_vi (k := 1) rfl (by omega) hN) (lw_vx (k := 1) rfl (by omega) hN) ?_
  refine e_aloadn (pc := 961) dL_law_961 rfl ?_
  refine e_iloadn (pc := 962) dL_law_962 rfl ?_
  refine e_iconst (v := 2) (pc := 963) dL_law_963 (by decide) ?_
  refine e_iadd (pc := 964) dL_law_964 ?_
  refine e_sld (x := xs (i0 + 2)) (pc := 965) dL_law_965 (lw_vi (k := 2) rfl (by omega) hN) (lw_vx (k := 2) rfl (by omega) hN) ?_
  refine e_aloadn (pc := 966) dL_law_966 rfl ?_
  refine e_iloadn (pc := 967) dL_law_967 rfl ?_
  refine e_iconst (v := 3) (pc := 968) dL_law_968 (by decide) ?_
  refine e_iadd (pc := 969) dL_law_969 ?_
  refine e_sld (x := xs (i0 + 3)) (pc := 970) dL_law_970 (lw_vi (k := 3) rfl (by omega) hN) (lw_vx (k := 3) rfl (by omega) hN) ?_
  refine e_cvX (pc := 971) hT dL_law_971 kL_100 hw1 rfl rfl rfl rfl (lw_CR h2 (Nat.le_of_ble_eq_true rfl) (by omega) (by omega)) (Nat.le_of_ble_eq_true rfl) (fun w2 hQ => ?_)
  refine e_pop (pc := 974) dL_law_974 rfl ?_
  refine e_goto (pc := 975) dL_law_975 (t := 1764) (by decide) ?_
  exact hK w2 hQ
theorem lw_c20 {N i0 : Nat} {xs : Nat → Int32} {E : Prop} {w : mc_W} {kc ks : Nat} {Q : mc_W → Prop} (hN : N ≤ 3584) (hi : i0 + 7 ≤ N) (hj : jI yX6_debt cX6_debt 3 yX7_debt cX7_debt 3 0 0 E [.int (xs (i0 + 1)), .int (xs (i0 + 2))] w Q) (hk : kc ≤ 500000) (hs : ks ≤ 7000000) (hK : ∀ w2, Q w2 → mc_E R_law code 4 (mc_JL N xs) 1764 [some (.ref 1000300), some (.ref 0), some (.ref 29), some (.int (nI i0))] [] w2 (kc + 0) (ks + 0)) : mc_E R_law code 4 (mc_JL N xs) 978 [some (.ref 1000300), some (.ref 0), some (.ref 29), some (.int (nI i0))] [] w kc ks := by
  obtain ⟨r1, r2, d1, d2, fs, h1, h2, hr, hw, hS⟩ := hj
  refine e_aloadn (pc := 978) dL_law_978 rfl ?_
  refine e_aloadn (pc := 979) dL_law_979 rfl ?_
  refine e_iloadn (pc := 980) dL_law_980 rfl ?_
  refine e_iconst (v := 1) (pc := 981) dL_law_981 (by decide) ?_
  refine e_iadd (pc := 982) dL_law_982 ?_
  refine e_sld (x := xs (i0 + 1)) (pc := 983) dL_law_983 (lw_vi (k := 1) rfl (by omega) hN) (lw_vx (k := 1) rfl (by omega) hN) ?_
  refine e_aloadn (pc := 984) dL_law_984 rfl ?_
  refine e_iloadn (pc := 985) dL_law_985 rfl ?_
  refine e_iconst (v := 2) (pc := 986) dL_law_986 (by decide) ?_
  refine e_iadd (pc := 987) dL_law_987 ?_
  refine e_sld (x := xs (i0 + 2)) (pc := 988) dL_law_988 (lw_vi (k := 2) rfl (by omega) hN) (lw_vx (k := 2) rfl (by omega) hN) ?_
  refine e_callV (pc := 989) hS dL_law_989 kL_101 hw rfl rfl rfl (lw_CR h1 (Nat.le_of_ble_eq_true rfl) (by omega) (by omega)) rfl (Nat.le_of_ble_eq_true rfl) (fun r w1 h => ?_)
  obtain ⟨rfl, ⟨fs1, hw1⟩, hT⟩ := h
  refine e_pop (pc := 992) dL_law_992 rfl ?_
  refine e_aloadn (pc := 993) dL_law_993 rfl ?_
  refine e_aloadn (pc := 994) dL_law_994 rfl ?_
  refine e_iloadn (pc := 995) dL_law_995 rfl ?_
  refine e_iconst (v := 1) (pc := 996) dL_law_996 (by decide) ?_
  refine e_iadd (pc := 997) dL_law_997 ?_
  refine e_sld (x := xs (i0 + 1)) (pc := 998) dL_law_998 (lw_vi (k := 1) rfl (by omega) hN) (lw_vx (k := 1) rfl (by omega) hN) ?_
  refine e_aloadn (pc := 999) dL_law_999 rfl ?_
  refine e_iloadn (pc := 1000) dL_law_1000 rfl ?_
  refine e_iconst (v := 2) (pc := 1001) dL_law_1001 (by decide) ?_
  refine e_iadd (pc := 1002) dL_law_1002 ?_
  refine e_sld (x := xs (i0 + 2)) (pc := 1003) dL_law_1003 (lw_vi (k := 2) rfl (by omega) hN) (lw_vx (k := 2) rfl (by omega) hN) ?_
  refine e_cvX (pc := 1004) hT dL_law_1004 kL_104 hw1 rfl rfl rfl rfl (lw_CR h2 (Nat.le_of_ble_eq_true rfl) (by omega) (by omega)) (Nat.le_of_ble_eq_true rfl) (fun w2 hQ => ?_)
  refine e_pop (pc := 1007) dL_law_1007 rfl ?_
  refine e_goto (pc := 1008) dL_law_1008 (t := 1764) (by decide) ?_
  exact hK w2 hQ
theorem lw_c21 {N i0 : Nat} {xs : Nat → Int32} {E : Prop} {w : mc_W} {kc ks : Nat} {Q : mc_W → Prop} (hN : N ≤ 3584) (hi : i0 + 7 ≤ N) (hj : jI yX6_pay cX6_pay 7 yX7_pay cX7_pay 5 0 0 E [.int (xs (i0 + 1)), .int (xs (i0 + 2)), .int (xs (i0 + 3))] w Q) (hk : kc ≤ 500000) (hs : ks ≤ 7000000) (hK : ∀ w2, Q w2 → mc_E R_law code 4 (mc_JL N xs) 1764 [some (.ref 1000300), some (.ref 0), some (.ref 29), some (.int (nI i0))] [] w2 (kc + 0) (ks + 0)) : mc_E R_law code 4 (mc_JL N xs) 1011 [some (.ref 1000300), some (.ref 0), some (.ref 29), some (.int (nI i0))] [] w kc ks := by
  obtain ⟨r1, r2, d1, d2, fs, h1, h2, hr, hw, hS⟩ := hj
  refine e_aloadn (pc := 1011) dL_law_1011 rfl ?_
  refine e_aloadn (pc := 1012) dL_law_1012 rfl ?_
  refine e_iloadn (pc := 1013) dL_law_1013 rfl ?_
  refine e_iconst (v := 1) (pc := 1014) dL_law_1014 (by decide) ?_
  refine e_iadd (pc := 1015) dL_law_1015 ?_
  refine e_sld (x := xs (i0 + 1)) (pc := 1016) dL_law_1016 (lw_vi (k := 1) rfl (by omega) hN) (lw_vx (k := 1) rfl (by omega) hN) ?_
  refine e_aloadn (pc := 1017) dL_law_1017 rfl ?_
  refine e_iloadn (pc := 1018) dL_law_1018 rfl ?_
  refine e_iconst (v := 2) (pc := 1019) dL_law_1019 (by decide) ?_
  refine e_iadd (pc := 1020) dL_law_1020 ?_
  refine e_sld (x := xs (i0 + 2)) (pc := 1021) dL_law_1021 (lw_vi (k := 2) rfl (by omega) hN) (lw_vx (k := 2) rfl (by omega) hN) ?_
  refine e_aloadn (pc := 1022) dL_law_1022 rfl ?_
  refine e_iloadn (pc := 1023) dL_law_1023 rfl ?_
  refine e_iconst (v := 3) (pc := 1024) dL_law_1024 (by decide) ?_
  refine e_iadd (pc := 1025) dL_law_1025 ?_
  refine e_sld (x := xs (i0 + 3)) (pc := 1026) dL_law_1026 (lw_vi (k := 3) rfl (by omega) hN) (lw_vx (k := 3) rfl (by omega) hN) ?_
  refine e_callV (pc := 1027) hS dL_law_1027 kL_105 hw rfl rfl rfl (lw_CR h1 (Nat.le_of_ble_eq_true rfl) (by omega) (by omega)) rfl (Nat.le_of_ble_eq_true rfl) (fun r w1 h => ?_)
  obtain ⟨rfl, ⟨fs1, hw1⟩, hT⟩ := h
  refine e_pop (pc := 1030) dL_law_1030 rfl ?_
  refine e_aloadn (pc := 1031) dL_law_1031 rfl ?_
  refine e_aloadn (pc := 1032) dL_law_1032 rfl ?_
  refine e_iloadn (pc := 1033) dL_law_1033 rfl ?_
  refine e_iconst (v := 1) (pc := 1034) dL_law_1034 (by decide) ?_
  refine e_iadd (pc := 1035) dL_law_1035 ?_
  refine e_sld (x := xs (i0 + 1)) (pc := 1036) dL_law_1036 (lw_vi (k := 1) rfl (by omega) hN) (lw_vx (k := 1) rfl (by omega) hN) ?_
  refine e_aloadn (pc := 1037) dL_law_1037 rfl ?_
  refine e_iloadn (pc := 1038) dL_law_1038 rfl ?_
  refine e_iconst (v := 2) (pc := 1039) dL_law_1039 (by decide) ?_
  refine e_iadd (pc := 1040) dL_law_1040 ?_
  refine e_sld (x := xs (i0 + 2)) (pc := 1041) dL_law_1041 (lw_vi (k := 2) rfl (by omega) hN) (lw_vx (k := 2) rfl (by omega) hN) ?_
  refine e_aloadn (pc := 1042) dL_law_1042 rfl ?_
  refine e_iloadn (pc := 1043) dL_law_1043 rfl ?_
  refine e_iconst (v := 3) (pc := 1044) dL_law_1044 (by decide) ?_
  refine e_iadd (pc := 1045) dL_law_1045 ?_
  refine e_sld (x := xs (i0 + 3)) (pc := 1046) dL_law_1046 (lw_vi (k := 3) rfl (by omega) hN) (lw_vx (k := 3) rfl (by omega) hN) ?_
  refine e_cvX (pc := 1047) hT dL_law_1047 kL_108 hw1 rfl rfl rfl rfl (lw_CR h2 (Nat.le_of_ble_eq_true rfl) (by omega) (by omega)) (Nat.le_of_ble_eq_true rfl) (fun w2 hQ => ?_)
  refine e_pop (pc := 1050) dL_law_1050 rfl ?_
  refine e_goto (pc := 1051) dL_law_1051 (t := 1764) (by decide) ?_
  exact hK w2 hQ
theorem lw_c22 {N i0 : Nat} {xs : Nat → Int32} {E : Prop} {w : mc_W} {kc ks : Nat} {Q : mc_W → Prop} (hN : N ≤ 3584) (hi : i0 + 7 ≤ N) (hj : jI yX6_rings cX6_rings 1 yX7_rings cX7_rings 1 0 0 E [] w Q) (hk : kc ≤ 500000) (hs : ks ≤ 7000000) (hK : ∀ w2, Q w2 → mc_E R_law code 4 (mc_JL N xs) 1764 [some (.ref 1000300), some (.ref 0), some (.ref 29), some (.int (nI i0))] [] w2 (kc + 0) (ks + 0)) : mc_E R_law code 4 (mc_JL N xs) 1054 [some (.ref 1000300), some (.ref 0), some (.ref 29), some (.int (nI i0))] [] w kc ks := by
  obtain ⟨r1, r2, d1, d2, fs, h1, h2, hr, hw, hS⟩ := hj
  refine e_aloadn (pc := 1054) dL_law_1054 rfl ?_
  refine e_callV (pc := 1055) hS dL_law_1055 kL_109 hw rfl rfl rfl (lw_CR h1 (Nat.le_of_ble_eq_true rfl) (by omega) (by omega)) rfl (Nat.le_of_ble_eq_true rfl) (fun r w1 h => ?_)
  obtain ⟨rfl, ⟨fs1, hw1⟩, hT⟩ := h
  refine e_pop (pc := 1058) dL_law_1058 rfl ?_
  refine e_aloadn (pc := 1059) dL_law_1059 rfl ?_
  refine e_cvX (pc := 1060) hT dL_law_1060 kL_112 hw1 rfl rfl rfl rfl (lw_CR h2 (Nat.le_of_ble_eq_true rfl) (by omega) (by omega)) (Nat.le_of_ble_eq_true rfl) (fun w2 hQ => ?_)
  refine e_pop (pc := 1063) dL_law_1063 rfl ?_
  refine e_goto (pc := 1064) dL_law_1064 (t := 1764) (by decide) ?_
  exact hK w2 hQ
theorem lw_c23 {N i0 : Nat} {xs : Nat → Int32} {E : Prop} {w : mc_W} {kc ks : Nat} {Q : mc_W → Prop} (hN : N ≤ 3584) (hi : i0 + 7 ≤ N) (hj : jI yX6_clear cX6_clear 1 yX7_clear cX7_clear 7 0 0 E [] w Q) (hk : kc ≤ 500000) (hs : ks ≤ 7000000) (hK : ∀ w2, Q w2 → mc_E R_law code 4 (mc_JL N xs) 1764 [some (.ref 1000300), some (.ref 0), some (.ref 29), some (.int (nI i0))] [] w2 (kc + 0) (ks + 0)) : mc_E R_law code 4 (mc_JL N xs) 1067 [some (.ref 1000300), some (.ref 0), some (.ref 29), some (.int (nI i0))] [] w kc ks := by
  obtain ⟨r1, r2, d1, d2, fs, h1, h2, hr, hw, hS⟩ := hj
  refine e_aloadn (pc := 1067) dL_law_1067 rfl ?_
  refine e_callV (pc := 1068) hS dL_law_1068 kL_113 hw rfl rfl rfl (lw_CR h1 (Nat.le_of_ble_eq_true rfl) (by omega) (by omega)) rfl (Nat.le_of_ble_eq_true rfl) (fun r w1 h => ?_)
  obtain ⟨rfl, ⟨fs1, hw1⟩, hT⟩ := h
  refine e_pop (pc := 1071) dL_law_1071 rfl ?_
  refine e_aloadn (pc := 1072) dL_law_1072 rfl ?_
  refine e_cvX (pc := 1073) hT dL_law_1073 kL_116 hw1 rfl rfl rfl rfl (lw_CR h2 (Nat.le_of_ble_eq_true rfl) (by omega) (by omega)) (Nat.le_of_ble_eq_true rfl) (fun w2 hQ => ?_)
  refine e_pop (pc := 1076) dL_law_1076 rfl ?_
  refine e_goto (pc := 1077) dL_law_1077 (t := 1764) (by decide) ?_
  exact hK w2 hQ
theorem lw_c24 {N i0 : Nat} {xs : Nat → Int32} {E : Prop} {w : mc_W} {kc ks : Nat} {Q : mc_W → Prop} (hN : N ≤ 3584) (hi : i0 + 7 ≤ N) (hj : jI yX6_forgive cX6_forgive 7 yX7_forgive cX7_forgive 7 0 0 E [.int (xs (i0 + 1))] w Q) (hk : kc ≤ 500000) (hs : ks ≤ 7000000) (hK : ∀ w2, Q w2 → mc_E R_law code 4 (mc_JL N xs) 1764 [some (.ref 1000300), some (.ref 0), some (.ref 29), some (.int (nI i0))] [] w2 (kc + 0) (ks + 0)) : mc_E R_law code 4 (mc_JL N xs) 1080 [some (.ref 1000300), some (.ref 0), some (.ref 29), some (.int (nI i0))] [] w kc ks := by
  obtain ⟨r1, r2, d1, d2, fs, h1, h2, hr, hw, hS⟩ := hj
  refine e_aloadn (pc := 1080) dL_law_1080 rfl ?_
  refine e_aloadn (pc := 1081) dL_law_1081 rfl ?_
  refine e_iloadn (pc := 1082) dL_law_1082 rfl ?_
  refine e_iconst (v := 1) (pc := 1083) dL_law_1083 (by decide) ?_
  refine e_iadd (pc := 1084) dL_law_1084 ?_
  refine e_sld (x := xs (i0 + 1)) (pc := 1085) dL_law_1085 (lw_vi (k := 1) rfl (by omega) hN) (lw_vx (k := 1) rfl (by omega) hN) ?_
  refine e_callV (pc := 1086) hS dL_law_1086 kL_117 hw rfl rfl rfl (lw_CR h1 (Nat.le_of_ble_eq_true rfl) (by omega) (by omega)) rfl (Nat.le_of_ble_eq_true rfl) (fun r w1 h => ?_)
  obtain ⟨rfl, ⟨fs1, hw1⟩, hT⟩ := h
  refine e_pop (pc := 1089) dL_law_1089 rfl ?_
  refine e_aloadn (pc := 1090) dL_law_1090 rfl ?_
  refine e_aloadn (pc := 1091) dL_law_1091 rfl ?_
  refine e_iloadn (pc := 1092) dL_law_1092 rfl ?_
  refine e_iconst (v := 1) (pc := 1093) dL_law_1093 (by decide) ?_
  refine e_iadd (pc := 1094) dL_law_1094 ?_
  refine e_sld (x := xs (i0 + 1)) (pc := 1095) dL_law_1095 (lw_vi (k := 1) rfl (by omega) hN) (lw_vx (k := 1) rfl (by omega) hN) ?_
  refine e_cvX (pc := 1096) hT dL_law_1096 kL_120 hw1 rfl rfl rfl rfl (lw_CR h2 (Nat.le_of_ble_eq_true rfl) (by omega) (by omega)) (Nat.le_of_ble_eq_true rfl) (fun w2 hQ => ?_)
  refine e_pop (pc := 1099) dL_law_1099 rfl ?_
  refine e_goto (pc := 1100) dL_law_1100 (t := 1764) (by decide) ?_
  exact hK w2 hQ
theorem lw_c25 {N i0 : Nat} {xs : Nat → Int32} {E : Prop} {w : mc_W} {kc ks : Nat} {Q : mc_W → Prop} (hN : N ≤ 3584) (hi : i0 + 7 ≤ N) (hj : jI yX6_span cX6_span 3 yX7_span cX7_span 3 0 0 E [.int (xs (i0 + 1)), .int (xs (i0 + 2))] w Q) (hk : kc ≤ 500000) (hs : ks ≤ 7000000) (hK : ∀ w2, Q w2 → mc_E R_law code 4 (mc_JL N xs) 1764 [some (.ref 1000300), some (.ref 0), some (.ref 29), some (.int (nI i0))] [] w2 (kc + 0) (ks + 0)) : mc_E R_law code 4 (mc_JL N xs) 1103 [some (.ref 1000300), some (.ref 0), some (.ref 29), some (.int (nI i0))] [] w kc ks := by
  obtain ⟨r1, r2, d1, d2, fs, h1, h2, hr, hw, hS⟩ := hj
  refine e_aloadn (pc := 1103) dL_law_1103 rfl ?_
  refine e_aloadn (pc := 1104) dL_law_1104 rfl ?_
  refine e_iloadn (pc := 1105) dL_law_1105 rfl ?_
  refine e_iconst (v := 1) (pc := 1106) dL_law_1106 (by decide) ?_
  refine e_iadd (pc := 1107) dL_law_1107 ?_
  refine e_sld (x := xs (i0 + 1)) (pc := 1108) dL_law_1108 (lw_vi (k := 1) rfl (by omega) hN) (lw_vx (k := 1) rfl (by omega) hN) ?_
  refine e_aloadn (pc := 1109) dL_law_1109 rfl ?_
  refine e_iloadn (pc := 1110) dL_law_1110 rfl ?_
  refine e_iconst (v := 2) (pc := 1111) dL_law_1111 (by decide) ?_
  refine e_iadd (pc := 1112) dL_law_1112 ?_
  refine e_sld (x := xs (i0 + 2)) (pc := 1113) dL_law_1113 (lw_vi (k := 2) rfl (by omega) hN) (lw_vx (k := 2) rfl (by omega) hN) ?_
  refine e_callV (pc := 1114) hS dL_law_1114 kL_121 hw rfl rfl rfl (lw_CR h1 (Nat.le_of_ble_eq_true rfl) (by omega) (by omega)) rfl (Nat.le_of_ble_eq_true rfl) (fun r w1 h => ?_)
  obtain ⟨rfl, ⟨fs1, hw1⟩, hT⟩ := h
  refine e_pop (pc := 1117) dL_law_1117 rfl ?_
  refine e_aloadn (pc := 1118) dL_law_1118 rfl ?_
  refine e_aloadn (pc := 1119) dL_law_1119 rfl ?_
  refine e_iloadn (pc := 1120) dL_law_1120 rfl ?_
  refine e_iconst (v := 1) (pc := 1121) dL_law_1121 (by decide) ?_
  refine e_iadd (pc := 1122) dL_law_1122 ?_
  refine e_sld (x := xs (i0 + 1)) (pc := 1123) dL_law_1123 (lw_vi (k := 1) rfl (by omega) hN) (lw_vx (k := 1) rfl (by omega) hN) ?_
  refine e_aloadn (pc := 1124) dL_law_1124 rfl ?_
  refine e_iloadn (pc := 1125) dL_law_1125 rfl ?_
  refine e_iconst (v := 2) (pc := 1126) dL_law_1126 (by decide) ?_
  refine e_iadd (pc := 1127) dL_law_1127 ?_
  refine e_sld (x := xs (i0 + 2)) (pc := 1128) dL_law_1128 (lw_vi (k := 2) rfl (by omega) hN) (lw_vx (k := 2) rfl (by omega) hN) ?_
  refine e_cvX (pc := 1129) hT dL_law_1129 kL_124 hw1 rfl rfl rfl rfl (lw_CR h2 (Nat.le_of_ble_eq_true rfl) (by omega) (by omega)) (Nat.le_of_ble_eq_true rfl) (fun w2 hQ => ?_)
  refine e_pop (pc := 1132) dL_law_1132 rfl ?_
  refine e_goto (pc := 1133) dL_law_1133 (t := 1764) (by decide) ?_
  exact hK w2 hQ
theorem lw_c26 {N i0 : Nat} {xs : Nat → Int32} {E : Prop} {w : mc_W} {kc ks : Nat} {Q : mc_W → Prop} (hN : N ≤ 3584) (hi : i0 + 7 ≤ N) (hj : jI yX6_behind cX6_behind 4 yX7_behind cX7_behind 4 0 0 E [.int (xs (i0 + 1)), .int (xs (i0 + 2))] w Q) (hk : kc ≤ 500000) (hs : ks ≤ 7000000) (hK : ∀ w2, Q w2 → mc_E R_law code 4 (mc_JL N xs) 1764 [some (.ref 1000300), some (.ref 0), some (.ref 29), some (.int (nI i0))] [] w2 (kc + 0) (ks + 0)) : mc_E R_law code 4 (mc_JL N xs) 1136 [some (.ref 1000300), some (.ref 0), some (.ref 29), some (.int (nI i0))] [] w kc ks := by
  obtain ⟨r1, r2, d1, d2, fs, h1, h2, hr, hw, hS⟩ := hj
  refine e_aloadn (pc := 1136) dL_law_1136 rfl ?_
  refine e_aloadn (pc := 1137) dL_law_1137 rfl ?_
  refine e_iloadn (pc := 1138) dL_law_1138 rfl ?_
  refine e_iconst (v := 1) (pc := 1139) dL_law_1139 (by decide) ?_
  refine e_iadd (pc := 1140) dL_law_1140 ?_
  refine e_sld (x := xs (i0 + 1)) (pc := 1141) dL_law_1141 (lw_vi (k := 1) rfl (by omega) hN) (lw_vx (k := 1) rfl (by omega) hN) ?_
  refine e_aloadn (pc := 1142) dL_law_1142 rfl ?_
  refine e_iloadn (pc := 1143) dL_law_1143 rfl ?_
  refine e_iconst (v := 2) (pc := 1144) dL_law_1144 (by decide) ?_
  refine e_iadd (pc := 1145) dL_law_1145 ?_
  refine e_sld (x := xs (i0 + 2)) (pc := 1146) dL_law_1146 (lw_vi (k := 2) rfl (by omega) hN) (lw_vx (k := 2) rfl (by omega) hN) ?_
  refine e_callV (pc := 1147) hS dL_law_1147 kL_125 hw rfl rfl rfl (lw_CR h1 (Nat.le_of_ble_eq_true rfl) (by omega) (by omega)) rfl (Nat.le_of_ble_eq_true rfl) (fun r w1 h => ?_)
  obtain ⟨rfl, ⟨fs1, hw1⟩, hT⟩ := h
  refine e_pop (pc := 1150) dL_law_1150 rfl ?_
  refine e_aloadn (pc := 1151) dL_law_1151 rfl ?_
  refine e_aloadn (pc := 1152) dL_law_1152 rfl ?_
  refine e_iloadn (pc := 1153) dL_law_1153 rfl ?_
  refine e_iconst (v := 1) (pc := 1154) dL_law_1154 (by decide) ?_
  refine e_iadd (pc := 1155) dL_law_1155 ?_
  refine e_sld (x := xs (i0 + 1)) (pc := 1156) dL_law_1156 (lw_vi (k := 1) rfl (by omega) hN) (lw_vx (k := 1) rfl (by omega) hN) ?_
  refine e_aloadn (pc := 1157) dL_law_1157 rfl ?_
  refine e_iloadn (pc := 1158) dL_law_1158 rfl ?_
  refine e_iconst (v := 2) (pc := 1159) dL_law_1159 (by decide) ?_
  refine e_iadd (pc := 1160) dL_law_1160 ?_
  refine e_sld (x := xs (i0 + 2)) (pc := 1161) dL_law_1161 (lw_vi (k := 2) rfl (by omega) hN) (lw_vx (k := 2) rfl (by omega) hN) ?_
  refine e_cvX (pc := 1162) hT dL_law_1162 kL_128 hw1 rfl rfl rfl rfl (lw_CR h2 (Nat.le_of_ble_eq_true rfl) (by omega) (by omega)) (Nat.le_of_ble_eq_true rfl) (fun w2 hQ => ?_)
  refine e_pop (pc := 1165) dL_law_1165 rfl ?_
  refine e_goto (pc := 1166) dL_law_1166 (t := 1764) (by decide) ?_
  exact hK w2 hQ
theorem lw_c27 {N i0 : Nat} {xs : Nat → Int32} {E : Prop} {w : mc_W} {kc ks : Nat} {Q : mc_W → Prop} (hN : N ≤ 3584) (hi : i0 + 7 ≤ N) (hj : jI yX6_alike cX6_alike 10 yX7_alike cX7_alike 10 0 0 E [.int (xs (i0 + 1)), .int (xs (i0 + 2)), .int (xs (i0 + 3))] w Q) (hk : kc ≤ 500000) (hs : ks ≤ 7000000) (hK : ∀ w2, Q w2 → mc_E R_law code 4 (mc_JL N xs) 1764 [some (.ref 1000300), some (.ref 0), some (.ref 29), some (.int (nI i0))] [] w2 (kc + 0) (ks + 0)) : mc_E R_law code 4 (mc_JL N xs) 1169 [some (.ref 1000300), some (.ref 0), some (.ref 29), some (.int (nI i0))] [] w kc ks := by
  obtain ⟨r1, r2, d1, d2, fs, h1, h2, hr, hw, hS⟩ := hj
  refine e_aloadn (pc := 1169) dL_law_1169 rfl ?_
  refine e_aloadn (pc := 1170) dL_law_1170 rfl ?_
  refine e_iloadn (pc := 1171) dL_law_1171 rfl ?_
  refine e_iconst (v := 1) (pc := 1172) dL_law_1172 (by decide) ?_
  refine e_iadd (pc := 1173) dL_law_1173 ?_
  refine e_sld (x := xs (i0 + 1)) (pc := 1174) dL_law_1174 (lw_vi (k := 1) rfl (by omega) hN) (lw_vx (k := 1) rfl (by omega) hN) ?_
  refine e_aloadn (pc := 1175) dL_law_1175 rfl ?_
  refine e_iloadn (pc := 1176) dL_law_1176 rfl ?_
  refine e_iconst (v := 2) (pc := 1177) dL_law_1177 (by decide) ?_
  refine e_iadd (pc := 1178) dL_law_1178 ?_
  refine e_sld (x := xs (i0 + 2)) (pc := 1179) dL_law_1179 (lw_vi (k := 2) rfl (by omega) hN) (lw_vx (k := 2) rfl (by omega) hN) ?_
  refine e_aloadn (pc := 1180) dL_law_1180 rfl ?_
  refine e_iloadn (pc := 1181) dL_law_1181 rfl ?_
  refine e_iconst (v := 3) (pc := 1182) dL_law_1182 (by decide) ?_
  refine e_iadd (pc := 1183) dL_law_1183 ?_
  refine e_sld (x := xs (i0 + 3)) (pc := 1184) dL_law_1184 (lw_vi (k := 3) rfl (by omega) hN) (lw_vx (k := 3) rfl (by omega) hN) ?_
  refine e_callV (pc := 1185) hS dL_law_1185 kL_129 hw rfl rfl rfl (lw_CR h1 (Nat.le_of_ble_eq_true rfl) (by omega) (by omega)) rfl (Nat.le_of_ble_eq_true rfl) (fun r w1 h => ?_)
  obtain ⟨rfl, ⟨fs1, hw1⟩, hT⟩ := h
  refine e_pop (pc := 1188) dL_law_1188 rfl ?_
  refine e_aloadn (pc := 1189) dL_law_1189 rfl ?_
  refine e_aloadn (pc := 1190) dL_law_1190 rfl ?_
  refine e_iloadn (pc := 1191) dL_law_1191 rfl ?_
  refine e_iconst (v := 1) (pc := 1192) dL_law_1192 (by decide) ?_
  refine e_iadd (pc := 1193) dL_law_1193 ?_
  refine e_sld (x := xs (i0 + 1)) (pc := 1194) dL_law_1194 (lw_vi (k := 1) rfl (by omega) hN) (lw_vx (k := 1) rfl (by omega) hN) ?_
  refine e_aloadn (pc := 1195) dL_law_1195 rfl ?_
  refine e_iloadn (pc := 1196) dL_law_1196 rfl ?_
  refine e_iconst (v := 2) (pc := 1197) dL_law_1197 (by decide) ?_
  refine e_iadd (pc := 1198) dL_law_1198 ?_
  refine e_sld (x := xs (i0 + 2)) (pc := 1199) dL_law_1199 (lw_vi (k := 2) rfl (by omega) hN) (lw_vx (k := 2) rfl (by omega) hN) ?_
  refine e_aloadn (pc := 1200) dL_law_1200 rfl ?_
  refine e_iloadn (pc := 1201) dL_law_1201 rfl ?_
  refine e_iconst (v := 3) (pc := 1202) dL_law_1202 (by decide) ?_
  refine e_iadd (pc := 1203) dL_law_1203 ?_
  refine e_sld (x := xs (i0 + 3)) (pc := 1204) dL_law_1204 (lw_vi (k := 3) rfl (by omega) hN) (lw_vx (k := 3) rfl (by omega) hN) ?_
  refine e_cvX (pc := 1205) hT dL_law_1205 kL_132 hw1 rfl rfl rfl rfl (lw_CR h2 (Nat.le_of_ble_eq_true rfl) (by omega) (by omega)) (Nat.le_of_ble_eq_true rfl) (fun w2 hQ => ?_)
  refine e_pop (pc := 1208) dL_law_1208 rfl ?_
  refine e_goto (pc := 1209) dL_law_1209 (t := 1764) (by decide) ?_
  exact hK w2 hQ
theorem lw_c28 {N i0 : Nat} {xs : Nat → Int32} {E : Prop} {w : mc_W} {kc ks : Nat} {Q : mc_W → Prop} (hN : N ≤ 3584) (hi : i0 + 7 ≤ N) (hj : jI yX6_judge cX6_judge 4 yX7_judge cX7_judge 4 0 0 E [.int (xs (i0 + 1)), .int (xs (i0 + 2))] w Q) (hk : kc ≤ 500000) (hs : ks ≤ 7000000) (hK : ∀ w2, Q w2 → mc_E R_law code 4 (mc_JL N xs) 1764 [some (.ref 1000300), some (.ref 0), some (.ref 29), some (.int (nI i0))] [] w2 (kc + 0) (ks + 0)) : mc_E R_law code 4 (mc_JL N xs) 1212 [some (.ref 1000300), some (.ref 0), some (.ref 29), some (.int (nI i0))] [] w kc ks := by
  obtain ⟨r1, r2, d1, d2, fs, h1, h2, hr, hw, hS⟩ := hj
  refine e_aloadn (pc := 1212) dL_law_1212 rfl ?_
  refine e_aloadn (pc := 1213) dL_law_1213 rfl ?_
  refine e_iloadn (pc := 1214) dL_law_1214 rfl ?_
  refine e_iconst (v := 1) (pc := 1215) dL_law_1215 (by decide) ?_
  refine e_iadd (pc := 1216) dL_law_1216 ?_
  refine e_sld (x := xs (i0 + 1)) (pc := 1217) dL_law_1217 (lw_vi (k := 1) rfl (by omega) hN) (lw_vx (k := 1) rfl (by omega) hN) ?_
  refine e_aloadn (pc := 1218) dL_law_1218 rfl ?_
  refine e_iloadn (pc := 1219) dL_law_1219 rfl ?_
  refine e_iconst (v := 2) (pc := 1220) dL_law_1220 (by decide) ?_
  refine e_iadd (pc := 1221) dL_law_1221 ?_
  refine e_sld (x := xs (i0 + 2)) (pc := 1222) dL_law_1222 (lw_vi (k := 2) rfl (by omega) hN) (lw_vx (k := 2) rfl (by omega) hN) ?_
  refine e_callV (pc := 1223) hS dL_law_1223 kL_133 hw rfl rfl rfl (lw_CR h1 (Nat.le_of_ble_eq_true rfl) (by omega) (by omega)) rfl (Nat.le_of_ble_eq_true rfl) (fun r w1 h => ?_)
  obtain ⟨rfl, ⟨fs1, hw1⟩, hT⟩ := h
  refine e_pop (pc := 1226) dL_law_1226 rfl ?_
  refine e_aloadn (pc := 1227) dL_law_1227 rfl ?_
  refine e_aloadn (pc := 1228) dL_law_1228 rfl ?_
  refine e_iloadn (pc := 1229) dL_law_1229 rfl ?_
  refine e_iconst (v := 1) (pc := 1230) dL_law_1230 (by decide) ?_
  refine e_iadd (pc := 1231) dL_law_1231 ?_
  refine e_sld (x := xs (i0 + 1)) (pc := 1232) dL_law_1232 (lw_vi (k := 1) rfl (by omega) hN) (lw_vx (k := 1) rfl (by omega) hN) ?_
  refine e_aloadn (pc := 1233) dL_law_1233 rfl ?_
  refine e_iloadn (pc := 1234) dL_law_1234 rfl ?_
  refine e_iconst (v := 2) (pc := 1235) dL_law_1235 (by decide) ?_
  refine e_iadd (pc := 1236) dL_law_1236 ?_
  refine e_sld (x := xs (i0 + 2)) (pc := 1237) dL_law_1237 (lw_vi (k := 2) rfl (by omega) hN) (lw_vx (k := 2) rfl (by omega) hN) ?_
  refine e_cvX (pc := 1238) hT dL_law_1238 kL_136 hw1 rfl rfl rfl rfl (lw_CR h2 (Nat.le_of_ble_eq_true rfl) (by omega) (by omega)) (Nat.le_of_ble_eq_true rfl) (fun w2 hQ => ?_)
  refine e_pop (pc := 1241) dL_law_1241 rfl ?_
  refine e_goto (pc := 1242) dL_law_1242 (t := 1764) (by decide) ?_
  exact hK w2 hQ
theorem lw_c29 {N i0 : Nat} {xs : Nat → Int32} {E : Prop} {w : mc_W} {kc ks : Nat} {Q : mc_W → Prop} (hN : N ≤ 3584) (hi : i0 + 7 ≤ N) (hj : jI yX6_kinds cX6_kinds 9 yX7_kinds cX7_kinds 10 0 0 E [.int (xs (i0 + 1)), .int (xs (i0 + 2)), .int (xs (i0 + 3))] w Q) (hk : kc ≤ 500000) (hs : ks ≤ 7000000) (hK : ∀ w2, Q w2 → mc_E R_law code 4 (mc_JL N xs) 1764 [some (.ref 1000300), some (.ref 0), some (.ref 29), some (.int (nI i0))] [] w2 (kc + 0) (ks + 0)) : mc_E R_law code 4 (mc_JL N xs) 1245 [some (.ref 1000300), some (.ref 0), some (.ref 29), some (.int (nI i0))] [] w kc ks := by
  obtain ⟨r1, r2, d1, d2, fs, h1, h2, hr, hw, hS⟩ := hj
  refine e_aloadn (pc := 1245) dL_law_1245 rfl ?_
  refine e_aloadn (pc := 1246) dL_law_1246 rfl ?_
  refine e_iloadn (pc := 1247) dL_law_1247 rfl ?_
  refine e_iconst (v := 1) (pc := 1248) dL_law_1248 (by decide) ?_
  refine e_iadd (pc := 1249) dL_law_1249 ?_
  refine e_sld (x := xs (i0 + 1)) (pc := 1250) dL_law_1250 (lw_vi (k := 1) rfl (by omega) hN) (lw_vx (k := 1) rfl (by omega) hN) ?_
  refine e_aloadn (pc := 1251) dL_law_1251 rfl ?_
  refine e_iloadn (pc := 1252) dL_law_1252 rfl ?_
  refine e_iconst (v := 2) (pc := 1253) dL_law_1253 (by decide) ?_
  refine e_iadd (pc := 1254) dL_law_1254 ?_
  refine e_sld (x := xs (i0 + 2)) (pc := 1255) dL_law_1255 (lw_vi (k := 2) rfl (by omega) hN) (lw_vx (k := 2) rfl (by omega) hN) ?_
  refine e_aloadn (pc := 1256) dL_law_1256 rfl ?_
  refine e_iloadn (pc := 1257) dL_law_1257 rfl ?_
  refine e_iconst (v := 3) (pc := 1258) dL_law_1258 (by decide) ?_
  refine e_iadd (pc := 1259) dL_law_1259 ?_
  refine e_sld (x := xs (i0 + 3)) (pc := 1260) dL_law_1260 (lw_vi (k := 3) rfl (by omega) hN) (lw_vx (k := 3) rfl (by omega) hN) ?_
  refine e_callV (pc := 1261) hS dL_law_1261 kL_137 hw rfl rfl rfl (lw_CR h1 (Nat.le_of_ble_eq_true rfl) (by omega) (by omega)) rfl (Nat.le_of_ble_eq_true rfl) (fun r w1 h => ?_)
  obtain ⟨rfl, ⟨fs1, hw1⟩, hT⟩ := h
  refine e_pop (pc := 1264) dL_law_1264 rfl ?_
  refine e_aloadn (pc := 1265) dL_law_1265 rfl ?_
  refine e_aloadn (pc := 1266) dL_law_1266 rfl ?_
  refine e_iloadn (pc := 1267) dL_law_1267 rfl ?_
  refine e_iconst (v := 1) (pc := 1268) dL_law_1268 (by decide) ?_
  refine e_iadd (pc := 1269) dL_law_1269 ?_
  refine e_sld (x := xs (i0 + 1)) (pc := 1270) dL_law_1270 (lw_vi (k := 1) rfl (by omega) hN) (lw_vx (k := 1) rfl (by omega) hN) ?_
  refine e_aloadn (pc := 1271) dL_law_1271 rfl ?_
  refine e_iloadn (pc := 1272) dL_law_1272 rfl ?_
  refine e_iconst (v := 2) (pc := 1273) dL_law_1273 (by decide) ?_
  refine e_iadd (pc := 1274) dL_law_1274 ?_
  refine e_sld (x := xs (i0 + 2)) (pc := 1275) dL_law_1275 (lw_vi (k := 2) rfl (by omega) hN) (lw_vx (k := 2) rfl (by omega) hN) ?_
  refine e_aloadn (pc := 1276) dL_law_1276 rfl ?_
  refine e_iloadn (pc := 1277) dL_law_1277 rfl ?_
  refine e_iconst (v := 3) (pc := 1278) dL_law_1278 (by decide) ?_
  refine e_iadd (pc := 1279) dL_law_1279 ?_
  refine e_sld (x := xs (i0 + 3)) (pc := 1280) dL_law_1280 (lw_vi (k := 3) rfl (by omega) hN) (lw_vx (k := 3) rfl (by omega) hN) ?_
  refine e_cvX (pc := 1281) hT dL_law_1281 kL_140 hw1 rfl rfl rfl rfl (lw_CR h2 (Nat.le_of_ble_eq_true rfl) (by omega) (by omega)) (Nat.le_of_ble_eq_true rfl) (fun w2 hQ => ?_)
  refine e_pop (pc := 1284) dL_law_1284 rfl ?_
  refine e_goto (pc := 1285) dL_law_1285 (t := 1764) (by decide) ?_
  exact hK w2 hQ
theorem lw_c30 {N i0 : Nat} {xs : Nat → Int32} {E : Prop} {w : mc_W} {kc ks : Nat} {Q : mc_W → Prop} (hN : N ≤ 3584) (hi : i0 + 7 ≤ N) (hj : jI yX6_whose cX6_whose 5 yX7_whose cX7_whose 5 0 0 E [.int (xs (i0 + 1))] w Q) (hk : kc ≤ 500000) (hs : ks ≤ 7000000) (hK : ∀ w2, Q w2 → mc_E R_law code 4 (mc_JL N xs) 1764 [some (.ref 1000300), some (.ref 0), some (.ref 29), some (.int (nI i0))] [] w2 (kc + 0) (ks + 0)) : mc_E R_law code 4 (mc_JL N xs) 1288 [some (.ref 1000300), some (.ref 0), some (.ref 29), some (.int (nI i0))] [] w kc ks := by
  obtain ⟨r1, r2, d1, d2, fs, h1, h2, hr, hw, hS⟩ := hj
  refine e_aloadn (pc := 1288) dL_law_1288 rfl ?_
  refine e_aloadn (pc := 1289) dL_law_1289 rfl ?_
  refine e_iloadn (pc := 1290) dL_law_1290 rfl ?_
  refine e_iconst (v := 1) (pc := 1291) dL_law_1291 (by decide) ?_
  refine e_iadd (pc := 1292) dL_law_1292 ?_
  refine e_sld (x := xs (i0 + 1)) (pc := 1293) dL_law_1293 (lw_vi (k := 1) rfl (by omega) hN) (lw_vx (k := 1) rfl (by omega) hN) ?_
  refine e_callV (pc := 1294) hS dL_law_1294 kL_141 hw rfl rfl rfl (lw_CR h1 (Nat.le_of_ble_eq_true rfl) (by omega) (by omega)) rfl (Nat.le_of_ble_eq_true rfl) (fun r w1 h => ?_)
  obtain ⟨rfl, ⟨fs1, hw1⟩, hT⟩ := h
  refine e_pop (pc := 1297) dL_law_1297 rfl ?_
  refine e_aloadn (pc := 1298) dL_law_1298 rfl ?_
  refine e_aloadn (pc := 1299) dL_law_1299 rfl ?_
  refine e_iloadn (pc := 1300) dL_law_1300 rfl ?_
  refine e_iconst (v := 1) (pc := 1301) dL_law_1301 (by decide) ?_
  refine e_iadd (pc := 1302) dL_law_1302 ?_
  refine e_sld (x := xs (i0 + 1)) (pc := 1303) dL_law_1303 (lw_vi (k := 1) rfl (by omega) hN) (lw_vx (k := 1) rfl (by omega) hN) ?_
  refine e_cvX (pc := 1304) hT dL_law_1304 kL_144 hw1 rfl rfl rfl rfl (lw_CR h2 (Nat.le_of_ble_eq_true rfl) (by omega) (by omega)) (Nat.le_of_ble_eq_true rfl) (fun w2 hQ => ?_)
  refine e_pop (pc := 1307) dL_law_1307 rfl ?_
  refine e_goto (pc := 1308) dL_law_1308 (t := 1764) (by decide) ?_
  exact hK w2 hQ
theorem lw_c31 {N i0 : Nat} {xs : Nat → Int32} {E : Prop} {w : mc_W} {kc ks : Nat} {Q : mc_W → Prop} (hN : N ≤ 3584) (hi : i0 + 7 ≤ N) (hj : jI yX6_laws cX6_laws 7 yX7_laws cX7_laws 7 0 0 E [.int (xs (i0 + 1)), .int (xs (i0 + 2))] w Q) (hk : kc ≤ 500000) (hs : ks ≤ 7000000) (hK : ∀ w2, Q w2 → mc_E R_law code 4 (mc_JL N xs) 1764 [some (.ref 1000300), some (.ref 0), some (.ref 29), some (.int (nI i0))] [] w2 (kc + 0) (ks + 0)) : mc_E R_law code 4 (mc_JL N xs) 1311 [some (.ref 1000300), some (.ref 0), some (.ref 29), some (.int (nI i0))] [] w kc ks := by
  obtain ⟨r1, r2, d1, d2, fs, h1, h2, hr, hw, hS⟩ := hj
  refine e_aloadn (pc := 1311) dL_law_1311 rfl ?_
  refine e_aloadn (pc := 1312) dL_law_1312 rfl ?_
  refine e_iloadn (pc := 1313) dL_law_1313 rfl ?_
  refine e_iconst (v := 1) (pc := 1314) dL_law_1314 (by decide) ?_
  refine e_iadd (pc := 1315) dL_law_1315 ?_
  refine e_sld (x := xs (i0 + 1)) (pc := 1316) dL_law_1316 (lw_vi (k := 1) rfl (by omega) hN) (lw_vx (k := 1) rfl (by omega) hN) ?_
  refine e_aloadn (pc := 1317) dL_law_1317 rfl ?_
  refine e_iloadn (pc := 1318) dL_law_1318 rfl ?_
  refine e_iconst (v := 2) (pc := 1319) dL_law_1319 (by decide) ?_
  refine e_iadd (pc := 1320) dL_law_1320 ?_
  refine e_sld (x := xs (i0 + 2)) (pc := 1321) dL_law_1321 (lw_vi (k := 2) rfl (by omega) hN) (lw_vx (k := 2) rfl (by omega) hN) ?_
  refine e_callV (pc := 1322) hS dL_law_1322 kL_145 hw rfl rfl rfl (lw_CR h1 (Nat.le_of_ble_eq_true rfl) (by omega) (by omega)) rfl (Nat.le_of_ble_eq_true rfl) (fun r w1 h => ?_)
  obtain ⟨rfl, ⟨fs1, hw1⟩, hT⟩ := h
  refine e_pop (pc := 1325) dL_law_1325 rfl ?_
  refine e_aloadn (pc := 1326) dL_law_1326 rfl ?_
  refine e_aloadn (pc := 1327) dL_law_1327 rfl ?_
  refine e_iloadn (pc := 1328) dL_law_1328 rfl ?_
  refine e_iconst (v := 1) (pc := 1329) dL_law_1329 (by decide) ?_
  refine e_iadd (pc := 1330) dL_law_1330 ?_
  refine e_sld (x := xs (i0 + 1)) (pc := 1331) dL_law_1331 (lw_vi (k := 1) rfl (by omega) hN) (lw_vx (k := 1) rfl (by omega) hN) ?_
  refine e_aloadn (pc := 1332) dL_law_1332 rfl ?_
  refine e_iloadn (pc := 1333) dL_law_1333 rfl ?_
  refine e_iconst (v := 2) (pc := 1334) dL_law_1334 (by decide) ?_
  refine e_iadd (pc := 1335) dL_law_1335 ?_
  refine e_sld (x := xs (i0 + 2)) (pc := 1336) dL_law_1336 (lw_vi (k := 2) rfl (by omega) hN) (lw_vx (k := 2) rfl (by omega) hN) ?_
  refine e_cvX (pc := 1337) hT dL_law_1337 kL_148 hw1 rfl rfl rfl rfl (lw_CR h2 (Nat.le_of_ble_eq_true rfl) (by omega) (by omega)) (Nat.le_of_ble_eq_true rfl) (fun w2 hQ => ?_)
  refine e_pop (pc := 1340) dL_law_1340 rfl ?_
  refine e_goto (pc := 1341) dL_law_1341 (t := 1764) (by decide) ?_
  exact hK w2 hQ
theorem lw_c32 {N i0 : Nat} {xs : Nat → Int32} {E : Prop} {w : mc_W} {kc ks : Nat} {Q : mc_W → Prop} (hN : N ≤ 3584) (hi : i0 + 7 ≤ N) (hj : jI yX6_film cX6_film 11 yX7_film cX7_film 10 0 0 E [.int (xs (i0 + 1)), .int (xs (i0 + 2)), .int (xs (i0 + 3)), .int (xs (i0 + 4))] w Q) (hk : kc ≤ 500000) (hs : ks ≤ 7000000) (hK : ∀ w2, Q w2 → mc_E R_law code 4 (mc_JL N xs) 1764 [some (.ref 1000300), some (.ref 0), some (.ref 29), some (.int (nI i0))] [] w2 (kc + 0) (ks + 0)) : mc_E R_law code 4 (mc_JL N xs) 1344 [some (.ref 1000300), some (.ref 0), some (.ref 29), some (.int (nI i0))] [] w kc ks := by
  obtain ⟨r1, r2, d1, d2, fs, h1, h2, hr, hw, hS⟩ := hj
  refine e_aloadn (pc := 1344) dL_law_1344 rfl ?_
  refine e_aloadn (pc := 1345) dL_law_1345 rfl ?_
  refine e_iloadn (pc := 1346) dL_law_1346 rfl ?_
  refine e_iconst (v := 1) (pc := 1347) dL_law_1347 (by decide) ?_
  refine e_iadd (pc := 1348) dL_law_1348 ?_
  refine e_sld (x := xs (i0 + 1)) (pc := 1349) dL_law_1349 (lw_vi (k := 1) rfl (by omega) hN) (lw_vx (k := 1) rfl (by omega) hN) ?_
  refine e_aloadn (pc := 1350) dL_law_1350 rfl ?_
  refine e_iloadn (pc := 1351) dL_law_1351 rfl ?_
  refine e_iconst (v := 2) (pc := 1352) dL_law_1352 (by decide) ?_
  refine e_iadd (pc := 1353) dL_law_1353 ?_
  refine e_sld (x := xs (i0 + 2)) (pc := 1354) dL_law_1354 (lw_vi (k := 2) rfl (by omega) hN) (lw_vx (k := 2) rfl (by omega) hN) ?_
  refine e_aloadn (pc := 1355) dL_law_1355 rfl ?_
  refine e_iloadn (pc := 1356) dL_law_1356 rfl ?_
  refine e_iconst (v := 3) (pc := 1357) dL_law_1357 (by decide) ?_
  refine e_iadd (pc := 1358) dL_law_1358 ?_
  refine e_sld (x := xs (i0 + 3)) (pc := 1359) dL_law_1359 (lw_vi (k := 3) rfl (by omega) hN) (lw_vx (k := 3) rfl (by omega) hN) ?_
  refine e_aloadn (pc := 1360) dL_law_1360 rfl ?_
  refine e_iloadn (pc := 1361) dL_law_1361 rfl ?_
  refine e_iconst (v := 4) (pc := 1362) dL_law_1362 (by decide) ?_
  refine e_iadd (pc := 1363) dL_law_1363 ?_
  refine e_sld (x := xs (i0 + 4)) (pc := 1364) dL_law_1364 (lw_vi (k := 4) rfl (by omega) hN) (lw_vx (k := 4) rfl (by omega) hN) ?_
  refine e_callV (pc := 1365) hS dL_law_1365 kL_149 hw rfl rfl rfl (lw_CR h1 (Nat.le_of_ble_eq_true rfl) (by omega) (by omega)) rfl (Nat.le_of_ble_eq_true rfl) (fun r w1 h => ?_)
  obtain ⟨rfl, ⟨fs1, hw1⟩, hT⟩ := h
  refine e_pop (pc := 1368) dL_law_1368 rfl ?_
  refine e_aloadn (pc := 1369) dL_law_1369 rfl ?_
  refine e_aloadn (pc := 1370) dL_law_1370 rfl ?_
  refine e_iloadn (pc := 1371) dL_law_1371 rfl ?_
  refine e_iconst (v := 1) (pc := 1372) dL_law_1372 (by decide) ?_
  refine e_iadd (pc := 1373) dL_law_1373 ?_
  refine e_sld (x := xs (i0 + 1)) (pc := 1374) dL_law_1374 (lw_vi (k := 1) rfl (by omega) hN) (lw_vx (k := 1) rfl (by omega) hN) ?_
  refine e_aloadn (pc := 1375) dL_law_1375 rfl ?_
  refine e_iloadn (pc := 1376) dL_law_1376 rfl ?_
  refine e_iconst (v := 2) (pc := 1377) dL_law_1377 (by decide) ?_
  refine e_iadd (pc := 1378) dL_law_1378 ?_
  refine e_sld (x := xs (i0 + 2)) (pc := 1379) dL_law_1379 (lw_vi (k := 2) rfl (by omega) hN) (lw_vx (k := 2) rfl (by omega) hN) ?_
  refine e_aloadn (pc := 1380) dL_law_1380 rfl ?_
  refine e_iloadn (pc := 1381) dL_law_1381 rfl ?_
  refine e_iconst (v := 3) (pc := 1382) dL_law_1382 (by decide) ?_
  refine e_iadd (pc := 1383) dL_law_1383 ?_
  refine e_sld (x := xs (i0 + 3)) (pc := 1384) dL_law_1384 (lw_vi (k := 3) rfl (by omega) hN) (lw_vx (k := 3) rfl (by omega) hN) ?_
  refine e_aloadn (pc := 1385) dL_law_1385 rfl ?_
  refine e_iloadn (pc := 1386) dL_law_1386 rfl ?_
  refine e_iconst (v := 4) (pc := 1387) dL_law_1387 (by decide) ?_
  refine e_iadd (pc := 1388) dL_law_1388 ?_
  refine e_sld (x := xs (i0 + 4)) (pc := 1389) dL_law_1389 (lw_vi (k := 4) rfl (by omega) hN) (lw_vx (k := 4) rfl (by omega) hN) ?_
  refine e_cvX (pc := 1390) hT dL_law_1390 kL_152 hw1 rfl rfl rfl rfl (lw_CR h2 (Nat.le_of_ble_eq_true rfl) (by omega) (by omega)) (Nat.le_of_ble_eq_true rfl) (fun w2 hQ => ?_)
  refine e_pop (pc := 1393) dL_law_1393 rfl ?_
  refine e_goto (pc := 1394) dL_law_1394 (t := 1764) (by decide) ?_
  exact hK w2 hQ
theorem lw_c33 {N i0 : Nat} {xs : Nat → Int32} {E : Prop} {w : mc_W} {kc ks : Nat} {Q : mc_W → Prop} (hN : N ≤ 3584) (hi : i0 + 7 ≤ N) (hj : jL yX6_drawn cX6_drawn 6 yX7_drawn cX7_drawn 4 0 0 E [.int (xs (i0 + 1)), .int (xs (i0 + 2)), .int (xs (i0 + 3))] w Q) (hk : kc ≤ 500000) (hs : ks ≤ 7000000) (hK : ∀ w2, Q w2 → mc_E R_law code 4 (mc_JL N xs) 1764 [some (.ref 1000300), some (.ref 0), some (.ref 29), some (.int (nI i0))] [] w2 (kc + 0) (ks + 0)) : mc_E R_law code 4 (mc_JL N xs) 1397 [some (.ref 1000300), some (.ref 0), some (.ref 29), some (.int (nI i0))] [] w kc ks := by
  obtain ⟨r1, r2, d1, d2, fs, h1, h2, hr, hw, hS⟩ := hj
  refine e_aloadn (pc := 1397) dL_law_1397 rfl ?_
  refine e_aloadn (pc := 1398) dL_law_1398 rfl ?_
  refine e_iloadn (pc := 1399) dL_law_1399 rfl ?_
  refine e_iconst (v := 1) (pc := 1400) dL_law_1400 (by decide) ?_
  refine e_iadd (pc := 1401) dL_law_1401 ?_
  refine e_sld (x := xs (i0 + 1)) (pc := 1402) dL_law_1402 (lw_vi (k := 1) rfl (by omega) hN) (lw_vx (k := 1) rfl (by omega) hN) ?_
  refine e_aloadn (pc := 1403) dL_law_1403 rfl ?_
  refine e_iloadn (pc := 1404) dL_law_1404 rfl ?_
  refine e_iconst (v := 2) (pc := 1405) dL_law_1405 (by decide) ?_
  refine e_iadd (pc := 1406) dL_law_1406 ?_
  refine e_sld (x := xs (i0 + 2)) (pc := 1407) dL_law_1407 (lw_vi (k := 2) rfl (by omega) hN) (lw_vx (k := 2) rfl (by omega) hN) ?_
  refine e_aloadn (pc := 1408) dL_law_1408 rfl ?_
  refine e_iloadn (pc := 1409) dL_law_1409 rfl ?_
  refine e_iconst (v := 3) (pc := 1410) dL_law_1410 (by decide) ?_
  refine e_iadd (pc := 1411) dL_law_1411 ?_
  refine e_sld (x := xs (i0 + 3)) (pc := 1412) dL_law_1412 (lw_vi (k := 3) rfl (by omega) hN) (lw_vx (k := 3) rfl (by omega) hN) ?_
  refine e_callV (pc := 1413) hS dL_law_1413 kL_153 hw rfl rfl rfl (lw_CR h1 (Nat.le_of_ble_eq_true rfl) (by omega) (by omega)) rfl (Nat.le_of_ble_eq_true rfl) (fun r w1 h => ?_)
  obtain ⟨rfl, ⟨fs1, hw1⟩, hT⟩ := h
  refine lw_pop2 (pc := 1416) dL_law_1416 rfl ?_
  refine e_aloadn (pc := 1417) dL_law_1417 rfl ?_
  refine e_aloadn (pc := 1418) dL_law_1418 rfl ?_
  refine e_iloadn (pc := 1419) dL_law_1419 rfl ?_
  refine e_iconst (v := 1) (pc := 1420) dL_law_1420 (by decide) ?_
  refine e_iadd (pc := 1421) dL_law_1421 ?_
  refine e_sld (x := xs (i0 + 1)) (pc := 1422) dL_law_1422 (lw_vi (k := 1) rfl (by omega) hN) (lw_vx (k := 1) rfl (by omega) hN) ?_
  refine e_aloadn (pc := 1423) dL_law_1423 rfl ?_
  refine e_iloadn (pc := 1424) dL_law_1424 rfl ?_
  refine e_iconst (v := 2) (pc := 1425) dL_law_1425 (by decide) ?_
  refine e_iadd (pc := 1426) dL_law_1426 ?_
  refine e_sld (x := xs (i0 + 2)) (pc := 1427) dL_law_1427 (lw_vi (k := 2) rfl (by omega) hN) (lw_vx (k := 2) rfl (by omega) hN) ?_
  refine e_aloadn (pc := 1428) dL_law_1428 rfl ?_
  refine e_iloadn (pc := 1429) dL_law_1429 rfl ?_
  refine e_iconst (v := 3) (pc := 1430) dL_law_1430 (by decide) ?_
  refine e_iadd (pc := 1431) dL_law_1431 ?_
  refine e_sld (x := xs (i0 + 3)) (pc := 1432) dL_law_1432 (lw_vi (k := 3) rfl (by omega) hN) (lw_vx (k := 3) rfl (by omega) hN) ?_
  refine e_cvX (pc := 1433) hT dL_law_1433 kL_156 hw1 rfl rfl rfl rfl (lw_CR h2 (Nat.le_of_ble_eq_true rfl) (by omega) (by omega)) (Nat.le_of_ble_eq_true rfl) (fun w2 hQ => ?_)
  refine lw_pop2 (pc := 1436) dL_law_1436 rfl ?_
  refine e_goto (pc := 1437) dL_law_1437 (t := 1764) (by decide) ?_
  exact hK w2 hQ
theorem lw_c34 {N i0 : Nat} {xs : Nat → Int32} {E : Prop} {w : mc_W} {kc ks : Nat} {Q : mc_W → Prop} (hN : N ≤ 3584) (hi : i0 + 7 ≤ N) (hj : jL yX6_odds cX6_odds 13 yX7_odds cX7_odds 11 0 0 E [.int (xs (i0 + 1)), .int (xs (i0 + 2)), .int (xs (i0 + 3)), .int (xs (i0 + 4)), .int (xs (i0 + 5))] w Q) (hk : kc ≤ 500000) (hs : ks ≤ 7000000) (hK : ∀ w2, Q w2 → mc_E R_law code 4 (mc_JL N xs) 1764 [some (.ref 1000300), some (.ref 0), some (.ref 29), some (.int (nI i0))] [] w2 (kc + 0) (ks + 0)) : mc_E R_law code 4 (mc_JL N xs) 1440 [some (.ref 1000300), some (.ref 0), some (.ref 29), some (.int (nI i0))] [] w kc ks := by
  obtain ⟨r1, r2, d1, d2, fs, h1, h2, hr, hw, hS⟩ := hj
  refine e_aloadn (pc := 1440) dL_law_1440 rfl ?_
  refine e_aloadn (pc := 1441) dL_law_1441 rfl ?_
  refine e_iloadn (pc := 1442) dL_law_1442 rfl ?_
  refine e_iconst (v := 1) (pc := 1443) dL_law_1443 (by decide) ?_
  refine e_iadd (pc := 1444) dL_law_1444 ?_
  refine e_sld (x := xs (i0 + 1)) (pc := 1445) dL_law_1445 (lw_vi (k := 1) rfl (by omega) hN) (lw_vx (k := 1) rfl (by omega) hN) ?_
  refine e_aloadn (pc := 1446) dL_law_1446 rfl ?_
  refine e_iloadn (pc := 1447) dL_law_1447 rfl ?_
  refine e_iconst (v := 2) (pc := 1448) dL_law_1448 (by decide) ?_
  refine e_iadd (pc := 1449) dL_law_1449 ?_
  refine e_sld (x := xs (i0 + 2)) (pc := 1450) dL_law_1450 (lw_vi (k := 2) rfl (by omega) hN) (lw_vx (k := 2) rfl (by omega) hN) ?_
  refine e_aloadn (pc := 1451) dL_law_1451 rfl ?_
  refine e_iloadn (pc := 1452) dL_law_1452 rfl ?_
  refine e_iconst (v := 3) (pc := 1453) dL_law_1453 (by decide) ?_
  refine e_iadd (pc := 1454) dL_law_1454 ?_
  refine e_sld (x := xs (i0 + 3)) (pc := 1455) dL_law_1455 (lw_vi (k := 3) rfl (by omega) hN) (lw_vx (k := 3) rfl (by omega) hN) ?_
  refine e_aloadn (pc := 1456) dL_law_1456 rfl ?_
  refine e_iloadn (pc := 1457) dL_law_1457 rfl ?_
  refine e_iconst (v := 4) (pc := 1458) dL_law_1458 (by decide) ?_
  refine e_iadd (pc := 1459) dL_law_1459 ?_
  refine e_sld (x := xs (i0 + 4)) (pc := 1460) dL_law_1460 (lw_vi (k := 4) rfl (by omega) hN) (lw_vx (k := 4) rfl (by omega) hN) ?_
  refine e_aloadn (pc := 1461) dL_law_1461 rfl ?_
  refine e_iloadn (pc := 1462) dL_law_1462 rfl ?_
  refine e_iconst (v := 5) (pc := 1463) dL_law_1463 (by decide) ?_
  refine e_iadd (pc := 1464) dL_law_1464 ?_
  refine e_sld (x := xs (i0 + 5)) (pc := 1465) dL_law_1465 (lw_vi (k := 5) rfl (by omega) hN) (lw_vx (k := 5) rfl (by omega) hN) ?_
  refine e_callV (pc := 1466) hS dL_law_1466 kL_157 hw rfl rfl rfl (lw_CR h1 (Nat.le_of_ble_eq_true rfl) (by omega) (by omega)) rfl (Nat.le_of_ble_eq_true rfl) (fun r w1 h => ?_)
  obtain ⟨rfl, ⟨fs1, hw1⟩, hT⟩ := h
  refine lw_pop2 (pc := 1469) dL_law_1469 rfl ?_
  refine e_aloadn (pc := 1470) dL_law_1470 rfl ?_
  refine e_aloadn (pc := 1471) dL_law_1471 rfl ?_
  refine e_iloadn (pc := 1472) dL_law_1472 rfl ?_
  refine e_iconst (v := 1) (pc := 1473) dL_law_1473 (by decide) ?_
  refine e_iadd (pc := 1474) dL_law_1474 ?_
  refine e_sld (x := xs (i0 + 1)) (pc := 1475) dL_law_1475 (lw_vi (k := 1) rfl (by omega) hN) (lw_vx (k := 1) rfl (by omega) hN) ?_
  refine e_aloadn (pc := 1476) dL_law_1476 rfl ?_
  refine e_iloadn (pc := 1477) dL_law_1477 rfl ?_
  refine e_iconst (v := 2) (pc := 1478) dL_law_1478 (by decide) ?_
  refine e_iadd (pc := 1479) dL_law_1479 ?_
  refine e_sld (x := xs (i0 + 2)) (pc := 1480) dL_law_1480 (lw_vi (k := 2) rfl (by omega) hN) (lw_vx (k := 2) rfl (by omega) hN) ?_
  refine e_aloadn (pc := 1481) dL_law_1481 rfl ?_
  refine e_iloadn (pc := 1482) dL_law_1482 rfl ?_
  refine e_iconst (v := 3) (pc := 1483) dL_law_1483 (by decide) ?_
  refine e_iadd (pc := 1484) dL_law_1484 ?_
  refine e_sld (x := xs (i0 + 3)) (pc := 1485) dL_law_1485 (lw_vi (k := 3) rfl (by omega) hN) (lw_vx (k := 3) rfl (by omega) hN) ?_
  refine e_aloadn (pc := 1486) dL_law_1486 rfl ?_
  refine e_iloadn (pc := 1487) dL_law_1487 rfl ?_
  refine e_iconst (v := 4) (pc := 1488) dL_law_1488 (by decide) ?_
  refine e_iadd (pc := 1489) dL_law_1489 ?_
  refine e_sld (x := xs (i0 + 4)) (pc := 1490) dL_law_1490 (lw_vi (k := 4) rfl (by omega) hN) (lw_vx (k := 4) rfl (by omega) hN) ?_
  refine e_aloadn (pc := 1491) dL_law_1491 rfl ?_
  refine e_iloadn (pc := 1492) dL_law_1492 rfl ?_
  refine e_iconst (v := 5) (pc := 1493) dL_law_1493 (by decide) ?_
  refine e_iadd (pc := 1494) dL_law_1494 ?_
  refine e_sld (x := xs (i0 + 5)) (pc := 1495) dL_law_1495 (lw_vi (k := 5) rfl (by omega) hN) (lw_vx (k := 5) rfl (by omega) hN) ?_
  refine e_cvX (pc := 1496) hT dL_law_1496 kL_161 hw1 rfl rfl rfl rfl (lw_CR h2 (Nat.le_of_ble_eq_true rfl) (by omega) (by omega)) (Nat.le_of_ble_eq_true rfl) (fun w2 hQ => ?_)
  refine lw_pop2 (pc := 1499) dL_law_1499 rfl ?_
  refine e_goto (pc := 1500) dL_law_1500 (t := 1764) (by decide) ?_
  exact hK w2 hQ
theorem lw_c35 {N i0 : Nat} {xs : Nat → Int32} {E : Prop} {w : mc_W} {kc ks : Nat} {Q : mc_W → Prop} (hN : N ≤ 3584) (hi : i0 + 7 ≤ N) (hj : jI yX6_image cX6_image 1 yX7_image cX7_image 2 0 0 E [] w Q) (hk : kc ≤ 500000) (hs : ks ≤ 7000000) (hK : ∀ w2, Q w2 → mc_E R_law code 4 (mc_JL N xs) 1764 [some (.ref 1000300), some (.ref 0), some (.ref 29), some (.int (nI i0))] [] w2 (kc + 0) (ks + 0)) : mc_E R_law code 4 (mc_JL N xs) 1503 [some (.ref 1000300), some (.ref 0), some (.ref 29), some (.int (nI i0))] [] w kc ks := by
  obtain ⟨r1, r2, d1, d2, fs, h1, h2, hr, hw, hS⟩ := hj
  refine e_aloadn (pc := 1503) dL_law_1503 rfl ?_
  refine e_callV (pc := 1504) hS dL_law_1504 kL_162 hw rfl rfl rfl (lw_CR h1 (Nat.le_of_ble_eq_true rfl) (by omega) (by omega)) rfl (Nat.le_of_ble_eq_true rfl) (fun r w1 h => ?_)
  obtain ⟨rfl, ⟨fs1, hw1⟩, hT⟩ := h
  refine e_pop (pc := 1507) dL_law_1507 rfl ?_
  refine e_aloadn (pc := 1508) dL_law_1508 rfl ?_
  refine e_cvX (pc := 1509) hT dL_law_1509 kL_165 hw1 rfl rfl rfl rfl (lw_CR h2 (Nat.le_of_ble_eq_true rfl) (by omega) (by omega)) (Nat.le_of_ble_eq_true rfl) (fun w2 hQ => ?_)
  refine e_pop (pc := 1512) dL_law_1512 rfl ?_
  refine e_goto (pc := 1513) dL_law_1513 (t := 1764) (by decide) ?_
  exact hK w2 hQ
theorem lw_c36 {N i0 : Nat} {xs : Nat → Int32} {E : Prop} {w : mc_W} {kc ks : Nat} {Q : mc_W → Prop} (hN : N ≤ 3584) (hi : i0 + 7 ≤ N) (hj : jI yX6_back cX6_back 1 yX7_back cX7_back 2 0 0 E [] w Q) (hk : kc ≤ 500000) (hs : ks ≤ 7000000) (hK : ∀ w2, Q w2 → mc_E R_law code 4 (mc_JL N xs) 1764 [some (.ref 1000300), some (.ref 0), some (.ref 29), some (.int (nI i0))] [] w2 (kc + 0) (ks + 0)) : mc_E R_law code 4 (mc_JL N xs) 1516 [some (.ref 1000300), some (.ref 0), some (.ref 29), some (.int (nI i0))] [] w kc ks := by
  obtain ⟨r1, r2, d1, d2, fs, h1, h2, hr, hw, hS⟩ := hj
  refine e_aloadn (pc := 1516) dL_law_1516 rfl ?_
  refine e_callV (pc := 1517) hS dL_law_1517 kL_166 hw rfl rfl rfl (lw_CR h1 (Nat.le_of_ble_eq_true rfl) (by omega) (by omega)) rfl (Nat.le_of_ble_eq_true rfl) (fun r w1 h => ?_)
  obtain ⟨rfl, ⟨fs1, hw1⟩, hT⟩ := h
  refine e_pop (pc := 1520) dL_law_1520 rfl ?_
  refine e_aloadn (pc := 1521) dL_law_1521 rfl ?_
  refine e_cvX (pc := 1522) hT dL_law_1522 kL_169 hw1 rfl rfl rfl rfl (lw_CR h2 (Nat.le_of_ble_eq_true rfl) (by omega) (by omega)) (Nat.le_of_ble_eq_true rfl) (fun w2 hQ => ?_)
  refine e_pop (pc := 1525) dL_law_1525 rfl ?_
  refine e_goto (pc := 1526) dL_law_1526 (t := 1764) (by decide) ?_
  exact hK w2 hQ
theorem lw_c37 {N i0 : Nat} {xs : Nat → Int32} {E : Prop} {w : mc_W} {kc ks : Nat} {Q : mc_W → Prop} (hN : N ≤ 3584) (hi : i0 + 7 ≤ N) (hj : jI yX6_sheet cX6_sheet 5 yX7_sheet cX7_sheet 5 0 0 E [.int (xs (i0 + 1)), .int (xs (i0 + 2)), .int (xs (i0 + 3))] w Q) (hk : kc ≤ 500000) (hs : ks ≤ 7000000) (hK : ∀ w2, Q w2 → mc_E R_law code 4 (mc_JL N xs) 1764 [some (.ref 1000300), some (.ref 0), some (.ref 29), some (.int (nI i0))] [] w2 (kc + 0) (ks + 0)) : mc_E R_law code 4 (mc_JL N xs) 1529 [some (.ref 1000300), some (.ref 0), some (.ref 29), some (.int (nI i0))] [] w kc ks := by
  obtain ⟨r1, r2, d1, d2, fs, h1, h2, hr, hw, hS⟩ := hj
  refine e_aloadn (pc := 1529) dL_law_1529 rfl ?_
  refine e_aloadn (pc := 1530) dL_law_1530 rfl ?_
  refine e_iloadn (pc := 1531) dL_law_1531 rfl ?_
  refine e_iconst (v := 1) (pc := 1532) dL_law_1532 (by decide) ?_
  refine e_iadd (pc := 1533) dL_law_1533 ?_
  refine e_sld (x := xs (i0 + 1)) (pc := 1534) dL_law_1534 (lw_vi (k := 1) rfl (by omega) hN) (lw_vx (k := 1) rfl (by omega) hN) ?_
  refine e_aloadn (pc := 1535) dL_law_1535 rfl ?_
  refine e_iloadn (pc := 1536) dL_law_1536 rfl ?_
  refine e_iconst (v := 2) (pc := 1537) dL_law_1537 (by decide) ?_
  refine e_iadd (pc := 1538) dL_law_1538 ?_
  refine e_sld (x := xs (i0 + 2)) (pc := 1539) dL_law_1539 (lw_vi (k := 2) rfl (by omega) hN) (lw_vx (k := 2) rfl (by omega) hN) ?_
  refine e_aloadn (pc := 1540) dL_law_1540 rfl ?_
  refine e_iloadn (pc := 1541) dL_law_1541 rfl ?_
  refine e_iconst (v := 3) (pc := 1542) dL_law_1542 (by decide) ?_
  refine e_iadd (pc := 1543) dL_law_1543 ?_
  refine e_sld (x := xs (i0 + 3)) (pc := 1544) dL_law_1544 (lw_vi (k := 3) rfl (by omega) hN) (lw_vx (k := 3) rfl (by omega) hN) ?_
  refine e_callV (pc := 1545) hS dL_law_1545 kL_170 hw rfl rfl rfl (lw_CR h1 (Nat.le_of_ble_eq_true rfl) (by omega) (by omega)) rfl (Nat.le_of_ble_eq_true rfl) (fun r w1 h => ?_)
  obtain ⟨rfl, ⟨fs1, hw1⟩, hT⟩ := h
  refine e_pop (pc := 1548) dL_law_1548 rfl ?_
  refine e_aloadn (pc := 1549) dL_law_1549 rfl ?_
  refine e_aloadn (pc := 1550) dL_law_1550 rfl ?_
  refine e_iloadn (pc := 1551) dL_law_1551 rfl ?_
  refine e_iconst (v := 1) (pc := 1552) dL_law_1552 (by decide) ?_
  refine e_iadd (pc := 1553) dL_law_1553 ?_
  refine e_sld (x := xs (i0 + 1)) (pc := 1554) dL_law_1554 (lw_vi (k := 1) rfl (by omega) hN) (lw_vx (k := 1) rfl (by omega) hN) ?_
  refine e_aloadn (pc := 1555) dL_law_1555 rfl ?_
  refine e_iloadn (pc := 1556) dL_law_1556 rfl ?_
  refine e_iconst (v := 2) (pc := 1557) dL_law_1557 (by decide) ?_
  refine e_iadd (pc := 1558) dL_law_1558 ?_
  refine e_sld (x := xs (i0 + 2)) (pc := 1559) dL_law_1559 (lw_vi (k := 2) rfl (by omega) hN) (lw_vx (k := 2) rfl (by omega) hN) ?_
  refine e_aloadn (pc := 1560) dL_law_1560 rfl ?_
  refine e_iloadn (pc := 1561) dL_law_1561 rfl ?_
  refine e_iconst (v := 3) (pc := 1562) dL_law_1562 (by decide) ?_
  refine e_iadd (pc := 1563) dL_law_1563 ?_
  refine e_sld (x := xs (i0 + 3)) (pc := 1564) dL_law_1564 (lw_vi (k := 3) rfl (by omega) hN) (lw_vx (k := 3) rfl (by omega) hN) ?_
  refine e_cvX (pc := 1565) hT dL_law_1565 kL_173 hw1 rfl rfl rfl rfl (lw_CR h2 (Nat.le_of_ble_eq_true rfl) (by omega) (by omega)) (Nat.le_of_ble_eq_true rfl) (fun w2 hQ => ?_)
  refine e_pop (pc := 1568) dL_law_1568 rfl ?_
  refine e_goto (pc := 1569) dL_law_1569 (t := 1764) (by decide) ?_
  exact hK w2 hQ
theorem lw_c38 {N i0 : Nat} {xs : Nat → Int32} {E : Prop} {w : mc_W} {kc ks : Nat} {Q : mc_W → Prop} (hN : N ≤ 3584) (hi : i0 + 7 ≤ N) (hj : jI yX6_cell cX6_cell 6 yX7_cell cX7_cell 4 0 0 E [.int (xs (i0 + 1)), .int (xs (i0 + 2)), .int (xs (i0 + 3))] w Q) (hk : kc ≤ 500000) (hs : ks ≤ 7000000) (hK : ∀ w2, Q w2 → mc_E R_law code 4 (mc_JL N xs) 1764 [some (.ref 1000300), some (.ref 0), some (.ref 29), some (.int (nI i0))] [] w2 (kc + 0) (ks + 0)) : mc_E R_law code 4 (mc_JL N xs) 1572 [some (.ref 1000300), some (.ref 0), some (.ref 29), some (.int (nI i0))] [] w kc ks := by
  obtain ⟨r1, r2, d1, d2, fs, h1, h2, hr, hw, hS⟩ := hj
  refine e_aloadn (pc := 1572) dL_law_1572 rfl ?_
  refine e_aloadn (pc := 1573) dL_law_1573 rfl ?_
  refine e_iloadn (pc := 1574) dL_law_1574 rfl ?_
  refine e_iconst (v := 1) (pc := 1575) dL_law_1575 (by decide) ?_
  refine e_iadd (pc := 1576) dL_law_1576 ?_
  refine e_sld (x := xs (i0 + 1)) (pc := 1577) dL_law_1577 (lw_vi (k := 1) rfl (by omega) hN) (lw_vx (k := 1) rfl (by omega) hN) ?_
  refine e_aloadn (pc := 1578) dL_law_1578 rfl ?_
  refine e_iloadn (pc := 1579) dL_law_1579 rfl ?_
  refine e_iconst (v := 2) (pc := 1580) dL_law_1580 (by decide) ?_
  refine e_iadd (pc := 1581) dL_law_1581 ?_
  refine e_sld (x := xs (i0 + 2)) (pc := 1582) dL_law_1582 (lw_vi (k := 2) rfl (by omega) hN) (lw_vx (k := 2) rfl (by omega) hN) ?_
  refine e_aloadn (pc := 1583) dL_law_1583 rfl ?_
  refine e_iloadn (pc := 1584) dL_law_1584 rfl ?_
  refine e_iconst (v := 3) (pc := 1585) dL_law_1585 (by decide) ?_
  refine e_iadd (pc := 1586) dL_law_1586 ?_
  refine e_sld (x := xs (i0 + 3)) (pc := 1587) dL_law_1587 (lw_vi (k := 3) rfl (by omega) hN) (lw_vx (k := 3) rfl (by omega) hN) ?_
  refine e_callV (pc := 1588) hS dL_law_1588 kL_174 hw rfl rfl rfl (lw_CR h1 (Nat.le_of_ble_eq_true rfl) (by omega) (by omega)) rfl (Nat.le_of_ble_eq_true rfl) (fun r w1 h => ?_)
  obtain ⟨rfl, ⟨fs1, hw1⟩, hT⟩ := h
  refine e_pop (pc := 1591) dL_law_1591 rfl ?_
  refine e_aloadn (pc := 1592) dL_law_1592 rfl ?_
  refine e_aloadn (pc := 1593) dL_law_1593 rfl ?_
  refine e_iloadn (pc := 1594) dL_law_1594 rfl ?_
  refine e_iconst (v := 1) (pc := 1595) dL_law_1595 (by decide) ?_
  refine e_iadd (pc := 1596) dL_law_1596 ?_
  refine e_sld (x := xs (i0 + 1)) (pc := 1597) dL_law_1597 (lw_vi (k := 1) rfl (by omega) hN) (lw_vx (k := 1) rfl (by omega) hN) ?_
  refine e_aloadn (pc := 1598) dL_law_1598 rfl ?_
  refine e_iloadn (pc := 1599) dL_law_1599 rfl ?_
  refine e_iconst (v := 2) (pc := 1600) dL_law_1600 (by decide) ?_
  refine e_iadd (pc := 1601) dL_law_1601 ?_
  refine e_sld (x := xs (i0 + 2)) (pc := 1602) dL_law_1602 (lw_vi (k := 2) rfl (by omega) hN) (lw_vx (k := 2) rfl (by omega) hN) ?_
  refine e_aloadn (pc := 1603) dL_law_1603 rfl ?_
  refine e_iloadn (pc := 1604) dL_law_1604 rfl ?_
  refine e_iconst (v := 3) (pc := 1605) dL_law_1605 (by decide) ?_
  refine e_iadd (pc := 1606) dL_law_1606 ?_
  refine e_sld (x := xs (i0 + 3)) (pc := 1607) dL_law_1607 (lw_vi (k := 3) rfl (by omega) hN) (lw_vx (k := 3) rfl (by omega) hN) ?_
  refine e_cvX (pc := 1608) hT dL_law_1608 kL_177 hw1 rfl rfl rfl rfl (lw_CR h2 (Nat.le_of_ble_eq_true rfl) (by omega) (by omega)) (Nat.le_of_ble_eq_true rfl) (fun w2 hQ => ?_)
  refine e_pop (pc := 1611) dL_law_1611 rfl ?_
  refine e_goto (pc := 1612) dL_law_1612 (t := 1764) (by decide) ?_
  exact hK w2 hQ
theorem lw_c39 {N i0 : Nat} {xs : Nat → Int32} {E : Prop} {w : mc_W} {kc ks : Nat} {Q : mc_W → Prop} (hN : N ≤ 3584) (hi : i0 + 7 ≤ N) (hj : jI yX6_copy cX6_copy 8 yX7_copy cX7_copy 10 0 0 E [.int (xs (i0 + 1)), .int (xs (i0 + 2)), .int (xs (i0 + 3)), .int (xs (i0 + 4)), .int (xs (i0 + 5))] w Q) (hk : kc ≤ 500000) (hs : ks ≤ 7000000) (hK : ∀ w2, Q w2 → mc_E R_law code 4 (mc_JL N xs) 1764 [some (.ref 1000300), some (.ref 0), some (.ref 29), some (.int (nI i0))] [] w2 (kc + 0) (ks + 0)) : mc_E R_law code 4 (mc_JL N xs) 1615 [some (.ref 1000300), some (.ref 0), some (.ref 29), some (.int (nI i0))] [] w kc ks := by
  obtain ⟨r1, r2, d1, d2, fs, h1, h2, hr, hw, hS⟩ := hj
  refine e_aloadn (pc := 1615) dL_law_1615 rfl ?_
  refine e_aloadn (pc := 1616) dL_law_1616 rfl ?_
  refine e_iloadn (pc := 1617) dL_law_1617 rfl ?_
  refine e_iconst (v := 1) (pc := 1618) dL_law_1618 (by decide) ?_
  refine e_iadd (pc := 1619) dL_law_1619 ?_
  refine e_sld (x := xs (i0 + 1)) (pc := 1620) dL_law_1620 (lw_vi (k := 1) rfl (by omega) hN) (lw_vx (k := 1) rfl (by omega) hN) ?_
  refine e_aloadn (pc := 1621) dL_law_1621 rfl ?_
  refine e_iloadn (pc := 1622) dL_law_1622 rfl ?_
  refine e_iconst (v := 2) (pc := 1623) dL_law_1623 (by decide) ?_
  refine e_iadd (pc := 1624) dL_law_1624 ?_
  refine e_sld (x := xs (i0 + 2)) (pc := 1625) dL_law_1625 (lw_vi (k := 2) rfl (by omega) hN) (lw_vx (k := 2) rfl (by omega) hN) ?_
  refine e_aloadn (pc := 1626) dL_law_1626 rfl ?_
  refine e_iloadn (pc := 1627) dL_law_1627 rfl ?_
  refine e_iconst (v := 3) (pc := 1628) dL_law_1628 (by decide) ?_
  refine e_iadd (pc := 1629) dL_law_1629 ?_
  refine e_sld (x := xs (i0 + 3)) (pc := 1630) dL_law_1630 (lw_vi (k := 3) rfl (by omega) hN) (lw_vx (k := 3) rfl (by omega) hN) ?_
  refine e_aloadn (pc := 1631) dL_law_1631 rfl ?_
  refine e_iloadn (pc := 1632) dL_law_1632 rfl ?_
  refine e_iconst (v := 4) (pc := 1633) dL_law_1633 (by decide) ?_
  refine e_iadd (pc := 1634) dL_law_1634 ?_
  refine e_sld (x := xs (i0 + 4)) (pc := 1635) dL_law_1635 (lw_vi (k := 4) rfl (by omega) hN) (lw_vx (k := 4) rfl (by omega) hN) ?_
  refine e_aloadn (pc := 1636) dL_law_1636 rfl ?_
  refine e_iloadn (pc := 1637) dL_law_1637 rfl ?_
  refine e_iconst (v := 5) (pc := 1638) dL_law_1638 (by decide) ?_
  refine e_iadd (pc := 1639) dL_law_1639 ?_
  refine e_sld (x := xs (i0 + 5)) (pc := 1640) dL_law_1640 (lw_vi (k := 5) rfl (by omega) hN) (lw_vx (k := 5) rfl (by omega) hN) ?_
  refine e_callV (pc := 1641) hS dL_law_1641 kL_178 hw rfl rfl rfl (lw_CR h1 (Nat.le_of_ble_eq_true rfl) (by omega) (by omega)) rfl (Nat.le_of_ble_eq_true rfl) (fun r w1 h => ?_)
  obtain ⟨rfl, ⟨fs1, hw1⟩, hT⟩ := h
  refine e_pop (pc := 1644) dL_law_1644 rfl ?_
  refine e_aloadn (pc := 1645) dL_law_1645 rfl ?_
  refine e_aloadn (pc := 1646) dL_law_1646 rfl ?_
  refine e_iloadn (pc := 1647) dL_law_1647 rfl ?_
  refine e_iconst (v := 1) (pc := 1648) dL_law_1648 (by decide) ?_
  refine e_iadd (pc := 1649) dL_law_1649 ?_
  refine e_sld (x := xs (i0 + 1)) (pc := 1650) dL_law_1650 (lw_vi (k := 1) rfl (by omega) hN) (lw_vx (k := 1) rfl (by omega) hN) ?_
  refine e_aloadn (pc := 1651) dL_law_1651 rfl ?_
  refine e_iloadn (pc := 1652) dL_law_1652 rfl ?_
  refine e_iconst (v := 2) (pc := 1653) dL_law_1653 (by decide) ?_
  refine e_iadd (pc := 1654) dL_law_1654 ?_
  refine e_sld (x := xs (i0 + 2)) (pc := 1655) dL_law_1655 (lw_vi (k := 2) rfl (by omega) hN) (lw_vx (k := 2) rfl (by omega) hN) ?_
  refine e_aloadn (pc := 1656) dL_law_1656 rfl ?_
  refine e_iloadn (pc := 1657) dL_law_1657 rfl ?_
  refine e_iconst (v := 3) (pc := 1658) dL_law_1658 (by decide) ?_
  refine e_iadd (pc := 1659) dL_law_1659 ?_
  refine e_sld (x := xs (i0 + 3)) (pc := 1660) dL_law_1660 (lw_vi (k := 3) rfl (by omega) hN) (lw_vx (k := 3) rfl (by omega) hN) ?_
  refine e_aloadn (pc := 1661) dL_law_1661 rfl ?_
  refine e_iloadn (pc := 1662) dL_law_1662 rfl ?_
  refine e_iconst (v := 4) (pc := 1663) dL_law_1663 (by decide) ?_
  refine e_iadd (pc := 1664) dL_law_1664 ?_
  refine e_sld (x := xs (i0 + 4)) (pc := 1665) dL_law_1665 (lw_vi (k := 4) rfl (by omega) hN) (lw_vx (k := 4) rfl (by omega) hN) ?_
  refine e_aloadn (pc := 1666) dL_law_1666 rfl ?_
  refine e_iloadn (pc := 1667) dL_law_1667 rfl ?_
  refine e_iconst (v := 5) (pc := 1668) dL_law_1668 (by decide) ?_
  refine e_iadd (pc := 1669) dL_law_1669 ?_
  refine e_sld (x := xs (i0 + 5)) (pc := 1670) dL_law_1670 (lw_vi (k := 5) rfl (by omega) hN) (lw_vx (k := 5) rfl (by omega) hN) ?_
  refine e_cvX (pc := 1671) hT dL_law_1671 kL_182 hw1 rfl rfl rfl rfl (lw_CR h2 (Nat.le_of_ble_eq_true rfl) (by omega) (by omega)) (Nat.le_of_ble_eq_true rfl) (fun w2 hQ => ?_)
  refine e_pop (pc := 1674) dL_law_1674 rfl ?_
  refine e_goto (pc := 1675) dL_law_1675 (t := 1764) (by decide) ?_
  exact hK w2 hQ
theorem lw_c40 {N i0 : Nat} {xs : Nat → Int32} {E : Prop} {w : mc_W} {kc ks : Nat} {Q : mc_W → Prop} (hN : N ≤ 3584) (hi : i0 + 7 ≤ N) (hj : jI yX6_clerksBy cX6_clerksBy 9 yX7_clerksBy cX7_clerksBy 9 0 0 E [.int (xs (i0 + 1)), .int (xs (i0 + 2)), .int (xs (i0 + 3)), .int (xs (i0 + 4))] w Q) (hk : kc ≤ 500000) (hs : ks ≤ 7000000) (hK : ∀ w2, Q w2 → mc_E R_law code 4 (mc_JL N xs) 1764 [some (.ref 1000300), some (.ref 0), some (.ref 29), some (.int (nI i0))] [] w2 (kc + 0) (ks + 0)) : mc_E R_law code 4 (mc_JL N xs) 1678 [some (.ref 1000300), some (.ref 0), some (.ref 29), some (.int (nI i0))] [] w kc ks := by
  obtain ⟨r1, r2, d1, d2, fs, h1, h2, hr, hw, hS⟩ := hj
  refine e_aloadn (pc := 1678) dL_law_1678 rfl ?_
  refine e_aloadn (pc := 1679) dL_law_1679 rfl ?_
  refine e_iloadn (pc := 1680) dL_law_1680 rfl ?_
  refine e_iconst (v := 1) (pc := 1681) dL_law_1681 (by decide) ?_
  refine e_iadd (pc := 1682) dL_law_1682 ?_
  refine e_sld (x := xs (i0 + 1)) (pc := 1683) dL_law_1683 (lw_vi (k := 1) rfl (by omega) hN) (lw_vx (k := 1) rfl (by omega) hN) ?_
  refine e_aloadn (pc := 1684) dL_law_1684 rfl ?_
  refine e_iloadn (pc := 1685) dL_law_1685 rfl ?_
  refine e_iconst (v := 2) (pc := 1686) dL_law_1686 (by decide) ?_
  refine e_iadd (pc := 1687) dL_law_1687 ?_
  refine e_sld (x := xs (i0 + 2)) (pc := 1688) dL_law_1688 (lw_vi (k := 2) rfl (by omega) hN) (lw_vx (k := 2) rfl (by omega) hN) ?_
  refine e_aloadn (pc := 1689) dL_law_1689 rfl ?_
  refine e_iloadn (pc := 1690) dL_law_1690 rfl ?_
  refine e_iconst (v := 3) (pc := 1691) dL_law_1691 (by decide) ?_
  refine e_iadd (pc := 1692) dL_law_1692 ?_
  refine e_sld (x := xs (i0 + 3)) (pc := 1693) dL_law_1693 (lw_vi (k := 3) rfl (by omega) hN) (lw_vx (k := 3) rfl (by omega) hN) ?_
  refine e_aloadn (pc := 1694) dL_law_1694 rfl ?_
  refine e_iloadn (pc := 1695) dL_law_1695 rfl ?_
  refine e_iconst (v := 4) (pc := 1696) dL_law_1696 (by decide) ?_
  refine e_iadd (pc := 1697) dL_law_1697 ?_
  refine e_sld (x := xs (i0 + 4)) (pc := 1698) dL_law_1698 (lw_vi (k := 4) rfl (by omega) hN) (lw_vx (k := 4) rfl (by omega) hN) ?_
  refine e_callV (pc := 1699) hS dL_law_1699 kL_183 hw rfl rfl rfl (lw_CR h1 (Nat.le_of_ble_eq_true rfl) (by omega) (by omega)) rfl (Nat.le_of_ble_eq_true rfl) (fun r w1 h => ?_)
  obtain ⟨rfl, ⟨fs1, hw1⟩, hT⟩ := h
  refine e_pop (pc := 1702) dL_law_1702 rfl ?_
  refine e_aloadn (pc := 1703) dL_law_1703 rfl ?_
  refine e_aloadn (pc := 1704) dL_law_1704 rfl ?_
  refine e_iloadn (pc := 1705) dL_law_1705 rfl ?_
  refine e_iconst (v := 1) (pc := 1706) dL_law_1706 (by decide) ?_
  refine e_iadd (pc := 1707) dL_law_1707 ?_
  refine e_sld (x := xs (i0 + 1)) (pc := 1708) dL_law_1708 (lw_vi (k := 1) rfl (by omega) hN) (lw_vx (k := 1) rfl (by omega) hN) ?_
  refine e_aloadn (pc := 1709) dL_law_1709 rfl ?_
  refine e_iloadn (pc := 1710) dL_law_1710 rfl ?_
  refine e_iconst (v := 2) (pc := 1711) dL_law_1711 (by decide) ?_
  refine e_iadd (pc := 1712) dL_law_1712 ?_
  refine e_sld (x := xs (i0 + 2)) (pc := 1713) dL_law_1713 (lw_vi (k := 2) rfl (by omega) hN) (lw_vx (k := 2) rfl (by omega) hN) ?_
  refine e_aloadn (pc := 1714) dL_law_1714 rfl ?_
  refine e_iloadn (pc := 1715) dL_law_1715 rfl ?_
  refine e_iconst (v := 3) (pc := 1716) dL_law_1716 (by decide) ?_
  refine e_iadd (pc := 1717) dL_law_1717 ?_
  refine e_sld (x := xs (i0 + 3)) (pc := 1718) dL_law_1718 (lw_vi (k := 3) rfl (by omega) hN) (lw_vx (k := 3) rfl (by omega) hN) ?_
  refine e_aloadn (pc := 1719) dL_law_1719 rfl ?_
  refine e_iloadn (pc := 1720) dL_law_1720 rfl ?_
  refine e_iconst (v := 4) (pc := 1721) dL_law_1721 (by decide) ?_
  refine e_iadd (pc := 1722) dL_law_1722 ?_
  refine e_sld (x := xs (i0 + 4)) (pc := 1723) dL_law_1723 (lw_vi (k := 4) rfl (by omega) hN) (lw_vx (k := 4) rfl (by omega) hN) ?_
  refine e_cvX (pc := 1724) hT dL_law_1724 kL_186 hw1 rfl rfl rfl rfl (lw_CR h2 (Nat.le_of_ble_eq_true rfl) (by omega) (by omega)) (Nat.le_of_ble_eq_true rfl) (fun w2 hQ => ?_)
  refine e_pop (pc := 1727) dL_law_1727 rfl ?_
  refine e_goto (pc := 1728) dL_law_1728 (t := 1764) (by decide) ?_
  exact hK w2 hQ
theorem lw_c41 {N i0 : Nat} {xs : Nat → Int32} {E : Prop} {w : mc_W} {kc ks : Nat} {Q : mc_W → Prop} (hN : N ≤ 3584) (hi : i0 + 7 ≤ N) (hE : E) (hj : jI yX6_taken cX6_taken 4 yX7_taken cX7_taken 5 0 0 E [.int (xs (i0 + 1)), .int (xs (i0 + 2))] w Q) (hk : kc ≤ 500000) (hs : ks ≤ 7000000) (hK : ∀ w2, Q w2 → mc_E R_law code 4 (mc_JL N xs) 1764 [some (.ref 1000300), some (.ref 0), some (.ref 29), some (.int (nI i0))] [] w2 (kc + 0) (ks + 0)) : mc_E R_law code 4 (mc_JL N xs) 1731 [some (.ref 1000300), some (.ref 0), some (.ref 29), some (.int (nI i0))] [] w kc ks := by
  obtain ⟨r1, r2, d1, d2, fs, h1, h2, hr, hw, hS⟩ := hj
  refine e_aloadn (pc := 1731) dL_law_1731 rfl ?_
  refine e_aloadn (pc := 1732) dL_law_1732 rfl ?_
  refine e_iloadn (pc := 1733) dL_law_1733 rfl ?_
  refine e_iconst (v := 1) (pc := 1734) dL_law_1734 (by decide) ?_
  refine e_iadd (pc := 1735) dL_law_1735 ?_
  refine e_sld (x := xs (i0 + 1)) (pc := 1736) dL_law_1736 (lw_vi (k := 1) rfl (by omega) hN) (lw_vx (k := 1) rfl (by omega) hN) ?_
  refine e_aloadn (pc := 1737) dL_law_1737 rfl ?_
  refine e_iloadn (pc := 1738) dL_law_1738 rfl ?_
  refine e_iconst (v := 2) (pc := 1739) dL_law_1739 (by decide) ?_
  refine e_iadd (pc := 1740) dL_law_1740 ?_
  refine e_sld (x := xs (i0 + 2)) (pc := 1741) dL_law_1741 (lw_vi (k := 2) rfl (by omega) hN) (lw_vx (k := 2) rfl (by omega) hN) ?_
  refine e_callV (pc := 1742) hS dL_law_1742 kL_187 hw rfl rfl rfl (lw_CR h1 (Nat.le_of_ble_eq_true rfl) (by omega) (by omega)) rfl (Nat.le_of_ble_eq_true rfl) (fun r w1 h => ?_)
  obtain ⟨rfl, ⟨fs1, hw1⟩, hT⟩ := h
  refine e_aloadn (pc := 1745) dL_law_1745 rfl ?_
  refine e_aloadn (pc := 1746) dL_law_1746 rfl ?_
  refine e_iloadn (pc := 1747) dL_law_1747 rfl ?_
  refine e_iconst (v := 1) (pc := 1748) dL_law_1748 (by decide) ?_
  refine e_iadd (pc := 1749) dL_law_1749 ?_
  refine e_sld (x := xs (i0 + 1)) (pc := 1750) dL_law_1750 (lw_vi (k := 1) rfl (by omega) hN) (lw_vx (k := 1) rfl (by omega) hN) ?_
  refine e_aloadn (pc := 1751) dL_law_1751 rfl ?_
  refine e_iloadn (pc := 1752) dL_law_1752 rfl ?_
  refine e_iconst (v := 2) (pc := 1753) dL_law_1753 (by decide) ?_
  refine e_iadd (pc := 1754) dL_law_1754 ?_
  refine e_sld (x := xs (i0 + 2)) (pc := 1755) dL_law_1755 (lw_vi (k := 2) rfl (by omega) hN) (lw_vx (k := 2) rfl (by omega) hN) ?_
  refine e_cvX (pc := 1756) hT dL_law_1756 kL_190 hw1 rfl rfl rfl rfl (lw_CR h2 (Nat.le_of_ble_eq_true rfl) (by omega) (by omega)) (Nat.le_of_ble_eq_true rfl) (fun w2 hQ => ?_)
  exact e_icmp_eq (pc := 1759) dL_law_1759 (t := 1764) (by decide) (fun _ => hK w2 hQ) (fun c => absurd (hr hE) c)
/-- each call of both sides, from a world; E: whether an answer of asks is asked for -/
def OPS (E : Prop) (w : mc_W) (Q : mc_W → Prop) : Prop :=
  (∀ a1 : Int32, jI yX6_count cX6_count 2 yX7_count cX7_count 2 0 0 True [.int a1] w Q) ∧
  (∀ a1 a2 : Int32, jI yX6_set cX6_set 4 yX7_set cX7_set 4 0 0 True [.int a1, .int a2] w Q) ∧
  (∀ a1 a2 a3 a4 a5 a6 : Int32, jI yX6_feed cX6_feed 7 yX7_feed cX7_feed 8 0 0 True [.int a1, .int a2, .int a3, .int a4, .int a5, .int a6] w Q) ∧
  (jI yX6_text cX6_text 3 yX7_text cX7_text 3 2 170 True [] w Q) ∧
  (∀ a1 : Int32, jI yX6_force cX6_force 3 yX7_force cX7_force 3 0 0 True [.int a1] w Q) ∧
  (∀ a1 a2 a3 a4 : Int32, jI yX6_asks cX6_asks 5 yX7_asks cX7_asks 5 0 0 E [.int a1, .int a2, .int a3, .int a4] w Q) ∧
  (∀ a1 a2 : Int32, jI yX6_clerk cX6_clerk 4 yX7_clerk cX7_clerk 3 0 0 True [.int a1, .int a2] w Q) ∧
  (∀ a1 a2 : Int32, jI yX6_told cX6_told 3 yX7_told cX7_told 3 0 0 True [.int a1, .int a2] w Q) ∧
  (∀ a1 a2 a3 : Int32, jI yX6_figure cX6_figure 5 yX7_figure cX7_figure 4 0 0 True [.int a1, .int a2, .int a3] w Q) ∧
  (∀ a1 a2 : Int32, jL yX6_reads cX6_reads 9 yX7_reads cX7_reads 5 0 0 True [.int a1, .int a2] w Q) ∧
  (∀ a1 a2 : Int32, jL yX6_plain cX6_plain 4 yX7_plain cX7_plain 3 0 0 True [.int a1, .int a2] w Q) ∧
  (∀ a1 a2 a3 : Int32, jL yX6_adds cX6_adds 5 yX7_adds cX7_adds 4 0 0 True [.int a1, .int a2, .int a3] w Q) ∧
  (∀ a1 a2 a3 : Int32, jI yX6_apart cX6_apart 8 yX7_apart cX7_apart 7 0 0 True [.int a1, .int a2, .int a3] w Q) ∧
  (∀ a1 a2 a3 : Int32, jL yX6_book cX6_book 13 yX7_book cX7_book 9 0 0 True [.int a1, .int a2, .int a3] w Q) ∧
  (∀ a1 a2 : Int32, jL yX6_who cX6_who 13 yX7_who cX7_who 11 0 0 True [.int a1, .int a2] w Q) ∧
  (∀ a1 a2 a3 : Int32, jL yX6_smuggled cX6_smuggled 15 yX7_smuggled cX7_smuggled 14 0 0 True [.int a1, .int a2, .int a3] w Q) ∧
  (∀ a1 a2 a3 : Int32, jL yX6_slip cX6_slip 14 yX7_slip cX7_slip 14 0 0 True [.int a1, .int a2, .int a3] w Q) ∧
  (∀ a1 a2 : Int32, jL yX6_sure cX6_sure 9 yX7_sure cX7_sure 6 0 0 True [.int a1, .int a2] w Q) ∧
  (∀ a1 a2 a3 : Int32, jI yX6_shortest cX6_shortest 11 yX7_shortest cX7_shortest 11 0 0 True [.int a1, .int a2, .int a3] w Q) ∧
  (∀ a1 a2 a3 : Int32, jI yX6_lend cX6_lend 5 yX7_lend cX7_lend 5 0 0 True [.int a1, .int a2, .int a3] w Q) ∧
  (∀ a1 a2 : Int32, jI yX6_debt cX6_debt 3 yX7_debt cX7_debt 3 0 0 True [.int a1, .int a2] w Q) ∧
  (∀ a1 a2 a3 : Int32, jI yX6_pay cX6_pay 7 yX7_pay cX7_pay 5 0 0 True [.int a1, .int a2, .int a3] w Q) ∧
  (jI yX6_rings cX6_rings 1 yX7_rings cX7_rings 1 0 0 True [] w Q) ∧
  (jI yX6_clear cX6_clear 1 yX7_clear cX7_clear 7 0 0 True [] w Q) ∧
  (∀ a1 : Int32, jI yX6_forgive cX6_forgive 7 yX7_forgive cX7_forgive 7 0 0 True [.int a1] w Q) ∧
  (∀ a1 a2 : Int32, jI yX6_span cX6_span 3 yX7_span cX7_span 3 0 0 True [.int a1, .int a2] w Q) ∧
  (∀ a1 a2 : Int32, jI yX6_behind cX6_behind 4 yX7_behind cX7_behind 4 0 0 True [.int a1, .int a2] w Q) ∧
  (∀ a1 a2 a3 : Int32, jI yX6_alike cX6_alike 10 yX7_alike cX7_alike 10 0 0 True [.int a1, .int a2, .int a3] w Q) ∧
  (∀ a1 a2 : Int32, jI yX6_judge cX6_judge 4 yX7_judge cX7_judge 4 0 0 True [.int a1, .int a2] w Q) ∧
  (∀ a1 a2 a3 : Int32, jI yX6_kinds cX6_kinds 9 yX7_kinds cX7_kinds 10 0 0 True [.int a1, .int a2, .int a3] w Q) ∧
  (∀ a1 : Int32, jI yX6_whose cX6_whose 5 yX7_whose cX7_whose 5 0 0 True [.int a1] w Q) ∧
  (∀ a1 a2 : Int32, jI yX6_laws cX6_laws 7 yX7_laws cX7_laws 7 0 0 True [.int a1, .int a2] w Q) ∧
  (∀ a1 a2 a3 a4 : Int32, jI yX6_film cX6_film 11 yX7_film cX7_film 10 0 0 True [.int a1, .int a2, .int a3, .int a4] w Q) ∧
  (∀ a1 a2 a3 : Int32, jL yX6_drawn cX6_drawn 6 yX7_drawn cX7_drawn 4 0 0 True [.int a1, .int a2, .int a3] w Q) ∧
  (∀ a1 a2 a3 a4 a5 : Int32, jL yX6_odds cX6_odds 13 yX7_odds cX7_odds 11 0 0 True [.int a1, .int a2, .int a3, .int a4, .int a5] w Q) ∧
  (jI yX6_image cX6_image 1 yX7_image cX7_image 2 0 0 True [] w Q) ∧
  (jI yX6_back cX6_back 1 yX7_back cX7_back 2 0 0 True [] w Q) ∧
  (∀ a1 a2 a3 : Int32, jI yX6_sheet cX6_sheet 5 yX7_sheet cX7_sheet 5 0 0 True [.int a1, .int a2, .int a3] w Q) ∧
  (∀ a1 a2 a3 : Int32, jI yX6_cell cX6_cell 6 yX7_cell cX7_cell 4 0 0 True [.int a1, .int a2, .int a3] w Q) ∧
  (∀ a1 a2 a3 a4 a5 : Int32, jI yX6_copy cX6_copy 8 yX7_copy cX7_copy 10 0 0 True [.int a1, .int a2, .int a3, .int a4, .int a5] w Q) ∧
  (∀ a1 a2 a3 a4 : Int32, jI yX6_clerksBy cX6_clerksBy 9 yX7_clerksBy cX7_clerksBy 9 0 0 True [.int a1, .int a2, .int a3, .int a4] w Q) ∧
  (∀ a1 a2 : Int32, jI yX6_taken cX6_taken 4 yX7_taken cX7_taken 5 0 0 True [.int a1, .int a2] w Q)
theorem lw_gt {N k : Nat} (hN : N ≤ 3584) (hk : k ≤ 600) : nI N - 7 < nI (7 * k) ↔ N < 7 * k + 7 := by
  rw [Int32.lt_iff_toInt_lt, show (7 : Int32) = nI 7 from rfl, pk_sub_toInt (by omega) (by omega), nI_toInt (by omega)]
  omega
theorem law_loop {N : Nat} {xs : Nat → Int32} {E : Prop} {I : Nat → mc_W → Prop} (hN : N ≤ 3584) (hst : ∀ k w, I k w → I (k + 1) w) (hop : ∀ k w, 7 * k + 7 ≤ N → I k w → OPS E w (I (k + 1))) : ∀ (f k : Nat) (w : mc_W) (kc ks : Nat), N < 7 * k + 7 * f + 7 → 7 * k ≤ N + 7 → I k w → kc ≤ 100 + 2 * k → ks ≤ 4000 + 170 * k → mc_E R_law code 4 (mc_JL N xs) 18 [some (.ref 1000300), some (.ref 0), some (.ref 29), some (.int (nI (7 * k)))] [] w kc ks := by
  intro f
  induction f with
  | zero =>
    intro k w kc ks hf hk hI hc hs
    refine e_iloadn (pc := 18) dL_law_18 rfl ?_
    refine e_aloadn (pc := 19) dL_law_19 rfl ?_
    refine e_slen (pc := 20) dL_law_20 ?_
    refine e_bipush (v := 7) (pc := 21) dL_law_21 (by decide) ?_
    refine e_isub (pc := 23) dL_law_23 ?_
    refine e_icmp_gt (pc := 24) dL_law_24 (t := 1770) (by decide) (fun _ => ?_) (fun c => absurd ((lw_gt hN (by omega)).mpr (by omega)) c)
    refine e_iconst (v := 1) (pc := 1770) dL_law_1770 (by decide) ?_
    exact e_lawret (pc := 1771) dL_law_1771 (by omega) (by omega)
  | succ f ih =>
    intro k w kc ks hf hk hI hc hs
    refine e_iloadn (pc := 18) dL_law_18 rfl ?_
    refine e_aloadn (pc := 19) dL_law_19 rfl ?_
    refine e_slen (pc := 20) dL_law_20 ?_
    refine e_bipush (v := 7) (pc := 21) dL_law_21 (by decide) ?_
    refine e_isub (pc := 23) dL_law_23 ?_
    refine e_icmp_gt (pc := 24) dL_law_24 (t := 1770) (by decide) (fun _ => ?_) (fun c => ?_)
    · refine e_iconst (v := 1) (pc := 1770) dL_law_1770 (by decide) ?_
      exact e_lawret (pc := 1771) dL_law_1771 (by omega) (by omega)
    have hi : 7 * k + 7 ≤ N := by by_cases q : 7 * k + 7 ≤ N; exact q; exact absurd ((lw_gt hN (by omega)).mpr (by omega)) c
    obtain ⟨o0, o1, o2, o3, o4, o5, o6, o7, o8, o9, o10, o11, o12, o13, o14, o15, o16, o17, o18, o19, o20, o21, o22, o23, o24, o25, o26, o27, o28, o29, o30, o31, o32, o33, o34, o35, o36, o37, o38, o39, o40, o41⟩ := hop k w hi hI
    refine e_aloadn (pc := 27) dL_law_27 rfl ?_
    refine e_iloadn (pc := 28) dL_law_28 rfl ?_
    refine e_sld (x := xs (7 * k)) (pc := 29) dL_law_29 (vp_in_nI (by omega) (by omega)) (by rw [nIc (by omega)]) ?_
    refine e_bipush (v := 63) (pc := 30) dL_law_30 (by decide) ?_
    refine e_iand (pc := 32) dL_law_32 ?_
    have hend : ∀ w2 kc2 ks2, I (k + 1) w2 → kc2 ≤ 100 + 2 * (k + 1) → ks2 ≤ 4000 + 170 * (k + 1) → mc_E R_law code 4 (mc_JL N xs) 1764 [some (.ref 1000300), some (.ref 0), some (.ref 29), some (.int (nI (7 * k)))] [] w2 kc2 ks2 := by
      intro w2 kc2 ks2 hQ g1 g2
      refine e_incC3 (pc := 1764) (v := nI (7 * (k + 1))) dL_law_1764 (by rw [show nI (7 * k) + Int32.ofInt 7 = nI (7 * k + 7) from nI_add _ 7]; rfl) (Nat.le_of_ble_eq_true rfl) rfl ?_
      refine e_goto (pc := 1767) dL_law_1767 (t := 18) (by decide) ?_
      exact ih (k + 1) w2 kc2 ks2 (by omega) (by omega) hQ g1 g2
    generalize xs (7 * k) &&& 63 = sx
    by_cases hs_0 : sx = 0
    · rw [hs_0]
      refine e_tabIn (pc := 33) (t := 216) dL_law_33 (by decide) (by decide) rfl (by decide) ?_
      exact lw_c0 hN (by omega) (o0 (xs (7 * k + 1))) (by omega) (by omega) (fun w2 hQ => hend w2 _ _ hQ (by omega) (by omega))
    by_cases hs_1 : sx = 1
    · rw [hs_1]
      refine e_tabIn (pc := 33) (t := 239) dL_law_33 (by decide) (by decide) rfl (by decide) ?_
      exact lw_c1 hN (by omega) (o1 (xs (7 * k + 1)) (xs (7 * k + 2))) (by omega) (by omega) (fun w2 hQ => hend w2 _ _ hQ (by omega) (by omega))
    by_cases hs_2 : sx = 2
    · rw [hs_2]
      refine e_tabIn (pc := 33) (t := 272) dL_law_33 (by decide) (by decide) rfl (by decide) ?_
      exact lw_c2 hN (by omega) (o2 (xs (7 * k + 1)) (xs (7 * k + 2)) (xs (7 * k + 3)) (xs (7 * k + 4)) (xs (7 * k + 5)) (xs (7 * k + 6))) (by omega) (by omega) (fun w2 hQ => hend w2 _ _ hQ (by omega) (by omega))
    by_cases hs_3 : sx = 3
    · rw [hs_3]
      refine e_tabIn (pc := 33) (t := 347) dL_law_33 (by decide) (by decide) rfl (by decide) ?_
      exact lw_c3 hN (by omega) (o3) (by omega) (by omega) (fun w2 hQ => hend w2 _ _ hQ (by omega) (by omega))
    by_cases hs_4 : sx = 4
    · rw [hs_4]
      refine e_tabIn (pc := 33) (t := 360) dL_law_33 (by decide) (by decide) rfl (by decide) ?_
      exact lw_c4 hN (by omega) (o4 (xs (7 * k + 1))) (by omega) (by omega) (fun w2 hQ => hend w2 _ _ hQ (by omega) (by omega))
    by_cases hs_5 : sx = 5
    · rw [hs_5]
      refine e_tabIn (pc := 33) (t := 383) dL_law_33 (by decide) (by decide) rfl (by decide) ?_
      exact lw_c5 hN (by omega) (o5 (xs (7 * k + 1)) (xs (7 * k + 2)) (xs (7 * k + 3)) (xs (7 * k + 4))) (by omega) (by omega) (fun w2 hQ => hend w2 _ _ hQ (by omega) (by omega))
    by_cases hs_6 : sx = 6
    · rw [hs_6]
      refine e_tabIn (pc := 33) (t := 436) dL_law_33 (by decide) (by decide) rfl (by decide) ?_
      exact lw_c6 hN (by omega) (o6 (xs (7 * k + 1)) (xs (7 * k + 2))) (by omega) (by omega) (fun w2 hQ => hend w2 _ _ hQ (by omega) (by omega))
    by_cases hs_7 : sx = 7
    · rw [hs_7]
      refine e_tabIn (pc := 33) (t := 469) dL_law_33 (by decide) (by decide) rfl (by decide) ?_
      exact lw_c7 hN (by omega) (o7 (xs (7 * k + 1)) (xs (7 * k + 2))) (by omega) (by omega) (fun w2 hQ => hend w2 _ _ hQ (by omega) (by omega))
    by_cases hs_8 : sx = 8
    · rw [hs_8]
      refine e_tabIn (pc := 33) (t := 502) dL_law_33 (by decide) (by decide) rfl (by decide) ?_
      exact lw_c8 hN (by omega) (o8 (xs (7 * k + 1)) (xs (7 * k + 2)) (xs (7 * k + 3))) (by omega) (by omega) (fun w2 hQ => hend w2 _ _ hQ (by omega) (by omega))
    by_cases hs_9 : sx = 9
    · rw [hs_9]
      refine e_tabIn (pc := 33) (t := 545) dL_law_33 (by decide) (by decide) rfl (by decide) ?_
      exact lw_c9 hN (by omega) (o9 (xs (7 * k + 1)) (xs (7 * k + 2))) (by omega) (by omega) (fun w2 hQ => hend w2 _ _ hQ (by omega) (by omega))
    by_cases hs_10 : sx = 10
    · rw [hs_10]
      refine e_tabIn (pc := 33) (t := 578) dL_law_33 (by decide) (by decide) rfl (by decide) ?_
      exact lw_c10 hN (by omega) (o10 (xs (7 * k + 1)) (xs (7 * k + 2))) (by omega) (by omega) (fun w2 hQ => hend w2 _ _ hQ (by omega) (by omega))
    by_cases hs_11 : sx = 11
    · rw [hs_11]
      refine e_tabIn (pc := 33) (t := 611) dL_law_33 (by decide) (by decide) rfl (by decide) ?_
      exact lw_c11 hN (by omega) (o11 (xs (7 * k + 1)) (xs (7 * k + 2)) (xs (7 * k + 3))) (by omega) (by omega) (fun w2 hQ => hend w2 _ _ hQ (by omega) (by omega))
    by_cases hs_12 : sx = 12
    · rw [hs_12]
      refine e_tabIn (pc := 33) (t := 654) dL_law_33 (by decide) (by decide) rfl (by decide) ?_
      exact lw_c12 hN (by omega) (o12 (xs (7 * k + 1)) (xs (7 * k + 2)) (xs (7 * k + 3))) (by omega) (by omega) (fun w2 hQ => hend w2 _ _ hQ (by omega) (by omega))
    by_cases hs_13 : sx = 13
    · rw [hs_13]
      refine e_tabIn (pc := 33) (t := 697) dL_law_33 (by decide) (by decide) rfl (by decide) ?_
      exact lw_c13 hN (by omega) (o13 (xs (7 * k + 1)) (xs (7 * k + 2)) (xs (7 * k + 3))) (by omega) (by omega) (fun w2 hQ => hend w2 _ _ hQ (by omega) (by omega))
    by_cases hs_14 : sx = 14
    · rw [hs_14]
      refine e_tabIn (pc := 33) (t := 740) dL_law_33 (by decide) (by decide) rfl (by decide) ?_
      exact lw_c14 hN (by omega) (o14 (xs (7 * k + 1)) (xs (7 * k + 2))) (by omega) (by omega) (fun w2 hQ => hend w2 _ _ hQ (by omega) (by omega))
    by_cases hs_15 : sx = 15
    · rw [hs_15]
      refine e_tabIn (pc := 33) (t := 773) dL_law_33 (by decide) (by decide) rfl (by decide) ?_
      exact lw_c15 hN (by omega) (o15 (xs (7 * k + 1)) (xs (7 * k + 2)) (xs (7 * k + 3))) (by omega) (by omega) (fun w2 hQ => hend w2 _ _ hQ (by omega) (by omega))
    by_cases hs_16 : sx = 16
    · rw [hs_16]
      refine e_tabIn (pc := 33) (t := 816) dL_law_33 (by decide) (by decide) rfl (by decide) ?_
      exact lw_c16 hN (by omega) (o16 (xs (7 * k + 1)) (xs (7 * k + 2)) (xs (7 * k + 3))) (by omega) (by omega) (fun w2 hQ => hend w2 _ _ hQ (by omega) (by omega))
    by_cases hs_17 : sx = 17
    · rw [hs_17]
      refine e_tabIn (pc := 33) (t := 859) dL_law_33 (by decide) (by decide) rfl (by decide) ?_
      exact lw_c17 hN (by omega) (o17 (xs (7 * k + 1)) (xs (7 * k + 2))) (by omega) (by omega) (fun w2 hQ => hend w2 _ _ hQ (by omega) (by omega))
    by_cases hs_18 : sx = 18
    · rw [hs_18]
      refine e_tabIn (pc := 33) (t := 892) dL_law_33 (by decide) (by decide) rfl (by decide) ?_
      exact lw_c18 hN (by omega) (o18 (xs (7 * k + 1)) (xs (7 * k + 2)) (xs (7 * k + 3))) (by omega) (by omega) (fun w2 hQ => hend w2 _ _ hQ (by omega) (by omega))
    by_cases hs_19 : sx = 19
    · rw [hs_19]
      refine e_tabIn (pc := 33) (t := 935) dL_law_33 (by decide) (by decide) rfl (by decide) ?_
      exact lw_c19 hN (by omega) (o19 (xs (7 * k + 1)) (xs (7 * k + 2)) (xs (7 * k + 3))) (by omega) (by omega) (fun w2 hQ => hend w2 _ _ hQ (by omega) (by omega))
    by_cases hs_20 : sx = 20
    · rw [hs_20]
      refine e_tabIn (pc := 33) (t := 978) dL_law_33 (by decide) (by decide) rfl (by decide) ?_
      exact lw_c20 hN (by omega) (o20 (xs (7 * k + 1)) (xs (7 * k + 2))) (by omega) (by omega) (fun w2 hQ => hend w2 _ _ hQ (by omega) (by omega))
    by_cases hs_21 : sx = 21
    · rw [hs_21]
      refine e_tabIn (pc := 33) (t := 1011) dL_law_33 (by decide) (by decide) rfl (by decide) ?_
      exact lw_c21 hN (by omega) (o21 (xs (7 * k + 1)) (xs (7 * k + 2)) (xs (7 * k + 3))) (by omega) (by omega) (fun w2 hQ => hend w2 _ _ hQ (by omega) (by omega))
    by_cases hs_22 : sx = 22
    · rw [hs_22]
      refine e_tabIn (pc := 33) (t := 1054) dL_law_33 (by decide) (by decide) rfl (by decide) ?_
      exact lw_c22 hN (by omega) (o22) (by omega) (by omega) (fun w2 hQ => hend w2 _ _ hQ (by omega) (by omega))
    by_cases hs_23 : sx = 23
    · rw [hs_23]
      refine e_tabIn (pc := 33) (t := 1067) dL_law_33 (by decide) (by decide) rfl (by decide) ?_
      exact lw_c23 hN (by omega) (o23) (by omega) (by omega) (fun w2 hQ => hend w2 _ _ hQ (by omega) (by omega))
    by_cases hs_24 : sx = 24
    · rw [hs_24]
      refine e_tabIn (pc := 33) (t := 1080) dL_law_33 (by decide) (by decide) rfl (by decide) ?_
      exact lw_c24 hN (by omega) (o24 (xs (7 * k + 1))) (by omega) (by omega) (fun w2 hQ => hend w2 _ _ hQ (by omega) (by omega))
    by_cases hs_25 : sx = 25
    · rw [hs_25]
      refine e_tabIn (pc := 33) (t := 1103) dL_law_33 (by decide) (by decide) rfl (by decide) ?_
      exact lw_c25 hN (by omega) (o25 (xs (7 * k + 1)) (xs (7 * k + 2))) (by omega) (by omega) (fun w2 hQ => hend w2 _ _ hQ (by omega) (by omega))
    by_cases hs_26 : sx = 26
    · rw [hs_26]
      refine e_tabIn (pc := 33) (t := 1136) dL_law_33 (by decide) (by decide) rfl (by decide) ?_
      exact lw_c26 hN (by omega) (o26 (xs (7 * k + 1)) (xs (7 * k + 2))) (by omega) (by omega) (fun w2 hQ => hend w2 _ _ hQ (by omega) (by omega))
    by_cases hs_27 : sx = 27
    · rw [hs_27]
      refine e_tabIn (pc := 33) (t := 1169) dL_law_33 (by decide) (by decide) rfl (by decide) ?_
      exact lw_c27 hN (by omega) (o27 (xs (7 * k + 1)) (xs (7 * k + 2)) (xs (7 * k + 3))) (by omega) (by omega) (fun w2 hQ => hend w2 _ _ hQ (by omega) (by omega))
    by_cases hs_28 : sx = 28
    · rw [hs_28]
      refine e_tabIn (pc := 33) (t := 1212) dL_law_33 (by decide) (by decide) rfl (by decide) ?_
      exact lw_c28 hN (by omega) (o28 (xs (7 * k + 1)) (xs (7 * k + 2))) (by omega) (by omega) (fun w2 hQ => hend w2 _ _ hQ (by omega) (by omega))
    by_cases hs_29 : sx = 29
    · rw [hs_29]
      refine e_tabIn (pc := 33) (t := 1245) dL_law_33 (by decide) (by decide) rfl (by decide) ?_
      exact lw_c29 hN (by omega) (o29 (xs (7 * k + 1)) (xs (7 * k + 2)) (xs (7 * k + 3))) (by omega) (by omega) (fun w2 hQ => hend w2 _ _ hQ (by omega) (by omega))
    by_cases hs_30 : sx = 30
    · rw [hs_30]
      refine e_tabIn (pc := 33) (t := 1288) dL_law_33 (by decide) (by decide) rfl (by decide) ?_
      exact lw_c30 hN (by omega) (o30 (xs (7 * k + 1))) (by omega) (by omega) (fun w2 hQ => hend w2 _ _ hQ (by omega) (by omega))
    by_cases hs_31 : sx = 31
    · rw [hs_31]
      refine e_tabIn (pc := 33) (t := 1311) dL_law_33 (by decide) (by decide) rfl (by decide) ?_
      exact lw_c31 hN (by omega) (o31 (xs (7 * k + 1)) (xs (7 * k + 2))) (by omega) (by omega) (fun w2 hQ => hend w2 _ _ hQ (by omega) (by omega))
    by_cases hs_32 : sx = 32
    · rw [hs_32]
      refine e_tabIn (pc := 33) (t := 1344) dL_law_33 (by decide) (by decide) rfl (by decide) ?_
      exact lw_c32 hN (by omega) (o32 (xs (7 * k + 1)) (xs (7 * k + 2)) (xs (7 * k + 3)) (xs (7 * k + 4))) (by omega) (by omega) (fun w2 hQ => hend w2 _ _ hQ (by omega) (by omega))
    by_cases hs_33 : sx = 33
    · rw [hs_33]
      refine e_tabIn (pc := 33) (t := 1397) dL_law_33 (by decide) (by decide) rfl (by decide) ?_
      exact lw_c33 hN (by omega) (o33 (xs (7 * k + 1)) (xs (7 * k + 2)) (xs (7 * k + 3))) (by omega) (by omega) (fun w2 hQ => hend w2 _ _ hQ (by omega) (by omega))
    by_cases hs_34 : sx = 34
    · rw [hs_34]
      refine e_tabIn (pc := 33) (t := 1440) dL_law_33 (by decide) (by decide) rfl (by decide) ?_
      exact lw_c34 hN (by omega) (o34 (xs (7 * k + 1)) (xs (7 * k + 2)) (xs (7 * k + 3)) (xs (7 * k + 4)) (xs (7 * k + 5))) (by omega) (by omega) (fun w2 hQ => hend w2 _ _ hQ (by omega) (by omega))
    by_cases hs_35 : sx = 35
    · rw [hs_35]
      refine e_tabIn (pc := 33) (t := 1503) dL_law_33 (by decide) (by decide) rfl (by decide) ?_
      exact lw_c35 hN (by omega) (o35) (by omega) (by omega) (fun w2 hQ => hend w2 _ _ hQ (by omega) (by omega))
    by_cases hs_36 : sx = 36
    · rw [hs_36]
      refine e_tabIn (pc := 33) (t := 1516) dL_law_33 (by decide) (by decide) rfl (by decide) ?_
      exact lw_c36 hN (by omega) (o36) (by omega) (by omega) (fun w2 hQ => hend w2 _ _ hQ (by omega) (by omega))
    by_cases hs_37 : sx = 37
    · rw [hs_37]
      refine e_tabIn (pc := 33) (t := 1529) dL_law_33 (by decide) (by decide) rfl (by decide) ?_
      exact lw_c37 hN (by omega) (o37 (xs (7 * k + 1)) (xs (7 * k + 2)) (xs (7 * k + 3))) (by omega) (by omega) (fun w2 hQ => hend w2 _ _ hQ (by omega) (by omega))
    by_cases hs_38 : sx = 38
    · rw [hs_38]
      refine e_tabIn (pc := 33) (t := 1572) dL_law_33 (by decide) (by decide) rfl (by decide) ?_
      exact lw_c38 hN (by omega) (o38 (xs (7 * k + 1)) (xs (7 * k + 2)) (xs (7 * k + 3))) (by omega) (by omega) (fun w2 hQ => hend w2 _ _ hQ (by omega) (by omega))
    by_cases hs_39 : sx = 39
    · rw [hs_39]
      refine e_tabIn (pc := 33) (t := 1615) dL_law_33 (by decide) (by decide) rfl (by decide) ?_
      exact lw_c39 hN (by omega) (o39 (xs (7 * k + 1)) (xs (7 * k + 2)) (xs (7 * k + 3)) (xs (7 * k + 4)) (xs (7 * k + 5))) (by omega) (by omega) (fun w2 hQ => hend w2 _ _ hQ (by omega) (by omega))
    by_cases hs_40 : sx = 40
    · rw [hs_40]
      refine e_tabIn (pc := 33) (t := 1678) dL_law_33 (by decide) (by decide) rfl (by decide) ?_
      exact lw_c40 hN (by omega) (o40 (xs (7 * k + 1)) (xs (7 * k + 2)) (xs (7 * k + 3)) (xs (7 * k + 4))) (by omega) (by omega) (fun w2 hQ => hend w2 _ _ hQ (by omega) (by omega))
    by_cases hs_41 : sx = 41
    · rw [hs_41]
      refine e_tabIn (pc := 33) (t := 1731) dL_law_33 (by decide) (by decide) rfl (by decide) ?_
      exact lw_c41 hN (by omega) trivial (o41 (xs (7 * k + 1)) (xs (7 * k + 2))) (by omega) (by omega) (fun w2 hQ => hend w2 _ _ hQ (by omega) (by omega))
    refine e_tabOut (pc := 33) (t := 1764) dL_law_33 (mc_tabout (by decide) (fun z h1 h2 => ?_)) (by decide) ?_
    · rcases (show z = 0 ∨ z = 1 ∨ z = 2 ∨ z = 3 ∨ z = 4 ∨ z = 5 ∨ z = 6 ∨ z = 7 ∨ z = 8 ∨ z = 9 ∨ z = 10 ∨ z = 11 ∨ z = 12 ∨ z = 13 ∨ z = 14 ∨ z = 15 ∨ z = 16 ∨ z = 17 ∨ z = 18 ∨ z = 19 ∨ z = 20 ∨ z = 21 ∨ z = 22 ∨ z = 23 ∨ z = 24 ∨ z = 25 ∨ z = 26 ∨ z = 27 ∨ z = 28 ∨ z = 29 ∨ z = 30 ∨ z = 31 ∨ z = 32 ∨ z = 33 ∨ z = 34 ∨ z = 35 ∨ z = 36 ∨ z = 37 ∨ z = 38 ∨ z = 39 ∨ z = 40 ∨ z = 41 by omega) with rfl | rfl | rfl | rfl | rfl | rfl | rfl | rfl | rfl | rfl | rfl | rfl | rfl | rfl | rfl | rfl | rfl | rfl | rfl | rfl | rfl | rfl | rfl | rfl | rfl | rfl | rfl | rfl | rfl | rfl | rfl | rfl | rfl | rfl | rfl | rfl | rfl | rfl | rfl | rfl | rfl | rfl <;> assumption
    · exact hend w kc ks (hst k w hI) (by omega) (by omega)
end Zj_54_lw
section Zj_60_x1
/-! ===== the class: its small questions; what its numbers and rows are beside the other side's ===== -/
/-- the other side's numbers, read off the class's -/
def Ms (s : Nat → Int32) : Nat → Int32 := fun k => match k with
  | 0 => s 0 | 1 => s 1 | 2 => s 2 | 3 => s 5 | 4 => s 3 | 5 => s 4 | 6 => s 6 | 7 => s 9 | 8 => s 7 | 9 => s 8 | 10 => s 10 | _ => 0
/-- the other side's rows, read off the class's; its tape, codes and starts are its own -/
def Bs (s : Nat → Int32) (a : Nat → List Int32) (t3 t4 t5 : List Int32) : Nat → List Int32 := fun k => match k with
  | 0 => a 0 | 1 => a 1 | 2 => a 3 | 3 => t3 | 4 => t4 | 5 => t5 | 6 => a 4 | 7 => [s 11, s 13, s 15, s 17] | 8 => [s 12, s 14, s 16, s 18] | 9 => a 5 ++ (a 6 ++ (a 7 ++ a 8)) | _ => []
theorem sp_isWithin {w : mc_W} {v lo hi : Int32} : mc_D yX6_isWithin cX6_isWithin 3 (some .boolean) 1 [.int v, .int lo, .int hi] w (some (.int (mc_b (mc_wi v lo hi)))) w := by
  refine mc_start (own := RX6) (ini := false) rfl (by decide +kernel) (fun h => by cases h) (Nat.le_of_ble_eq_true rfl) ?_
  show mc_E _ _ _ _ _ [some (.int v), some (.int lo), some (.int hi)] [] _ _ _
  refine e_iloadn (pc := 0) dX6_isWithin_0 rfl ?_
  refine e_iloadn (pc := 1) dX6_isWithin_1 rfl ?_
  refine e_icmp_lt (pc := 2) dX6_isWithin_2 (t := 14) (by decide) (fun c_2 => ?_) (fun c_2 => ?_)
  · skip
    refine e_iconst (v := 0) (pc := 14) dX6_isWithin_14 (by decide) ?_
    exact e_zret (pc := 15) dX6_isWithin_15 rfl (by rfl) (Nat.le_refl _) (Nat.le_refl _) ⟨by first | rw [mc_wi_lt (by assumption)]; rfl | rw [mc_wi_gt (by assumption)]; rfl | rw [mc_wi_in (by assumption) (by assumption)]; rfl, rfl⟩
  · skip
    refine e_iloadn (pc := 5) dX6_isWithin_5 rfl ?_
    refine e_iloadn (pc := 6) dX6_isWithin_6 rfl ?_
    refine e_icmp_gt (pc := 7) dX6_isWithin_7 (t := 14) (by decide) (fun c_7 => ?_) (fun c_7 => ?_)
    · skip
      refine e_iconst (v := 0) (pc := 14) dX6_isWithin_14 (by decide) ?_
      exact e_zret (pc := 15) dX6_isWithin_15 rfl (by rfl) (Nat.le_refl _) (Nat.le_refl _) ⟨by first | rw [mc_wi_lt (by assumption)]; rfl | rw [mc_wi_gt (by assumption)]; rfl | rw [mc_wi_in (by assumption) (by assumption)]; rfl, rfl⟩
    · skip
      refine e_iconst (v := 1) (pc := 10) dX6_isWithin_10 (by decide) ?_
      refine e_goto (pc := 11) dX6_isWithin_11 (t := 15) (by decide) ?_
      exact e_zret (pc := 15) dX6_isWithin_15 rfl (by rfl) (Nat.le_refl _) (Nat.le_refl _) ⟨by first | rw [mc_wi_lt (by assumption)]; rfl | rw [mc_wi_gt (by assumption)]; rfl | rw [mc_wi_in (by assumption) (by assumption)]; rfl, rfl⟩
theorem sp_isNumber {w : mc_W} {v : Int32} : mc_D yX6_isNumber cX6_isNumber 1 (some .boolean) 2 [.int v] w (some (.int (mc_b (mc_wi v 0 99999)))) w := by
  refine mc_start (own := RX6) (ini := false) rfl (by decide +kernel) (fun h => by cases h) (Nat.le_of_ble_eq_true rfl) ?_
  show mc_E _ _ _ _ _ [some (.int v)] [] _ _ _
  refine e_iloadn (pc := 0) dX6_isNumber_0 rfl ?_
  refine e_iconst (v := 0) (pc := 1) dX6_isNumber_1 (by decide) ?_
  refine e_ldcw (pc := 2) dX6_isNumber_2 qX6_354 ?_
  refine e_csD (pc := 5) (sp_isWithin) dX6_isNumber_5 kX6_86 rfl rfl (mc_CR_of (Nat.le_of_ble_eq_true rfl) (Nat.le_of_ble_eq_true rfl) (Nat.le_refl _) (Nat.le_refl _)) (Nat.le_of_ble_eq_true rfl) ?_
  exact e_zret (pc := 8) dX6_isNumber_8 rfl (by exact mc_bnar) (Nat.le_refl _) (Nat.le_refl _) ⟨rfl, rfl⟩
theorem sp_isByte {w : mc_W} {v : Int32} : mc_D yX6_isByte cX6_isByte 1 (some .boolean) 2 [.int v] w (some (.int (mc_b (mc_wi v 0 255)))) w := by
  refine mc_start (own := RX6) (ini := false) rfl (by decide +kernel) (fun h => by cases h) (Nat.le_of_ble_eq_true rfl) ?_
  show mc_E _ _ _ _ _ [some (.int v)] [] _ _ _
  refine e_iloadn (pc := 0) dX6_isByte_0 rfl ?_
  refine e_iconst (v := 0) (pc := 1) dX6_isByte_1 (by decide) ?_
  refine e_sipush (v := 255) (pc := 2) dX6_isByte_2 (by decide) ?_
  refine e_csD (pc := 5) (sp_isWithin) dX6_isByte_5 kX6_86 rfl rfl (mc_CR_of (Nat.le_of_ble_eq_true rfl) (Nat.le_of_ble_eq_true rfl) (Nat.le_refl _) (Nat.le_refl _)) (Nat.le_of_ble_eq_true rfl) ?_
  exact e_zret (pc := 8) dX6_isByte_8 rfl (by exact mc_bnar) (Nat.le_refl _) (Nat.le_refl _) ⟨rfl, rfl⟩
theorem sp_isFolk {w : mc_W} {v : Int32} : mc_D yX6_isFolk cX6_isFolk 1 (some .boolean) 2 [.int v] w (some (.int (mc_b (mc_wi v 0 5)))) w := by
  refine mc_start (own := RX6) (ini := false) rfl (by decide +kernel) (fun h => by cases h) (Nat.le_of_ble_eq_true rfl) ?_
  show mc_E _ _ _ _ _ [some (.int v)] [] _ _ _
  refine e_iloadn (pc := 0) dX6_isFolk_0 rfl ?_
  refine e_iconst (v := 0) (pc := 1) dX6_isFolk_1 (by decide) ?_
  refine e_iconst (v := 5) (pc := 2) dX6_isFolk_2 (by decide) ?_
  refine e_csD (pc := 3) (sp_isWithin) dX6_isFolk_3 kX6_86 rfl rfl (mc_CR_of (Nat.le_of_ble_eq_true rfl) (Nat.le_of_ble_eq_true rfl) (Nat.le_refl _) (Nat.le_refl _)) (Nat.le_of_ble_eq_true rfl) ?_
  exact e_zret (pc := 6) dX6_isFolk_6 rfl (by exact mc_bnar) (Nat.le_refl _) (Nat.le_refl _) ⟨rfl, rfl⟩
theorem sp_isSheet {w : mc_W} {v : Int32} : mc_D yX6_isSheet cX6_isSheet 1 (some .boolean) 2 [.int v] w (some (.int (mc_b (mc_wi v 0 3)))) w := by
  refine mc_start (own := RX6) (ini := false) rfl (by decide +kernel) (fun h => by cases h) (Nat.le_of_ble_eq_true rfl) ?_
  show mc_E _ _ _ _ _ [some (.int v)] [] _ _ _
  refine e_iloadn (pc := 0) dX6_isSheet_0 rfl ?_
  refine e_iconst (v := 0) (pc := 1) dX6_isSheet_1 (by decide) ?_
  refine e_iconst (v := 3) (pc := 2) dX6_isSheet_2 (by decide) ?_
  refine e_csD (pc := 3) (sp_isWithin) dX6_isSheet_3 kX6_86 rfl rfl (mc_CR_of (Nat.le_of_ble_eq_true rfl) (Nat.le_of_ble_eq_true rfl) (Nat.le_refl _) (Nat.le_refl _)) (Nat.le_of_ble_eq_true rfl) ?_
  exact e_zret (pc := 6) dX6_isSheet_6 rfl (by exact mc_bnar) (Nat.le_refl _) (Nat.le_refl _) ⟨rfl, rfl⟩
theorem mc_wi_01 {v : Int32} : mc_wi v 0 1 = (v == 0 || v == 1) := by
  by_cases h0 : v = 0
  · subst h0; decide
  · by_cases h1 : v = 1
    · subst h1; decide
    · have e : (v == 0 || v == 1) = false := by simp [h0, h1]
      rw [e, mc_wi_iffF]
      have a0 : ¬ v.toInt = 0 := fun q => h0 (Int32.toInt_inj.mp q)
      have a1 : ¬ v.toInt = 1 := fun q => h1 (Int32.toInt_inj.mp q)
      show v.toInt < 0 ∨ 1 < v.toInt
      omega
theorem sp_isTwofold {w : mc_W} {v : Int32} : mc_D yX6_isTwofold cX6_isTwofold 1 (some .boolean) 1 [.int v] w (some (.int (mc_b (mc_wi v 0 1)))) w := by
  refine mc_start (own := RX6) (ini := false) rfl (by decide +kernel) (fun h => by cases h) (Nat.le_of_ble_eq_true rfl) ?_
  show mc_E _ _ _ _ _ [some (.int v)] [] _ _ _
  refine e_iloadn (pc := 0) dX6_isTwofold_0 rfl ?_
  refine e_if_eq (pc := 1) dX6_isTwofold_1 (t := 9) (by decide) (fun c_1 => ?_) (fun c_1 => ?_)
  · skip
    refine e_iconst (v := 1) (pc := 9) dX6_isTwofold_9 (by decide) ?_
    refine e_goto (pc := 10) dX6_isTwofold_10 (t := 14) (by decide) ?_
    exact e_zret (pc := 14) dX6_isTwofold_14 rfl (by rfl) (Nat.le_refl _) (Nat.le_refl _) ⟨by rw [mc_wi_01]; simp_all [mc_b], rfl⟩
  · skip
    refine e_iloadn (pc := 4) dX6_isTwofold_4 rfl ?_
    refine e_iconst (v := 1) (pc := 5) dX6_isTwofold_5 (by decide) ?_
    refine e_icmp_ne (pc := 6) dX6_isTwofold_6 (t := 13) (by decide) (fun c_6 => ?_) (fun c_6 => ?_)
    · skip
      refine e_iconst (v := 0) (pc := 13) dX6_isTwofold_13 (by decide) ?_
      exact e_zret (pc := 14) dX6_isTwofold_14 rfl (by rfl) (Nat.le_refl _) (Nat.le_refl _) ⟨by rw [mc_wi_01]; simp_all [mc_b], rfl⟩
    · skip
      refine e_iconst (v := 1) (pc := 9) dX6_isTwofold_9 (by decide) ?_
      refine e_goto (pc := 10) dX6_isTwofold_10 (t := 14) (by decide) ?_
      exact e_zret (pc := 14) dX6_isTwofold_14 rfl (by rfl) (Nat.le_refl _) (Nat.le_refl _) ⟨by rw [mc_wi_01]; simp_all [mc_b], rfl⟩
theorem sp_isYear {w : mc_W} {v : Int32} : mc_D yX6_isYear cX6_isYear 1 (some .boolean) 2 [.int v] w (some (.int (mc_b (yy_yr v)))) w := by
  refine mc_start (own := RX6) (ini := false) rfl (by decide +kernel) (fun h => by cases h) (Nat.le_of_ble_eq_true rfl) ?_
  show mc_E _ _ _ _ _ [some (.int v)] [] _ _ _
  refine e_iloadn (pc := 0) dX6_isYear_0 rfl ?_
  refine e_if_eq (pc := 1) dX6_isYear_1 (t := 21) (by decide) (fun c_1 => ?_) (fun c_1 => ?_)
  · skip
    refine e_iconst (v := 0) (pc := 21) dX6_isYear_21 (by decide) ?_
    exact e_zret (pc := 22) dX6_isYear_22 rfl (by rfl) (Nat.le_refl _) (Nat.le_refl _) ⟨by simp_all [mc_b, yy_yr], rfl⟩
  · skip
    refine e_iloadn (pc := 4) dX6_isYear_4 rfl ?_
    refine e_sipush (v := -999) (pc := 5) dX6_isYear_5 (by decide) ?_
    refine e_sipush (v := 999) (pc := 8) dX6_isYear_8 (by decide) ?_
    refine e_csD (pc := 11) (sp_isWithin) dX6_isYear_11 kX6_86 rfl rfl (mc_CR_of (Nat.le_of_ble_eq_true rfl) (Nat.le_of_ble_eq_true rfl) (Nat.le_refl _) (Nat.le_refl _)) (Nat.le_of_ble_eq_true rfl) ?_
    refine e_if_eq (pc := 14) dX6_isYear_14 (t := 21) (by decide) (fun c_14 => ?_) (fun c_14 => ?_)
    · skip
      refine e_iconst (v := 0) (pc := 21) dX6_isYear_21 (by decide) ?_
      exact e_zret (pc := 22) dX6_isYear_22 rfl (by rfl) (Nat.le_refl _) (Nat.le_refl _) ⟨by simp_all [mc_b, yy_yr], rfl⟩
    · skip
      refine e_iconst (v := 1) (pc := 17) dX6_isYear_17 (by decide) ?_
      refine e_goto (pc := 18) dX6_isYear_18 (t := 22) (by decide) ?_
      exact e_zret (pc := 22) dX6_isYear_22 rfl (by rfl) (Nat.le_refl _) (Nat.le_refl _) ⟨by simp_all [mc_b, yy_yr], rfl⟩
theorem sp_areTwoFolk {w : mc_W} {f g : Int32} : mc_D yX6_areTwoFolk cX6_areTwoFolk 2 (some .boolean) 3 [.int f, .int g] w (some (.int (mc_b (yy_fo f g)))) w := by
  refine mc_start (own := RX6) (ini := false) rfl (by decide +kernel) (fun h => by cases h) (Nat.le_of_ble_eq_true rfl) ?_
  show mc_E _ _ _ _ _ [some (.int f), some (.int g)] [] _ _ _
  refine e_iloadn (pc := 0) dX6_areTwoFolk_0 rfl ?_
  refine e_csD (pc := 1) (sp_isFolk) dX6_areTwoFolk_1 kX6_355 rfl rfl (mc_CR_of (Nat.le_of_ble_eq_true rfl) (Nat.le_of_ble_eq_true rfl) (Nat.le_refl _) (Nat.le_refl _)) (Nat.le_of_ble_eq_true rfl) ?_
  refine e_if_eq (pc := 4) dX6_areTwoFolk_4 (t := 23) (by decide) (fun c_4 => ?_) (fun c_4 => ?_)
  · skip
    refine e_iconst (v := 0) (pc := 23) dX6_areTwoFolk_23 (by decide) ?_
    exact e_zret (pc := 24) dX6_areTwoFolk_24 rfl (by rfl) (Nat.le_refl _) (Nat.le_refl _) ⟨by simp_all [mc_b, yy_fo], rfl⟩
  · skip
    refine e_iloadn (pc := 7) dX6_areTwoFolk_7 rfl ?_
    refine e_csD (pc := 8) (sp_isFolk) dX6_areTwoFolk_8 kX6_355 rfl rfl (mc_CR_of (Nat.le_of_ble_eq_true rfl) (Nat.le_of_ble_eq_true rfl) (Nat.le_refl _) (Nat.le_refl _)) (Nat.le_of_ble_eq_true rfl) ?_
    refine e_if_eq (pc := 11) dX6_areTwoFolk_11 (t := 23) (by decide) (fun c_11 => ?_) (fun c_11 => ?_)
    · skip
      refine e_iconst (v := 0) (pc := 23) dX6_areTwoFolk_23 (by decide) ?_
      exact e_zret (pc := 24) dX6_areTwoFolk_24 rfl (by rfl) (Nat.le_refl _) (Nat.le_refl _) ⟨by simp_all [mc_b, yy_fo], rfl⟩
    · skip
      refine e_iloadn (pc := 14) dX6_areTwoFolk_14 rfl ?_
      refine e_iloadn (pc := 15) dX6_areTwoFolk_15 rfl ?_
      refine e_icmp_eq (pc := 16) dX6_areTwoFolk_16 (t := 23) (by decide) (fun c_16 => ?_) (fun c_16 => ?_)
      · skip
        refine e_iconst (v := 0) (pc := 23) dX6_areTwoFolk_23 (by decide) ?_
        exact e_zret (pc := 24) dX6_areTwoFolk_24 rfl (by rfl) (Nat.le_refl _) (Nat.le_refl _) ⟨by simp_all [mc_b, yy_fo], rfl⟩
      · skip
        refine e_iconst (v := 1) (pc := 19) dX6_areTwoFolk_19 (by decide) ?_
        refine e_goto (pc := 20) dX6_areTwoFolk_20 (t := 24) (by decide) ?_
        exact e_zret (pc := 24) dX6_areTwoFolk_24 rfl (by rfl) (Nat.le_refl _) (Nat.le_refl _) ⟨by simp_all [mc_b, yy_fo], rfl⟩
def xx_py (y : Int32) : Int32 := if 0 < y then y - 1 else y
def xx_yp (p : Int32) : Int32 := if 0 ≤ p then p + 1 else p
theorem sp_placeOfYear {w : mc_W} {y : Int32} : mc_D yX6_placeOfYear cX6_placeOfYear 1 (some .int) 1 [.int y] w (some (.int (xx_py y))) w := by
  refine mc_start (own := RX6) (ini := false) rfl (by decide +kernel) (fun h => by cases h) (Nat.le_of_ble_eq_true rfl) ?_
  show mc_E _ _ _ _ _ [some (.int y)] [] _ _ _
  refine e_iloadn (pc := 0) dX6_placeOfYear_0 rfl ?_
  refine e_if_le (pc := 1) dX6_placeOfYear_1 (t := 10) (by decide) (fun c_1 => ?_) (fun c_1 => ?_)
  · skip
    refine e_iloadn (pc := 10) dX6_placeOfYear_10 rfl ?_
    exact e_iret (pc := 11) dX6_placeOfYear_11 rfl (Nat.le_refl _) (Nat.le_refl _) ⟨(by first | rfl | (simp [xx_py, *]; done) | ((try simp only [mc_cmp_le, mc_cmp_ge, mc_cmp_eq, mc_cmp_lt, mc_cmp_gt, mc_b0, mc_b1, Bool.not_eq_false, Bool.not_eq_true] at *); (try simp only [← Int32.not_lt, ← Int64.not_lt, Classical.not_not] at *); simp [xx_py, *]; done) | (simp_all [xx_py, mc_b0]; done) | (simp_all [xx_py, Int32.le_iff_toInt_le, Int32.lt_iff_toInt_lt] <;> omega)), rfl⟩
  · skip
    refine e_iloadn (pc := 4) dX6_placeOfYear_4 rfl ?_
    refine e_iconst (v := 1) (pc := 5) dX6_placeOfYear_5 (by decide) ?_
    refine e_isub (pc := 6) dX6_placeOfYear_6 ?_
    refine e_goto (pc := 7) dX6_placeOfYear_7 (t := 11) (by decide) ?_
    exact e_iret (pc := 11) dX6_placeOfYear_11 rfl (Nat.le_refl _) (Nat.le_refl _) ⟨(by first | rfl | (simp [xx_py, *]; done) | ((try simp only [mc_cmp_le, mc_cmp_ge, mc_cmp_eq, mc_cmp_lt, mc_cmp_gt, mc_b0, mc_b1, Bool.not_eq_false, Bool.not_eq_true] at *); (try simp only [← Int32.not_lt, ← Int64.not_lt, Classical.not_not] at *); simp [xx_py, *]; done) | (simp_all [xx_py, mc_b0]; done) | (simp_all [xx_py, Int32.le_iff_toInt_le, Int32.lt_iff_toInt_lt] <;> omega)), rfl⟩
theorem sp_yearAtPlace {w : mc_W} {y : Int32} : mc_D yX6_yearAtPlace cX6_yearAtPlace 1 (some .int) 1 [.int y] w (some (.int (xx_yp y))) w := by
  refine mc_start (own := RX6) (ini := false) rfl (by decide +kernel) (fun h => by cases h) (Nat.le_of_ble_eq_true rfl) ?_
  show mc_E _ _ _ _ _ [some (.int y)] [] _ _ _
  refine e_iloadn (pc := 0) dX6_yearAtPlace_0 rfl ?_
  refine e_if_lt (pc := 1) dX6_yearAtPlace_1 (t := 10) (by decide) (fun c_1 => ?_) (fun c_1 => ?_)
  · skip
    refine e_iloadn (pc := 10) dX6_yearAtPlace_10 rfl ?_
    exact e_iret (pc := 11) dX6_yearAtPlace_11 rfl (Nat.le_refl _) (Nat.le_refl _) ⟨(by first | rfl | (simp [xx_yp, *]; done) | ((try simp only [mc_cmp_le, mc_cmp_ge, mc_cmp_eq, mc_cmp_lt, mc_cmp_gt, mc_b0, mc_b1, Bool.not_eq_false, Bool.not_eq_true] at *); (try simp only [← Int32.not_lt, ← Int64.not_lt, Classical.not_not] at *); simp [xx_yp, *]; done) | (simp_all [xx_yp, mc_b0]; done) | (simp_all [xx_yp, Int32.le_iff_toInt_le, Int32.lt_iff_toInt_lt] <;> omega)), rfl⟩
  · skip
    refine e_iloadn (pc := 4) dX6_yearAtPlace_4 rfl ?_
    refine e_iconst (v := 1) (pc := 5) dX6_yearAtPlace_5 (by decide) ?_
    refine e_iadd (pc := 6) dX6_yearAtPlace_6 ?_
    refine e_goto (pc := 7) dX6_yearAtPlace_7 (t := 11) (by decide) ?_
    exact e_iret (pc := 11) dX6_yearAtPlace_11 rfl (Nat.le_refl _) (Nat.le_refl _) ⟨(by first | rfl | (simp [xx_yp, *]; done) | ((try simp only [mc_cmp_le, mc_cmp_ge, mc_cmp_eq, mc_cmp_lt, mc_cmp_gt, mc_b0, mc_b1, Bool.not_eq_false, Bool.not_eq_true] at *); (try simp only [← Int32.not_lt, ← Int64.not_lt, Classical.not_not] at *); simp [xx_yp, *]; done) | (simp_all [xx_yp, mc_b0]; done) | (simp_all [xx_yp, Int32.le_iff_toInt_le, Int32.lt_iff_toInt_lt] <;> omega)), rfl⟩
theorem yr_rng {v : Int32} (h : yy_yr v = true) : -999 ≤ v.toInt ∧ v.toInt ≤ 999 ∧ ¬ v.toInt = 0 := by
  unfold yy_yr at h
  rw [Bool.and_eq_true, mc_wi_iff] at h
  refine ⟨h.1.1, h.1.2, fun q => ?_⟩
  have : v = 0 := Int32.toInt_inj.mp q
  rw [this] at h
  exact absurd h.2 (by decide)
theorem i32_add {x y : Int32} (h1 : -1073741824 ≤ x.toInt ∧ x.toInt ≤ 1073741823) (h2 : -1073741824 ≤ y.toInt ∧ y.toInt ≤ 1073741823) : (x + y).toInt = x.toInt + y.toInt := by
  rw [Int32.toInt_add, Int.bmod_eq_of_le] <;> omega
theorem i32_sub {x y : Int32} (h1 : -1073741824 ≤ x.toInt ∧ x.toInt ≤ 1073741823) (h2 : -1073741824 ≤ y.toInt ∧ y.toInt ≤ 1073741823) : (x - y).toInt = x.toInt - y.toInt := by
  rw [Int32.toInt_sub, Int.bmod_eq_of_le] <;> omega
theorem i1 : (1 : Int32).toInt = 1 := rfl
theorem i0 : (0 : Int32).toInt = 0 := rfl
/-- the class's line of years beside the other side's -/
theorem xx_py_az {y : Int32} (h : ¬ y = 0) (hy : -2000000 ≤ y.toInt ∧ y.toInt ≤ 2000000) : xx_py y = yy_az y - 1 := by
  unfold xx_py yy_az
  have h0 : ¬ y.toInt = 0 := fun q => h (Int32.toInt_inj.mp q)
  by_cases h1 : 0 < y
  · rw [if_pos h1, if_neg (by rw [Int32.lt_iff_toInt_lt] at *; rw [i0] at *; omega)]
  · rw [if_neg h1, if_pos (by rw [Int32.lt_iff_toInt_lt] at *; rw [i0] at *; omega)]
    simp
theorem xx_az_rng {y : Int32} (hy : -2000000 ≤ y.toInt ∧ y.toInt ≤ 2000000) : -2000000 ≤ (yy_az y).toInt ∧ (yy_az y).toInt ≤ 2000001 := by
  unfold yy_az
  split
  · rw [i32_add (by omega) (by decide), i1]; omega
  · omega
theorem xx_yp_ay {p : Int32} (hp : -20000000 ≤ p.toInt ∧ p.toInt ≤ 20000000) : xx_yp p = yy_ay (p + 1) := by
  unfold xx_yp yy_ay
  have e : (p + 1).toInt = p.toInt + 1 := by rw [i32_add (by omega) (by decide), i1]
  by_cases h1 : 0 ≤ p
  · rw [if_pos h1, if_neg (by rw [Int32.lt_iff_toInt_lt, e, i1]; rw [Int32.le_iff_toInt_le, i0] at h1; omega)]
  · rw [if_neg h1, if_pos (by rw [Int32.lt_iff_toInt_lt, e, i1]; rw [Int32.le_iff_toInt_le, i0] at h1; omega)]
    simp
theorem xx_span {f g : Int32} (hf : yy_yr f = true) (hg : yy_yr g = true) : xx_py g - xx_py f = yy_az g - yy_az f := by
  have f1 := yr_rng hf; have g1 := yr_rng hg
  have f2 := xx_az_rng (y := f) (by omega)
  have g2 := xx_az_rng (y := g) (by omega)
  rw [xx_py_az (y := g) (fun q => g1.2.2 (by rw [q]; rfl)) (by omega), xx_py_az (y := f) (fun q => f1.2.2 (by rw [q]; rfl)) (by omega)]
  have e1 : (yy_az g - 1).toInt = (yy_az g).toInt - 1 := by rw [i32_sub (by omega) (by decide), i1]
  have e2 : (yy_az f - 1).toInt = (yy_az f).toInt - 1 := by rw [i32_sub (by omega) (by decide), i1]
  apply Int32.toInt_inj.mp
  rw [i32_sub (x := yy_az g - 1) (y := yy_az f - 1) (by omega) (by omega), i32_sub (x := yy_az g) (y := yy_az f) (by omega) (by omega), e1, e2]
  omega
theorem xx_behind {f g : Int32} (hf : yy_yr f = true) (hg : -3000 ≤ g.toInt ∧ g.toInt ≤ 3000) : xx_yp (xx_py f + g) = yy_ay (yy_az f + g) := by
  have f1 := yr_rng hf
  have f2 := xx_az_rng (y := f) (by omega)
  have e : (yy_az f - 1).toInt = (yy_az f).toInt - 1 := by rw [i32_sub (by omega) (by decide), i1]
  rw [xx_py_az (fun q => f1.2.2 (by rw [q]; rfl)) (by omega), xx_yp_ay (by rw [i32_add (by omega) (by omega), e]; omega)]
  congr 1
  rw [Int32.add_assoc, Int32.sub_eq_add_neg, Int32.add_assoc, Int32.add_comm (-1) (g + 1), Int32.add_assoc]
  simp
theorem sp_x_span {s u m n : Nat → Int32} {a c b d : Nat → List Int32} {q : List (Option Nat)} {h : Nat} {z : mc_W} {f g : Int32} : mc_D yX6_span cX6_span 3 (some .int) 3 [.ref 0, .int f, .int g] (WW s a q u c h m b n d z) (some (.int (if yy_yr f && yy_yr g then yy_az g - yy_az f else -100000))) (WW s a q u c h m b n d z) := by
  refine mc_start (own := RX6) (ini := false) rfl (by decide +kernel) (fun h => by cases h) (Nat.le_of_ble_eq_true rfl) ?_
  show mc_E _ _ _ _ _ [some (.ref 0), some (.int f), some (.int g)] [] _ _ _
  refine e_iloadn (pc := 0) dX6_span_0 rfl ?_
  refine e_csD (pc := 1) (sp_isYear) dX6_span_1 kX6_90 rfl rfl (mc_CR_of (Nat.le_of_ble_eq_true rfl) (Nat.le_of_ble_eq_true rfl) (Nat.le_refl _) (Nat.le_refl _)) (Nat.le_of_ble_eq_true rfl) ?_
  refine e_if_eq (pc := 4) dX6_span_4 (t := 14) (by decide) (fun c_4 => ?_) (fun c_4 => ?_)
  · skip
    refine e_ldcw (pc := 14) dX6_span_14 qX6_261 ?_
    exact e_iret (pc := 17) dX6_span_17 rfl (Nat.le_refl _) (Nat.le_refl _) ⟨(by first | (simp_all [mc_b0, mc_b1]; done) | (simp only [mc_b0, mc_b1, Bool.not_eq_false] at *; rw [xx_span (by assumption) (by assumption)]; simp_all)), rfl⟩
  · skip
    refine e_iloadn (pc := 7) dX6_span_7 rfl ?_
    refine e_csD (pc := 8) (sp_isYear) dX6_span_8 kX6_90 rfl rfl (mc_CR_of (Nat.le_of_ble_eq_true rfl) (Nat.le_of_ble_eq_true rfl) (Nat.le_refl _) (Nat.le_refl _)) (Nat.le_of_ble_eq_true rfl) ?_
    refine e_if_ne (pc := 11) dX6_span_11 (t := 18) (by decide) (fun c_11 => ?_) (fun c_11 => ?_)
    · skip
      refine e_iloadn (pc := 18) dX6_span_18 rfl ?_
      refine e_csD (pc := 19) (sp_placeOfYear) dX6_span_19 kX6_262 rfl rfl (mc_CR_of (Nat.le_of_ble_eq_true rfl) (Nat.le_of_ble_eq_true rfl) (Nat.le_refl _) (Nat.le_refl _)) (Nat.le_of_ble_eq_true rfl) ?_
      refine e_iloadn (pc := 22) dX6_span_22 rfl ?_
      refine e_csD (pc := 23) (sp_placeOfYear) dX6_span_23 kX6_262 rfl rfl (mc_CR_of (Nat.le_of_ble_eq_true rfl) (Nat.le_of_ble_eq_true rfl) (Nat.le_refl _) (Nat.le_refl _)) (Nat.le_of_ble_eq_true rfl) ?_
      refine e_isub (pc := 26) dX6_span_26 ?_
      exact e_iret (pc := 27) dX6_span_27 rfl (Nat.le_refl _) (Nat.le_refl _) ⟨(by first | (simp_all [mc_b0, mc_b1]; done) | (simp only [mc_b0, mc_b1, Bool.not_eq_false] at *; rw [xx_span (by assumption) (by assumption)]; simp_all)), rfl⟩
    · skip
      refine e_ldcw (pc := 14) dX6_span_14 qX6_261 ?_
      exact e_iret (pc := 17) dX6_span_17 rfl (Nat.le_refl _) (Nat.le_refl _) ⟨(by first | (simp_all [mc_b0, mc_b1]; done) | (simp only [mc_b0, mc_b1, Bool.not_eq_false] at *; rw [xx_span (by assumption) (by assumption)]; simp_all)), rfl⟩
theorem sp_x_behind {s u m n : Nat → Int32} {a c b d : Nat → List Int32} {q : List (Option Nat)} {h : Nat} {z : mc_W} {f g : Int32} : mc_D yX6_behind cX6_behind 4 (some .int) 3 [.ref 0, .int f, .int g] (WW s a q u c h m b n d z) (some (.int (if yy_yr f && mc_wi g (-3000) 3000 then (if yy_yr (yy_ay (yy_az f + g)) then yy_ay (yy_az f + g) else -100001) else -100000))) (WW s a q u c h m b n d z) := by
  refine mc_start (own := RX6) (ini := false) rfl (by decide +kernel) (fun h => by cases h) (Nat.le_of_ble_eq_true rfl) ?_
  show mc_E _ _ _ _ _ [some (.ref 0), some (.int f), some (.int g), none] [] _ _ _
  have hb : yy_yr f = true → mc_wi g (-3000) 3000 = true → xx_yp (xx_py f + g) = yy_ay (yy_az f + g) := fun h1 h2 => xx_behind h1 (mc_wi_iff.mp h2)
  refine e_iloadn (pc := 0) dX6_behind_0 rfl ?_
  refine e_csD (pc := 1) (sp_isYear) dX6_behind_1 kX6_90 rfl rfl (mc_CR_of (Nat.le_of_ble_eq_true rfl) (Nat.le_of_ble_eq_true rfl) (Nat.le_refl _) (Nat.le_refl _)) (Nat.le_of_ble_eq_true rfl) ?_
  refine e_if_eq (pc := 4) dX6_behind_4 (t := 20) (by decide) (fun c_4 => ?_) (fun c_4 => ?_)
  · skip
    refine e_ldcw (pc := 20) dX6_behind_20 qX6_261 ?_
    exact e_iret (pc := 23) dX6_behind_23 rfl (Nat.le_refl _) (Nat.le_refl _) ⟨(by first | (simp_all [mc_b0, mc_b1]; done) | (simp only [mc_b0, mc_b1, Bool.not_eq_false, Bool.not_eq_true] at *; rw [hb (by assumption) (by assumption)] at *; simp_all)), rfl⟩
  · skip
    refine e_iloadn (pc := 7) dX6_behind_7 rfl ?_
    refine e_sipush (v := -3000) (pc := 8) dX6_behind_8 (by decide) ?_
    refine e_sipush (v := 3000) (pc := 11) dX6_behind_11 (by decide) ?_
    refine e_csD (pc := 14) (sp_isWithin) dX6_behind_14 kX6_86 rfl rfl (mc_CR_of (Nat.le_of_ble_eq_true rfl) (Nat.le_of_ble_eq_true rfl) (Nat.le_refl _) (Nat.le_refl _)) (Nat.le_of_ble_eq_true rfl) ?_
    refine e_if_ne (pc := 17) dX6_behind_17 (t := 24) (by decide) (fun c_17 => ?_) (fun c_17 => ?_)
    · skip
      refine e_iloadn (pc := 24) dX6_behind_24 rfl ?_
      refine e_csD (pc := 25) (sp_placeOfYear) dX6_behind_25 kX6_262 rfl rfl (mc_CR_of (Nat.le_of_ble_eq_true rfl) (Nat.le_of_ble_eq_true rfl) (Nat.le_refl _) (Nat.le_refl _)) (Nat.le_of_ble_eq_true rfl) ?_
      refine e_iloadn (pc := 28) dX6_behind_28 rfl ?_
      refine e_iadd (pc := 29) dX6_behind_29 ?_
      refine e_csD (pc := 30) (sp_yearAtPlace) dX6_behind_30 kX6_265 rfl rfl (mc_CR_of (Nat.le_of_ble_eq_true rfl) (Nat.le_of_ble_eq_true rfl) (Nat.le_refl _) (Nat.le_refl _)) (Nat.le_of_ble_eq_true rfl) ?_
      refine e_isn3 (pc := 33) dX6_behind_33 (Nat.le_of_ble_eq_true rfl) rfl ?_
      refine e_iloadn (pc := 34) dX6_behind_34 rfl ?_
      refine e_csD (pc := 35) (sp_isYear) dX6_behind_35 kX6_90 rfl rfl (mc_CR_of (Nat.le_of_ble_eq_true rfl) (Nat.le_of_ble_eq_true rfl) (Nat.le_refl _) (Nat.le_refl _)) (Nat.le_of_ble_eq_true rfl) ?_
      refine e_if_eq (pc := 38) dX6_behind_38 (t := 45) (by decide) (fun c_38 => ?_) (fun c_38 => ?_)
      · skip
        refine e_ldcw (pc := 45) dX6_behind_45 qX6_268 ?_
        exact e_iret (pc := 48) dX6_behind_48 rfl (Nat.le_refl _) (Nat.le_refl _) ⟨(by first | (simp_all [mc_b0, mc_b1]; done) | (simp only [mc_b0, mc_b1, Bool.not_eq_false, Bool.not_eq_true] at *; rw [hb (by assumption) (by assumption)] at *; simp_all)), rfl⟩
      · skip
        refine e_iloadn (pc := 41) dX6_behind_41 rfl ?_
        refine e_goto (pc := 42) dX6_behind_42 (t := 48) (by decide) ?_
        exact e_iret (pc := 48) dX6_behind_48 rfl (Nat.le_refl _) (Nat.le_refl _) ⟨(by first | (simp_all [mc_b0, mc_b1]; done) | (simp only [mc_b0, mc_b1, Bool.not_eq_false, Bool.not_eq_true] at *; rw [hb (by assumption) (by assumption)] at *; simp_all)), rfl⟩
    · skip
      refine e_ldcw (pc := 20) dX6_behind_20 qX6_261 ?_
      exact e_iret (pc := 23) dX6_behind_23 rfl (Nat.le_refl _) (Nat.le_refl _) ⟨(by first | (simp_all [mc_b0, mc_b1]; done) | (simp only [mc_b0, mc_b1, Bool.not_eq_false, Bool.not_eq_true] at *; rw [hb (by assumption) (by assumption)] at *; simp_all)), rfl⟩
theorem sp_x_tsize {s u m n : Nat → Int32} {a c b d : Nat → List Int32} {q : List (Option Nat)} {h : Nat} {z : mc_W} : mc_D yX4_size cX4_size 1 (some .int) 1 [.ref 6] (WW s a q u c h m b n d z) (some (.int (s 5))) (WW s a q u c h m b n d z) := by
  refine mc_start (own := RX4) (ini := false) rfl (by decide +kernel) (fun h => by cases h) (Nat.le_of_ble_eq_true rfl) ?_
  show mc_E _ _ _ _ _ [some (.ref 6)] [] _ _ _
  refine e_aloadn (pc := 0) dX4_size_0 rfl ?_
  refine e_get (pc := 1) dX4_size_1 fX4_18 rfl rfl ?_
  exact e_iret (pc := 4) dX4_size_4 rfl (Nat.le_refl _) (Nat.le_refl _) ⟨rfl, rfl⟩
theorem sp_x_tempty {s u m n : Nat → Int32} {a c b d : Nat → List Int32} {q : List (Option Nat)} {h : Nat} {z : mc_W} : mc_D yX4_becomeEmpty cX4_becomeEmpty 1 none 1 [.ref 6] (WW s a q u c h m b n d z) none (WW (mc_up s 5 0) a q u c h m b n d z) := by
  refine mc_start (own := RX4) (ini := false) rfl (by decide +kernel) (fun h => by cases h) (Nat.le_of_ble_eq_true rfl) ?_
  show mc_E _ _ _ _ _ [some (.ref 6)] [] _ _ _
  refine e_aloadn (pc := 0) dX4_becomeEmpty_0 rfl ?_
  refine e_iconst (v := 0) (pc := 1) dX4_becomeEmpty_1 (by decide) ?_
  refine put_tape_size (pc := 2) dX4_becomeEmpty_2 pX4_18 ?_
  exact e_vret (pc := 5) dX4_becomeEmpty_5 rfl (Nat.le_refl _) (Nat.le_refl _) ⟨rfl, rfl⟩
theorem sp_x_tappend {s u m n : Nat → Int32} {a c b d : Nat → List Int32} {q : List (Option Nat)} {h : Nat} {z : mc_W} {x : Int32} (hL : (a 2).length = 160) (h0 : 0 ≤ (s 5).toInt ∧ (s 5).toInt < 160) : mc_D yX4_append cX4_append 2 none 1 [.ref 6, .int x] (WW s a q u c h m b n d z) none (WW (mc_up s 5 (s 5 + 1)) (mc_up a 2 ((a 2).set (s 5).toNatClampNeg x)) q u c h m b n d z) := by
  refine mc_start (own := RX4) (ini := false) rfl (by decide +kernel) (fun h => by cases h) (Nat.le_of_ble_eq_true rfl) ?_
  show mc_E _ _ _ _ _ [some (.ref 6), some (.int x)] [] _ _ _
  refine e_aloadn (pc := 0) dX4_append_0 rfl ?_
  refine e_get (pc := 1) dX4_append_1 fX4_18 rfl rfl ?_
  refine e_if_lt (pc := 4) dX4_append_4 (t := 39) (by decide) (fun c_4 => absurd c_4 (by rw [Int32.lt_iff_toInt_lt, i0]; omega)) (fun _ => ?_)
  refine e_aloadn (pc := 7) dX4_append_7 rfl ?_
  refine e_get (pc := 8) dX4_append_8 fX4_18 rfl rfl ?_
  refine e_aloadn (pc := 11) dX4_append_11 rfl ?_
  refine e_get (pc := 12) dX4_append_12 fX4_9 rfl rfl ?_
  refine e_alen (pc := 15) dX4_append_15 rfl (show Int32.ofNat (a 2).length = 160 by rw [hL]; rfl) ?_
  refine e_icmp_ge (pc := 16) dX4_append_16 (t := 39) (by decide) (fun c_16 => absurd c_16 (by rw [Int32.le_iff_toInt_le, show (160 : Int32).toInt = 160 from rfl]; omega)) (fun _ => ?_)
  refine e_aloadn (pc := 19) dX4_append_19 rfl ?_
  refine e_get (pc := 20) dX4_append_20 fX4_9 rfl rfl ?_
  refine e_aloadn (pc := 23) dX4_append_23 rfl ?_
  refine e_get (pc := 24) dX4_append_24 fX4_18 rfl rfl ?_
  refine e_iloadn (pc := 27) dX4_append_27 rfl ?_
  refine ast_bytes (pc := 28) dX4_append_28 (by rw [hL, vp_in_iff]; omega) ?_
  refine e_aloadn (pc := 29) dX4_append_29 rfl ?_
  refine e_dup (pc := 30) dX4_append_30 rfl ?_
  refine e_get (pc := 31) dX4_append_31 fX4_18 rfl rfl ?_
  refine e_iconst (v := 1) (pc := 34) dX4_append_34 (by decide) ?_
  refine e_iadd (pc := 35) dX4_append_35 ?_
  refine put_tape_size (pc := 36) dX4_append_36 pX4_18 ?_
  exact e_vret (pc := 39) dX4_append_39 rfl (Nat.le_refl _) (Nat.le_refl _) ⟨rfl, rfl⟩
theorem sp_x_count {s u m n : Nat → Int32} {a c b d : Nat → List Int32} {q : List (Option Nat)} {h : Nat} {z : mc_W} {k : Int32} : mc_D yX6_count cX6_count 2 (some .int) 2 [.ref 0, .int k] (WW s a q u c h m b n d z) (some (.int (yy_ct (Ms s) k))) (WW s a q u c h m b n d z) := by
  refine mc_start (own := RX6) (ini := false) rfl (by decide +kernel) (fun h => by cases h) (Nat.le_of_ble_eq_true rfl) ?_
  show mc_E _ _ _ _ _ [some (.ref 0), some (.int k)] [] _ _ _
  refine e_iloadn (pc := 0) dX6_count_0 rfl ?_
  by_cases hs_1_0 : k = 0
  · rw [hs_1_0]
    refine e_tabIn (pc := 1) (t := 40) dX6_count_1 (by decide) (by decide) rfl (by decide) ?_
    refine e_aloadn (pc := 40) dX6_count_40 rfl ?_
    refine e_get (pc := 41) dX6_count_41 fX6_76 rfl rfl ?_
    exact e_iret (pc := 44) dX6_count_44 rfl (Nat.le_refl _) (Nat.le_refl _) ⟨(by first | rfl | (simp [yy_ct, Ms, *]; done) | ((try simp only [mc_cmp_le, mc_cmp_ge, mc_cmp_eq, mc_cmp_lt, mc_cmp_gt, mc_b0, mc_b1, Bool.not_eq_false, Bool.not_eq_true] at *); (try simp only [← Int32.not_lt, ← Int64.not_lt, Classical.not_not] at *); simp [yy_ct, Ms, *]; done) | (simp_all [yy_ct, Ms, mc_b0]; done) | (simp_all [yy_ct, Ms, Int32.le_iff_toInt_le, Int32.lt_iff_toInt_lt] <;> omega)), rfl⟩
  by_cases hs_1_1 : k = 1
  · rw [hs_1_1]
    refine e_tabIn (pc := 1) (t := 45) dX6_count_1 (by decide) (by decide) rfl (by decide) ?_
    refine e_aloadn (pc := 45) dX6_count_45 rfl ?_
    refine e_get (pc := 46) dX6_count_46 fX6_7 rfl rfl ?_
    exact e_iret (pc := 49) dX6_count_49 rfl (Nat.le_refl _) (Nat.le_refl _) ⟨(by first | rfl | (simp [yy_ct, Ms, *]; done) | ((try simp only [mc_cmp_le, mc_cmp_ge, mc_cmp_eq, mc_cmp_lt, mc_cmp_gt, mc_b0, mc_b1, Bool.not_eq_false, Bool.not_eq_true] at *); (try simp only [← Int32.not_lt, ← Int64.not_lt, Classical.not_not] at *); simp [yy_ct, Ms, *]; done) | (simp_all [yy_ct, Ms, mc_b0]; done) | (simp_all [yy_ct, Ms, Int32.le_iff_toInt_le, Int32.lt_iff_toInt_lt] <;> omega)), rfl⟩
  by_cases hs_1_2 : k = 2
  · rw [hs_1_2]
    refine e_tabIn (pc := 1) (t := 50) dX6_count_1 (by decide) (by decide) rfl (by decide) ?_
    refine e_aloadn (pc := 50) dX6_count_50 rfl ?_
    refine e_get (pc := 51) dX6_count_51 fX6_13 rfl rfl ?_
    exact e_iret (pc := 54) dX6_count_54 rfl (Nat.le_refl _) (Nat.le_refl _) ⟨(by first | rfl | (simp [yy_ct, Ms, *]; done) | ((try simp only [mc_cmp_le, mc_cmp_ge, mc_cmp_eq, mc_cmp_lt, mc_cmp_gt, mc_b0, mc_b1, Bool.not_eq_false, Bool.not_eq_true] at *); (try simp only [← Int32.not_lt, ← Int64.not_lt, Classical.not_not] at *); simp [yy_ct, Ms, *]; done) | (simp_all [yy_ct, Ms, mc_b0]; done) | (simp_all [yy_ct, Ms, Int32.le_iff_toInt_le, Int32.lt_iff_toInt_lt] <;> omega)), rfl⟩
  by_cases hs_1_3 : k = 3
  · rw [hs_1_3]
    refine e_tabIn (pc := 1) (t := 55) dX6_count_1 (by decide) (by decide) rfl (by decide) ?_
    refine e_aloadn (pc := 55) dX6_count_55 rfl ?_
    refine e_get (pc := 56) dX6_count_56 fX6_36 rfl rfl ?_
    exact e_iret (pc := 59) dX6_count_59 rfl (Nat.le_refl _) (Nat.le_refl _) ⟨(by first | rfl | (simp [yy_ct, Ms, *]; done) | ((try simp only [mc_cmp_le, mc_cmp_ge, mc_cmp_eq, mc_cmp_lt, mc_cmp_gt, mc_b0, mc_b1, Bool.not_eq_false, Bool.not_eq_true] at *); (try simp only [← Int32.not_lt, ← Int64.not_lt, Classical.not_not] at *); simp [yy_ct, Ms, *]; done) | (simp_all [yy_ct, Ms, mc_b0]; done) | (simp_all [yy_ct, Ms, Int32.le_iff_toInt_le, Int32.lt_iff_toInt_lt] <;> omega)), rfl⟩
  by_cases hs_1_4 : k = 4
  · rw [hs_1_4]
    refine e_tabIn (pc := 1) (t := 60) dX6_count_1 (by decide) (by decide) rfl (by decide) ?_
    refine e_aloadn (pc := 60) dX6_count_60 rfl ?_
    refine e_get (pc := 61) dX6_count_61 fX6_79 rfl rfl ?_
    exact e_iret (pc := 64) dX6_count_64 rfl (Nat.le_refl _) (Nat.le_refl _) ⟨(by first | rfl | (simp [yy_ct, Ms, *]; done) | ((try simp only [mc_cmp_le, mc_cmp_ge, mc_cmp_eq, mc_cmp_lt, mc_cmp_gt, mc_b0, mc_b1, Bool.not_eq_false, Bool.not_eq_true] at *); (try simp only [← Int32.not_lt, ← Int64.not_lt, Classical.not_not] at *); simp [yy_ct, Ms, *]; done) | (simp_all [yy_ct, Ms, mc_b0]; done) | (simp_all [yy_ct, Ms, Int32.le_iff_toInt_le, Int32.lt_iff_toInt_lt] <;> omega)), rfl⟩
  by_cases hs_1_5 : k = 5
  · rw [hs_1_5]
    refine e_tabIn (pc := 1) (t := 65) dX6_count_1 (by decide) (by decide) rfl (by decide) ?_
    refine e_aloadn (pc := 65) dX6_count_65 rfl ?_
    refine e_get (pc := 66) dX6_count_66 fX6_42 rfl rfl ?_
    refine e_cvD (pc := 69) (sp_x_tsize) dX6_count_69 kX6_82 rfl rfl rfl rfl rfl (mc_CR_of (Nat.le_of_ble_eq_true rfl) (Nat.le_of_ble_eq_true rfl) (Nat.le_refl _) (Nat.le_refl _)) (Nat.le_of_ble_eq_true rfl) ?_
    exact e_iret (pc := 72) dX6_count_72 rfl (Nat.le_refl _) (Nat.le_refl _) ⟨(by first | rfl | (simp [yy_ct, Ms, *]; done) | ((try simp only [mc_cmp_le, mc_cmp_ge, mc_cmp_eq, mc_cmp_lt, mc_cmp_gt, mc_b0, mc_b1, Bool.not_eq_false, Bool.not_eq_true] at *); (try simp only [← Int32.not_lt, ← Int64.not_lt, Classical.not_not] at *); simp [yy_ct, Ms, *]; done) | (simp_all [yy_ct, Ms, mc_b0]; done) | (simp_all [yy_ct, Ms, Int32.le_iff_toInt_le, Int32.lt_iff_toInt_lt] <;> omega)), rfl⟩
  refine e_tabOut (pc := 1) (t := 73) dX6_count_1 (mc_tabout (by decide) (fun k h1 h2 => ?_)) (by decide) ?_
  · rcases (show k = 0 ∨ k = 1 ∨ k = 2 ∨ k = 3 ∨ k = 4 ∨ k = 5 by omega) with rfl | rfl | rfl | rfl | rfl | rfl <;> assumption
  refine e_bipush (v := -2) (pc := 73) dX6_count_73 (by decide) ?_
  exact e_iret (pc := 75) dX6_count_75 rfl (Nat.le_refl _) (Nat.le_refl _) ⟨(by first | rfl | (simp [yy_ct, Ms, *]; done) | ((try simp only [mc_cmp_le, mc_cmp_ge, mc_cmp_eq, mc_cmp_lt, mc_cmp_gt, mc_b0, mc_b1, Bool.not_eq_false, Bool.not_eq_true] at *); (try simp only [← Int32.not_lt, ← Int64.not_lt, Classical.not_not] at *); simp [yy_ct, Ms, *]; done) | (simp_all [yy_ct, Ms, mc_b0]; done) | (simp_all [yy_ct, Ms, Int32.le_iff_toInt_le, Int32.lt_iff_toInt_lt] <;> omega)), rfl⟩
theorem sp_x_set {s u m n : Nat → Int32} {a c b d : Nat → List Int32} {q : List (Option Nat)} {h : Nat} {z : mc_W} {w v : Int32} : mc_D yX6_set cX6_set 4 (some .int) 3 [.ref 0, .int w, .int v] (WW s a q u c h m b n d z) (some (.int (yy_set1 (Ms s) w v))) (WW (yy_setm s w v) a q u c h m b n d z) := by
  refine mc_start (own := RX6) (ini := false) rfl (by decide +kernel) (fun h => by cases h) (Nat.le_of_ble_eq_true rfl) ?_
  show mc_E _ _ _ _ _ [some (.ref 0), some (.int w), some (.int v), none] [] _ _ _
  refine e_iloadn (pc := 0) dX6_set_0 rfl ?_
  refine e_if_eq (pc := 1) dX6_set_1 (t := 12) (by decide) (fun c_1 => ?_) (fun c_1 => ?_)
  · skip
    refine e_iloadn (pc := 12) dX6_set_12 rfl ?_
    refine e_if_ne (pc := 13) dX6_set_13 (t := 29) (by decide) (fun c_13 => ?_) (fun c_13 => ?_)
    · skip
      refine e_iloadn (pc := 29) dX6_set_29 rfl ?_
      refine e_csD (pc := 30) (sp_isYear) dX6_set_30 kX6_90 rfl rfl (mc_CR_of (Nat.le_of_ble_eq_true rfl) (Nat.le_of_ble_eq_true rfl) (Nat.le_refl _) (Nat.le_refl _)) (Nat.le_of_ble_eq_true rfl) ?_
      refine e_if_ne (pc := 33) dX6_set_33 (t := 39) (by decide) (fun c_33 => ?_) (fun c_33 => ?_)
      · skip
        refine e_iloadn (pc := 39) dX6_set_39 rfl ?_
        refine e_if_ne (pc := 40) dX6_set_40 (t := 50) (by decide) (fun c_40 => ?_) (fun c_40 => ?_)
        · skip
          refine e_aloadn (pc := 50) dX6_set_50 rfl ?_
          refine e_get (pc := 51) dX6_set_51 fX6_13 rfl rfl ?_
          refine e_isn3 (pc := 54) dX6_set_54 (Nat.le_of_ble_eq_true rfl) rfl ?_
          refine e_iloadn (pc := 55) dX6_set_55 rfl ?_
          refine e_if_ne (pc := 56) dX6_set_56 (t := 67) (by decide) (fun c_56 => ?_) (fun c_56 => ?_)
          · skip
            refine e_aloadn (pc := 67) dX6_set_67 rfl ?_
            refine e_iloadn (pc := 68) dX6_set_68 rfl ?_
            refine put_x_year (pc := 69) dX6_set_69 pX6_13 ?_
            refine e_iloadn (pc := 72) dX6_set_72 rfl ?_
            exact e_iret (pc := 73) dX6_set_73 rfl (Nat.le_refl _) (Nat.le_refl _) ⟨by simp_all [yy_set1, mc_wi_01, mc_b0, mc_b1, Ms], by simp_all [yy_setm, mc_wi_01, mc_b0, mc_b1]⟩
          · skip
            refine e_aloadn (pc := 59) dX6_set_59 rfl ?_
            refine e_iloadn (pc := 60) dX6_set_60 rfl ?_
            refine put_x_base (pc := 61) dX6_set_61 pX6_7 ?_
            refine e_goto (pc := 64) dX6_set_64 (t := 72) (by decide) ?_
            refine e_iloadn (pc := 72) dX6_set_72 rfl ?_
            exact e_iret (pc := 73) dX6_set_73 rfl (Nat.le_refl _) (Nat.le_refl _) ⟨by simp_all [yy_set1, mc_wi_01, mc_b0, mc_b1, Ms], by simp_all [yy_setm, mc_wi_01, mc_b0, mc_b1]⟩
        · skip
          refine e_aloadn (pc := 43) dX6_set_43 rfl ?_
          refine e_get (pc := 44) dX6_set_44 fX6_7 rfl rfl ?_
          refine e_goto (pc := 47) dX6_set_47 (t := 54) (by decide) ?_
          refine e_isn3 (pc := 54) dX6_set_54 (Nat.le_of_ble_eq_true rfl) rfl ?_
          refine e_iloadn (pc := 55) dX6_set_55 rfl ?_
          refine e_if_ne (pc := 56) dX6_set_56 (t := 67) (by decide) (fun c_56 => ?_) (fun c_56 => ?_)
          · skip
            refine e_aloadn (pc := 67) dX6_set_67 rfl ?_
            refine e_iloadn (pc := 68) dX6_set_68 rfl ?_
            refine put_x_year (pc := 69) dX6_set_69 pX6_13 ?_
            refine e_iloadn (pc := 72) dX6_set_72 rfl ?_
            exact e_iret (pc := 73) dX6_set_73 rfl (Nat.le_refl _) (Nat.le_refl _) ⟨by simp_all [yy_set1, mc_wi_01, mc_b0, mc_b1, Ms], by simp_all [yy_setm, mc_wi_01, mc_b0, mc_b1]⟩
          · skip
            refine e_aloadn (pc := 59) dX6_set_59 rfl ?_
            refine e_iloadn (pc := 60) dX6_set_60 rfl ?_
            refine put_x_base (pc := 61) dX6_set_61 pX6_7 ?_
            refine e_goto (pc := 64) dX6_set_64 (t := 72) (by decide) ?_
            refine e_iloadn (pc := 72) dX6_set_72 rfl ?_
            exact e_iret (pc := 73) dX6_set_73 rfl (Nat.le_refl _) (Nat.le_refl _) ⟨by simp_all [yy_set1, mc_wi_01, mc_b0, mc_b1, Ms], by simp_all [yy_setm, mc_wi_01, mc_b0, mc_b1]⟩
      · skip
        refine e_bipush (v := -7) (pc := 36) dX6_set_36 (by decide) ?_
        exact e_iret (pc := 38) dX6_set_38 rfl (Nat.le_refl _) (Nat.le_refl _) ⟨by simp_all [yy_set1, mc_wi_01, mc_b0, mc_b1, Ms], by simp_all [yy_setm, mc_wi_01, mc_b0, mc_b1]⟩
    · skip
      refine e_iloadn (pc := 16) dX6_set_16 rfl ?_
      refine e_iconst (v := 2) (pc := 17) dX6_set_17 (by decide) ?_
      refine e_bipush (v := 12) (pc := 18) dX6_set_18 (by decide) ?_
      refine e_csD (pc := 20) (sp_isWithin) dX6_set_20 kX6_86 rfl rfl (mc_CR_of (Nat.le_of_ble_eq_true rfl) (Nat.le_of_ble_eq_true rfl) (Nat.le_refl _) (Nat.le_refl _)) (Nat.le_of_ble_eq_true rfl) ?_
      refine e_if_ne (pc := 23) dX6_set_23 (t := 39) (by decide) (fun c_23 => ?_) (fun c_23 => ?_)
      · skip
        refine e_iloadn (pc := 39) dX6_set_39 rfl ?_
        refine e_if_ne (pc := 40) dX6_set_40 (t := 50) (by decide) (fun c_40 => ?_) (fun c_40 => ?_)
        · skip
          refine e_aloadn (pc := 50) dX6_set_50 rfl ?_
          refine e_get (pc := 51) dX6_set_51 fX6_13 rfl rfl ?_
          refine e_isn3 (pc := 54) dX6_set_54 (Nat.le_of_ble_eq_true rfl) rfl ?_
          refine e_iloadn (pc := 55) dX6_set_55 rfl ?_
          refine e_if_ne (pc := 56) dX6_set_56 (t := 67) (by decide) (fun c_56 => ?_) (fun c_56 => ?_)
          · skip
            refine e_aloadn (pc := 67) dX6_set_67 rfl ?_
            refine e_iloadn (pc := 68) dX6_set_68 rfl ?_
            refine put_x_year (pc := 69) dX6_set_69 pX6_13 ?_
            refine e_iloadn (pc := 72) dX6_set_72 rfl ?_
            exact e_iret (pc := 73) dX6_set_73 rfl (Nat.le_refl _) (Nat.le_refl _) ⟨by simp_all [yy_set1, mc_wi_01, mc_b0, mc_b1, Ms], by simp_all [yy_setm, mc_wi_01, mc_b0, mc_b1]⟩
          · skip
            refine e_aloadn (pc := 59) dX6_set_59 rfl ?_
            refine e_iloadn (pc := 60) dX6_set_60 rfl ?_
            refine put_x_base (pc := 61) dX6_set_61 pX6_7 ?_
            refine e_goto (pc := 64) dX6_set_64 (t := 72) (by decide) ?_
            refine e_iloadn (pc := 72) dX6_set_72 rfl ?_
            exact e_iret (pc := 73) dX6_set_73 rfl (Nat.le_refl _) (Nat.le_refl _) ⟨by simp_all [yy_set1, mc_wi_01, mc_b0, mc_b1, Ms], by simp_all [yy_setm, mc_wi_01, mc_b0, mc_b1]⟩
        · skip
          refine e_aloadn (pc := 43) dX6_set_43 rfl ?_
          refine e_get (pc := 44) dX6_set_44 fX6_7 rfl rfl ?_
          refine e_goto (pc := 47) dX6_set_47 (t := 54) (by decide) ?_
          refine e_isn3 (pc := 54) dX6_set_54 (Nat.le_of_ble_eq_true rfl) rfl ?_
          refine e_iloadn (pc := 55) dX6_set_55 rfl ?_
          refine e_if_ne (pc := 56) dX6_set_56 (t := 67) (by decide) (fun c_56 => ?_) (fun c_56 => ?_)
          · skip
            refine e_aloadn (pc := 67) dX6_set_67 rfl ?_
            refine e_iloadn (pc := 68) dX6_set_68 rfl ?_
            refine put_x_year (pc := 69) dX6_set_69 pX6_13 ?_
            refine e_iloadn (pc := 72) dX6_set_72 rfl ?_
            exact e_iret (pc := 73) dX6_set_73 rfl (Nat.le_refl _) (Nat.le_refl _) ⟨by simp_all [yy_set1, mc_wi_01, mc_b0, mc_b1, Ms], by simp_all [yy_setm, mc_wi_01, mc_b0, mc_b1]⟩
          · skip
            refine e_aloadn (pc := 59) dX6_set_59 rfl ?_
            refine e_iloadn (pc := 60) dX6_set_60 rfl ?_
            refine put_x_base (pc := 61) dX6_set_61 pX6_7 ?_
            refine e_goto (pc := 64) dX6_set_64 (t := 72) (by decide) ?_
            refine e_iloadn (pc := 72) dX6_set_72 rfl ?_
            exact e_iret (pc := 73) dX6_set_73 rfl (Nat.le_refl _) (Nat.le_refl _) ⟨by simp_all [yy_set1, mc_wi_01, mc_b0, mc_b1, Ms], by simp_all [yy_setm, mc_wi_01, mc_b0, mc_b1]⟩
      · skip
        refine e_goto (pc := 26) dX6_set_26 (t := 36) (by decide) ?_
        refine e_bipush (v := -7) (pc := 36) dX6_set_36 (by decide) ?_
        exact e_iret (pc := 38) dX6_set_38 rfl (Nat.le_refl _) (Nat.le_refl _) ⟨by simp_all [yy_set1, mc_wi_01, mc_b0, mc_b1, Ms], by simp_all [yy_setm, mc_wi_01, mc_b0, mc_b1]⟩
  · skip
    refine e_iloadn (pc := 4) dX6_set_4 rfl ?_
    refine e_iconst (v := 1) (pc := 5) dX6_set_5 (by decide) ?_
    refine e_icmp_eq (pc := 6) dX6_set_6 (t := 12) (by decide) (fun c_6 => ?_) (fun c_6 => ?_)
    · skip
      refine e_iloadn (pc := 12) dX6_set_12 rfl ?_
      refine e_if_ne (pc := 13) dX6_set_13 (t := 29) (by decide) (fun c_13 => ?_) (fun c_13 => ?_)
      · skip
        refine e_iloadn (pc := 29) dX6_set_29 rfl ?_
        refine e_csD (pc := 30) (sp_isYear) dX6_set_30 kX6_90 rfl rfl (mc_CR_of (Nat.le_of_ble_eq_true rfl) (Nat.le_of_ble_eq_true rfl) (Nat.le_refl _) (Nat.le_refl _)) (Nat.le_of_ble_eq_true rfl) ?_
        refine e_if_ne (pc := 33) dX6_set_33 (t := 39) (by decide) (fun c_33 => ?_) (fun c_33 => ?_)
        · skip
          refine e_iloadn (pc := 39) dX6_set_39 rfl ?_
          refine e_if_ne (pc := 40) dX6_set_40 (t := 50) (by decide) (fun c_40 => ?_) (fun c_40 => ?_)
          · skip
            refine e_aloadn (pc := 50) dX6_set_50 rfl ?_
            refine e_get (pc := 51) dX6_set_51 fX6_13 rfl rfl ?_
            refine e_isn3 (pc := 54) dX6_set_54 (Nat.le_of_ble_eq_true rfl) rfl ?_
            refine e_iloadn (pc := 55) dX6_set_55 rfl ?_
            refine e_if_ne (pc := 56) dX6_set_56 (t := 67) (by decide) (fun c_56 => ?_) (fun c_56 => ?_)
            · skip
              refine e_aloadn (pc := 67) dX6_set_67 rfl ?_
              refine e_iloadn (pc := 68) dX6_set_68 rfl ?_
              refine put_x_year (pc := 69) dX6_set_69 pX6_13 ?_
              refine e_iloadn (pc := 72) dX6_set_72 rfl ?_
              exact e_iret (pc := 73) dX6_set_73 rfl (Nat.le_refl _) (Nat.le_refl _) ⟨by simp_all [yy_set1, mc_wi_01, mc_b0, mc_b1, Ms], by simp_all [yy_setm, mc_wi_01, mc_b0, mc_b1]⟩
            · skip
              refine e_aloadn (pc := 59) dX6_set_59 rfl ?_
              refine e_iloadn (pc := 60) dX6_set_60 rfl ?_
              refine put_x_base (pc := 61) dX6_set_61 pX6_7 ?_
              refine e_goto (pc := 64) dX6_set_64 (t := 72) (by decide) ?_
              refine e_iloadn (pc := 72) dX6_set_72 rfl ?_
              exact e_iret (pc := 73) dX6_set_73 rfl (Nat.le_refl _) (Nat.le_refl _) ⟨by simp_all [yy_set1, mc_wi_01, mc_b0, mc_b1, Ms], by simp_all [yy_setm, mc_wi_01, mc_b0, mc_b1]⟩
          · skip
            refine e_aloadn (pc := 43) dX6_set_43 rfl ?_
            refine e_get (pc := 44) dX6_set_44 fX6_7 rfl rfl ?_
            refine e_goto (pc := 47) dX6_set_47 (t := 54) (by decide) ?_
            refine e_isn3 (pc := 54) dX6_set_54 (Nat.le_of_ble_eq_true rfl) rfl ?_
            refine e_iloadn (pc := 55) dX6_set_55 rfl ?_
            refine e_if_ne (pc := 56) dX6_set_56 (t := 67) (by decide) (fun c_56 => ?_) (fun c_56 => ?_)
            · skip
              refine e_aloadn (pc := 67) dX6_set_67 rfl ?_
              refine e_iloadn (pc := 68) dX6_set_68 rfl ?_
              refine put_x_year (pc := 69) dX6_set_69 pX6_13 ?_
              refine e_iloadn (pc := 72) dX6_set_72 rfl ?_
              exact e_iret (pc := 73) dX6_set_73 rfl (Nat.le_refl _) (Nat.le_refl _) ⟨by simp_all [yy_set1, mc_wi_01, mc_b0, mc_b1, Ms], by simp_all [yy_setm, mc_wi_01, mc_b0, mc_b1]⟩
            · skip
              refine e_aloadn (pc := 59) dX6_set_59 rfl ?_
              refine e_iloadn (pc := 60) dX6_set_60 rfl ?_
              refine put_x_base (pc := 61) dX6_set_61 pX6_7 ?_
              refine e_goto (pc := 64) dX6_set_64 (t := 72) (by decide) ?_
              refine e_iloadn (pc := 72) dX6_set_72 rfl ?_
              exact e_iret (pc := 73) dX6_set_73 rfl (Nat.le_refl _) (Nat.le_refl _) ⟨by simp_all [yy_set1, mc_wi_01, mc_b0, mc_b1, Ms], by simp_all [yy_setm, mc_wi_01, mc_b0, mc_b1]⟩
        · skip
          refine e_bipush (v := -7) (pc := 36) dX6_set_36 (by decide) ?_
          exact e_iret (pc := 38) dX6_set_38 rfl (Nat.le_refl _) (Nat.le_refl _) ⟨by simp_all [yy_set1, mc_wi_01, mc_b0, mc_b1, Ms], by simp_all [yy_setm, mc_wi_01, mc_b0, mc_b1]⟩
      · skip
        refine e_iloadn (pc := 16) dX6_set_16 rfl ?_
        refine e_iconst (v := 2) (pc := 17) dX6_set_17 (by decide) ?_
        refine e_bipush (v := 12) (pc := 18) dX6_set_18 (by decide) ?_
        refine e_csD (pc := 20) (sp_isWithin) dX6_set_20 kX6_86 rfl rfl (mc_CR_of (Nat.le_of_ble_eq_true rfl) (Nat.le_of_ble_eq_true rfl) (Nat.le_refl _) (Nat.le_refl _)) (Nat.le_of_ble_eq_true rfl) ?_
        refine e_if_ne (pc := 23) dX6_set_23 (t := 39) (by decide) (fun c_23 => ?_) (fun c_23 => ?_)
        · skip
          refine e_iloadn (pc := 39) dX6_set_39 rfl ?_
          refine e_if_ne (pc := 40) dX6_set_40 (t := 50) (by decide) (fun c_40 => ?_) (fun c_40 => ?_)
          · skip
            refine e_aloadn (pc := 50) dX6_set_50 rfl ?_
            refine e_get (pc := 51) dX6_set_51 fX6_13 rfl rfl ?_
            refine e_isn3 (pc := 54) dX6_set_54 (Nat.le_of_ble_eq_true rfl) rfl ?_
            refine e_iloadn (pc := 55) dX6_set_55 rfl ?_
            refine e_if_ne (pc := 56) dX6_set_56 (t := 67) (by decide) (fun c_56 => ?_) (fun c_56 => ?_)
            · skip
              refine e_aloadn (pc := 67) dX6_set_67 rfl ?_
              refine e_iloadn (pc := 68) dX6_set_68 rfl ?_
              refine put_x_year (pc := 69) dX6_set_69 pX6_13 ?_
              refine e_iloadn (pc := 72) dX6_set_72 rfl ?_
              exact e_iret (pc := 73) dX6_set_73 rfl (Nat.le_refl _) (Nat.le_refl _) ⟨by simp_all [yy_set1, mc_wi_01, mc_b0, mc_b1, Ms], by simp_all [yy_setm, mc_wi_01, mc_b0, mc_b1]⟩
            · skip
              refine e_aloadn (pc := 59) dX6_set_59 rfl ?_
              refine e_iloadn (pc := 60) dX6_set_60 rfl ?_
              refine put_x_base (pc := 61) dX6_set_61 pX6_7 ?_
              refine e_goto (pc := 64) dX6_set_64 (t := 72) (by decide) ?_
              refine e_iloadn (pc := 72) dX6_set_72 rfl ?_
              exact e_iret (pc := 73) dX6_set_73 rfl (Nat.le_refl _) (Nat.le_refl _) ⟨by simp_all [yy_set1, mc_wi_01, mc_b0, mc_b1, Ms], by simp_all [yy_setm, mc_wi_01, mc_b0, mc_b1]⟩
          · skip
            refine e_aloadn (pc := 43) dX6_set_43 rfl ?_
            refine e_get (pc := 44) dX6_set_44 fX6_7 rfl rfl ?_
            refine e_goto (pc := 47) dX6_set_47 (t := 54) (by decide) ?_
            refine e_isn3 (pc := 54) dX6_set_54 (Nat.le_of_ble_eq_true rfl) rfl ?_
            refine e_iloadn (pc := 55) dX6_set_55 rfl ?_
            refine e_if_ne (pc := 56) dX6_set_56 (t := 67) (by decide) (fun c_56 => ?_) (fun c_56 => ?_)
            · skip
              refine e_aloadn (pc := 67) dX6_set_67 rfl ?_
              refine e_iloadn (pc := 68) dX6_set_68 rfl ?_
              refine put_x_year (pc := 69) dX6_set_69 pX6_13 ?_
              refine e_iloadn (pc := 72) dX6_set_72 rfl ?_
              exact e_iret (pc := 73) dX6_set_73 rfl (Nat.le_refl _) (Nat.le_refl _) ⟨by simp_all [yy_set1, mc_wi_01, mc_b0, mc_b1, Ms], by simp_all [yy_setm, mc_wi_01, mc_b0, mc_b1]⟩
            · skip
              refine e_aloadn (pc := 59) dX6_set_59 rfl ?_
              refine e_iloadn (pc := 60) dX6_set_60 rfl ?_
              refine put_x_base (pc := 61) dX6_set_61 pX6_7 ?_
              refine e_goto (pc := 64) dX6_set_64 (t := 72) (by decide) ?_
              refine e_iloadn (pc := 72) dX6_set_72 rfl ?_
              exact e_iret (pc := 73) dX6_set_73 rfl (Nat.le_refl _) (Nat.le_refl _) ⟨by simp_all [yy_set1, mc_wi_01, mc_b0, mc_b1, Ms], by simp_all [yy_setm, mc_wi_01, mc_b0, mc_b1]⟩
        · skip
          refine e_goto (pc := 26) dX6_set_26 (t := 36) (by decide) ?_
          refine e_bipush (v := -7) (pc := 36) dX6_set_36 (by decide) ?_
          exact e_iret (pc := 38) dX6_set_38 rfl (Nat.le_refl _) (Nat.le_refl _) ⟨by simp_all [yy_set1, mc_wi_01, mc_b0, mc_b1, Ms], by simp_all [yy_setm, mc_wi_01, mc_b0, mc_b1]⟩
    · skip
      refine e_bipush (v := -5) (pc := 9) dX6_set_9 (by decide) ?_
      exact e_iret (pc := 11) dX6_set_11 rfl (Nat.le_refl _) (Nat.le_refl _) ⟨by simp_all [yy_set1, mc_wi_01, mc_b0, mc_b1, Ms], by simp_all [yy_setm, mc_wi_01, mc_b0, mc_b1]⟩
def xx_fos (s : Nat → Int32) (t : Int32) : Nat → Int32 := if mc_wi t 0 (s 3 - 1) = true then mc_up s 4 t else s
theorem sp_x_force {s u m n : Nat → Int32} {a c b d : Nat → List Int32} {q : List (Option Nat)} {h : Nat} {z : mc_W} {t : Int32} : mc_D yX6_force cX6_force 3 (some .int) 2 [.ref 0, .int t] (WW s a q u c h m b n d z) (some (.int (yy_fo1 (Ms s) t))) (WW (xx_fos s t) a q u c h m b n d z) := by
  refine mc_start (own := RX6) (ini := false) rfl (by decide +kernel) (fun h => by cases h) (Nat.le_of_ble_eq_true rfl) ?_
  show mc_E _ _ _ _ _ [some (.ref 0), some (.int t), none] [] _ _ _
  refine e_iloadn (pc := 0) dX6_force_0 rfl ?_
  refine e_iconst (v := 0) (pc := 1) dX6_force_1 (by decide) ?_
  refine e_aloadn (pc := 2) dX6_force_2 rfl ?_
  refine e_get (pc := 3) dX6_force_3 fX6_36 rfl rfl ?_
  refine e_iconst (v := 1) (pc := 6) dX6_force_6 (by decide) ?_
  refine e_isub (pc := 7) dX6_force_7 ?_
  refine e_csD (pc := 8) (sp_isWithin) dX6_force_8 kX6_86 rfl rfl (mc_CR_of (Nat.le_of_ble_eq_true rfl) (Nat.le_of_ble_eq_true rfl) (Nat.le_refl _) (Nat.le_refl _)) (Nat.le_of_ble_eq_true rfl) ?_
  refine e_if_ne (pc := 11) dX6_force_11 (t := 17) (by decide) (fun c_11 => ?_) (fun c_11 => ?_)
  · skip
    refine e_aloadn (pc := 17) dX6_force_17 rfl ?_
    refine e_get (pc := 18) dX6_force_18 fX6_79 rfl rfl ?_
    refine e_isn2 (pc := 21) dX6_force_21 (Nat.le_of_ble_eq_true rfl) rfl ?_
    refine e_aloadn (pc := 22) dX6_force_22 rfl ?_
    refine e_iloadn (pc := 23) dX6_force_23 rfl ?_
    refine put_x_lawNumber (pc := 24) dX6_force_24 pX6_79 ?_
    refine e_iloadn (pc := 27) dX6_force_27 rfl ?_
    exact e_iret (pc := 28) dX6_force_28 rfl (Nat.le_refl _) (Nat.le_refl _) ⟨by simp_all [yy_fo1, Ms, mc_b0, mc_b1], by simp_all [xx_fos, mc_b0, mc_b1]⟩
  · skip
    refine e_bipush (v := -2) (pc := 14) dX6_force_14 (by decide) ?_
    exact e_iret (pc := 16) dX6_force_16 rfl (Nat.le_refl _) (Nat.le_refl _) ⟨by simp_all [yy_fo1, Ms, mc_b0, mc_b1], by simp_all [xx_fos, mc_b0, mc_b1]⟩
theorem ck_dec {k x : Int32} (h0 : 0 ≤ x.toInt) (h5 : x.toInt ≤ 5) : mc_wi k 0 (x - 1) = (decide (0 ≤ k) && decide (k < x) && decide (k < 5)) := by
  have e : (x - 1).toInt = x.toInt - 1 := by rw [i32_sub (by omega) (by decide), i1]
  rw [Bool.eq_iff_iff, mc_wi_iff, e]
  simp only [Bool.and_eq_true, decide_eq_true_eq, Int32.le_iff_toInt_le, Int32.lt_iff_toInt_lt, i0, show (5 : Int32).toInt = 5 from rfl]
  omega
theorem sp_x_isClerk {s u m n : Nat → Int32} {a c b d : Nat → List Int32} {q : List (Option Nat)} {h : Nat} {z : mc_W} {k : Int32} (hC : yC s) : mc_D yX6_isClerk cX6_isClerk 2 (some .boolean) 1 [.ref 0, .int k] (WW s a q u c h m b n d z) (some (.int (mc_b (mc_wi k 0 (s 2 - 1))))) (WW s a q u c h m b n d z) := by
  refine mc_start (own := RX6) (ini := false) rfl (by decide +kernel) (fun h => by cases h) (Nat.le_of_ble_eq_true rfl) ?_
  show mc_E _ _ _ _ _ [some (.ref 0), some (.int k)] [] _ _ _
  rw [ck_dec hC.1 hC.2]
  refine e_iloadn (pc := 0) dX6_isClerk_0 rfl ?_
  refine e_if_lt (pc := 1) dX6_isClerk_1 (t := 21) (by decide) (fun c_1 => ?_) (fun c_1 => ?_)
  · skip
    refine e_iconst (v := 0) (pc := 21) dX6_isClerk_21 (by decide) ?_
    exact e_zret (pc := 22) dX6_isClerk_22 rfl (by rfl) (Nat.le_refl _) (Nat.le_refl _) ⟨by simp only [mc_b, Int32.not_lt, Int32.not_le] at *; simp_all [← Int32.not_lt], rfl⟩
  · skip
    refine e_iloadn (pc := 4) dX6_isClerk_4 rfl ?_
    refine e_aloadn (pc := 5) dX6_isClerk_5 rfl ?_
    refine e_get (pc := 6) dX6_isClerk_6 fX6_76 rfl rfl ?_
    refine e_icmp_ge (pc := 9) dX6_isClerk_9 (t := 21) (by decide) (fun c_9 => ?_) (fun c_9 => ?_)
    · skip
      refine e_iconst (v := 0) (pc := 21) dX6_isClerk_21 (by decide) ?_
      exact e_zret (pc := 22) dX6_isClerk_22 rfl (by rfl) (Nat.le_refl _) (Nat.le_refl _) ⟨by simp only [mc_b, Int32.not_lt, Int32.not_le] at *; simp_all [← Int32.not_lt], rfl⟩
    · skip
      refine e_iloadn (pc := 12) dX6_isClerk_12 rfl ?_
      refine e_iconst (v := 5) (pc := 13) dX6_isClerk_13 (by decide) ?_
      refine e_icmp_ge (pc := 14) dX6_isClerk_14 (t := 21) (by decide) (fun c_14 => ?_) (fun c_14 => ?_)
      · skip
        refine e_iconst (v := 0) (pc := 21) dX6_isClerk_21 (by decide) ?_
        exact e_zret (pc := 22) dX6_isClerk_22 rfl (by rfl) (Nat.le_refl _) (Nat.le_refl _) ⟨by simp only [mc_b, Int32.not_lt, Int32.not_le] at *; simp_all [← Int32.not_lt], rfl⟩
      · skip
        refine e_iconst (v := 1) (pc := 17) dX6_isClerk_17 (by decide) ?_
        refine e_goto (pc := 18) dX6_isClerk_18 (t := 22) (by decide) ?_
        exact e_zret (pc := 22) dX6_isClerk_22 rfl (by rfl) (Nat.le_refl _) (Nat.le_refl _) ⟨by simp only [mc_b, Int32.not_lt, Int32.not_le] at *; simp_all [← Int32.not_lt], rfl⟩
end Zj_60_x1
section Zj_61_x2
/-! ===== debts ===== -/
theorem vp_in_oo {f g : Int32} {l : List Int32} (hl : l.length = 36) (hf : mc_wi f 0 5 = true) (hg : mc_wi g 0 5 = true) : vp_in (6 * f + g) l.length := by
  rw [mc_wi_iff, i0, show (5 : Int32).toInt = 5 from rfl] at hf hg
  have e1 : (6 * f).toInt = 6 * f.toInt := by
    rw [Int32.toInt_mul, show (6 : Int32).toInt = 6 from rfl, Int.bmod_eq_of_le] <;> omega
  have e2 : (6 * f + g).toInt = 6 * f.toInt + g.toInt := by rw [i32_add (by omega) (by omega), e1]
  rw [vp_in_iff, hl, e2]; omega
/-- what one owes another -/
def xof (o : List Int32) (f g : Int32) : Int32 := if (mc_wi f 0 5 && mc_wi g 0 5) = true then gt o (6 * f + g) else 0
def xbe (o : List Int32) (f g mu : Int32) : List Int32 := if yy_fo f g = true then o.set (6 * f + g).toNatClampNeg mu else o
theorem xbe_len (o : List Int32) (f g mu : Int32) : (xbe o f g mu).length = o.length := by unfold xbe; split <;> simp
theorem mc_up_same {α : Type} {f : Nat → α} {k : Nat} {x : α} (h : x = f k) : mc_up f k x = f := by subst h; exact mc_up_self f k
theorem fo_wi {f g : Int32} (h : yy_fo f g = true) : mc_wi f 0 5 = true ∧ mc_wi g 0 5 = true := by
  unfold yy_fo at h; simp only [Bool.and_eq_true] at h; exact h.1
theorem xof_fo {o : List Int32} {f g : Int32} (h : yy_fo f g = true) : xof o f g = gt o (6 * f + g) := by
  unfold xof; rw [if_pos (by rw [(fo_wi h).1, (fo_wi h).2]; rfl)]
theorem sp_x_of {s u m n : Nat → Int32} {a c b d : Nat → List Int32} {q : List (Option Nat)} {h : Nat} {z : mc_W} {f g : Int32} (hL : (a 3).length = 36) : mc_D yX0_of cX0_of 3 (some .int) 3 [.ref 10, .int f, .int g] (WW s a q u c h m b n d z) (some (.int (xof (a 3) f g))) (WW s a q u c h m b n d z) := by
  refine mc_start (own := RX0) (ini := false) rfl (by decide +kernel) (fun h => by cases h) (Nat.le_of_ble_eq_true rfl) ?_
  show mc_E _ _ _ _ _ [some (.ref 10), some (.int f), some (.int g)] [] _ _ _
  refine e_iloadn (pc := 0) dX0_of_0 rfl ?_
  refine e_cnD (pc := 1) (sp_isFolk) dX0_of_1 kX0_18 rfl rfl (mc_CR_of (Nat.le_of_ble_eq_true rfl) (Nat.le_of_ble_eq_true rfl) (Nat.le_refl _) (Nat.le_refl _)) (Nat.le_of_ble_eq_true rfl) ?_
  refine e_if_eq (pc := 4) dX0_of_4 (t := 28) (by decide) (fun c_4 => ?_) (fun c_4 => ?_)
  · skip
    refine e_iconst (v := 0) (pc := 28) dX0_of_28 (by decide) ?_
    exact e_iret (pc := 29) dX0_of_29 rfl (Nat.le_refl _) (Nat.le_refl _) ⟨by simp_all [xof, gt, mc_b0, mc_b1], rfl⟩
  · skip
    refine e_iloadn (pc := 7) dX0_of_7 rfl ?_
    refine e_cnD (pc := 8) (sp_isFolk) dX0_of_8 kX0_18 rfl rfl (mc_CR_of (Nat.le_of_ble_eq_true rfl) (Nat.le_of_ble_eq_true rfl) (Nat.le_refl _) (Nat.le_refl _)) (Nat.le_of_ble_eq_true rfl) ?_
    refine e_if_eq (pc := 11) dX0_of_11 (t := 28) (by decide) (fun c_11 => ?_) (fun c_11 => ?_)
    · skip
      refine e_iconst (v := 0) (pc := 28) dX0_of_28 (by decide) ?_
      exact e_iret (pc := 29) dX0_of_29 rfl (Nat.le_refl _) (Nat.le_refl _) ⟨by simp_all [xof, gt, mc_b0, mc_b1], rfl⟩
    · skip
      refine e_aloadn (pc := 14) dX0_of_14 rfl ?_
      refine e_get (pc := 15) dX0_of_15 fX0_9 rfl rfl ?_
      refine e_bipush (v := 6) (pc := 18) dX0_of_18 (by decide) ?_
      refine e_iloadn (pc := 20) dX0_of_20 rfl ?_
      refine e_imul (pc := 21) dX0_of_21 ?_
      refine e_iloadn (pc := 22) dX0_of_22 rfl ?_
      refine e_iadd (pc := 23) dX0_of_23 ?_
      refine ald_owed (pc := 24) dX0_of_24 (vp_in_oo hL (mc_b1.mp c_4) (mc_b1.mp c_11)) ?_
      refine e_goto (pc := 25) dX0_of_25 (t := 29) (by decide) ?_
      exact e_iret (pc := 29) dX0_of_29 rfl (Nat.le_refl _) (Nat.le_refl _) ⟨by simp_all [xof, gt, mc_b0, mc_b1], rfl⟩
theorem sp_x_become {s u m n : Nat → Int32} {a c b d : Nat → List Int32} {q : List (Option Nat)} {h : Nat} {z : mc_W} {f g mu : Int32} (hL : (a 3).length = 36) : mc_D yX0_become cX0_become 4 none 4 [.ref 10, .int f, .int g, .int mu] (WW s a q u c h m b n d z) none (WW s (mc_up a 3 (xbe (a 3) f g mu)) q u c h m b n d z) := by
  refine mc_start (own := RX0) (ini := false) rfl (by decide +kernel) (fun h => by cases h) (Nat.le_of_ble_eq_true rfl) ?_
  show mc_E _ _ _ _ _ [some (.ref 10), some (.int f), some (.int g), some (.int mu)] [] _ _ _
  refine e_iloadn (pc := 0) dX0_become_0 rfl ?_
  refine e_iloadn (pc := 1) dX0_become_1 rfl ?_
  refine e_cnD (pc := 2) (sp_areTwoFolk) dX0_become_2 kX0_22 rfl rfl (mc_CR_of (Nat.le_of_ble_eq_true rfl) (Nat.le_of_ble_eq_true rfl) (Nat.le_refl _) (Nat.le_refl _)) (Nat.le_of_ble_eq_true rfl) ?_
  refine e_if_eq (pc := 5) dX0_become_5 (t := 20) (by decide) (fun c_5 => ?_) (fun c_5 => ?_)
  · skip
    exact e_vret (pc := 20) dX0_become_20 rfl (Nat.le_refl _) (Nat.le_refl _) ⟨rfl, by first | (rw [xbe, if_pos (mc_b1.mp c_5)]; done) | (rw [xbe, if_neg (by rw [mc_b0.mp c_5]; decide), mc_up_self])⟩
  · skip
    refine e_aloadn (pc := 8) dX0_become_8 rfl ?_
    refine e_get (pc := 9) dX0_become_9 fX0_9 rfl rfl ?_
    refine e_bipush (v := 6) (pc := 12) dX0_become_12 (by decide) ?_
    refine e_iloadn (pc := 14) dX0_become_14 rfl ?_
    refine e_imul (pc := 15) dX0_become_15 ?_
    refine e_iloadn (pc := 16) dX0_become_16 rfl ?_
    refine e_iadd (pc := 17) dX0_become_17 ?_
    refine e_iloadn (pc := 18) dX0_become_18 rfl ?_
    refine ast_owed (pc := 19) dX0_become_19 (vp_in_oo hL (fo_wi (mc_b1.mp c_5)).1 (fo_wi (mc_b1.mp c_5)).2) ?_
    exact e_vret (pc := 20) dX0_become_20 rfl (Nat.le_refl _) (Nat.le_refl _) ⟨rfl, by first | (rw [xbe, if_pos (mc_b1.mp c_5)]; done) | (rw [xbe, if_neg (by rw [mc_b0.mp c_5]; decide), mc_up_self])⟩
def xall (o : List Int32) (f : Int32) : Int32 := 0 + xof o f 0 + xof o f 1 + xof o f 2 + xof o f 3 + xof o f 4 + xof o f 5
theorem sp_x_allOf {s u m n : Nat → Int32} {a c b d : Nat → List Int32} {q : List (Option Nat)} {h : Nat} {z : mc_W} {f : Int32} (hL : (a 3).length = 36) : mc_D yX0_allOf cX0_allOf 4 (some .int) 4 [.ref 10, .int f] (WW s a q u c h m b n d z) (some (.int (xall (a 3) f))) (WW s a q u c h m b n d z) := by
  refine mc_start (own := RX0) (ini := false) rfl (by decide +kernel) (fun h => by cases h) (Nat.le_of_ble_eq_true rfl) ?_
  show mc_E _ _ _ _ _ [some (.ref 10), some (.int f), none, none] [] _ _ _
  refine e_iconst (v := 0) (pc := 0) dX0_allOf_0 (by decide) ?_
  refine e_isn2 (pc := 1) dX0_allOf_1 (Nat.le_of_ble_eq_true rfl) rfl ?_
  refine e_iconst (v := 0) (pc := 2) dX0_allOf_2 (by decide) ?_
  refine e_isn3 (pc := 3) dX0_allOf_3 (Nat.le_of_ble_eq_true rfl) rfl ?_
  refine e_iloadn (pc := 4) dX0_allOf_4 rfl ?_
  refine e_bipush (v := 6) (pc := 5) dX0_allOf_5 (by decide) ?_
  refine e_icmp_ge (pc := 7) dX0_allOf_7 (t := 25) (by decide) (fun c_7 => absurd c_7 (by decide)) (fun _ => ?_)
  refine e_iloadn (pc := 10) dX0_allOf_10 rfl ?_
  refine e_aloadn (pc := 11) dX0_allOf_11 rfl ?_
  refine e_iloadn (pc := 12) dX0_allOf_12 rfl ?_
  refine e_iloadn (pc := 13) dX0_allOf_13 rfl ?_
  refine e_cvD (pc := 14) (sp_x_of hL) dX0_allOf_14 kX0_26 rfl rfl rfl rfl rfl (mc_CR_of (Nat.le_of_ble_eq_true rfl) (Nat.le_of_ble_eq_true rfl) (Nat.le_refl _) (Nat.le_refl _)) (Nat.le_of_ble_eq_true rfl) ?_
  refine e_iadd (pc := 17) dX0_allOf_17 ?_
  refine e_isn2 (pc := 18) dX0_allOf_18 (Nat.le_of_ble_eq_true rfl) rfl ?_
  refine e_incC3 (pc := 19) (v := 1) dX0_allOf_19 (by decide) (Nat.le_of_ble_eq_true rfl) rfl ?_
  refine e_goto (pc := 22) dX0_allOf_22 (t := 4) (by decide) ?_
  refine e_iloadn (pc := 4) dX0_allOf_4 rfl ?_
  refine e_bipush (v := 6) (pc := 5) dX0_allOf_5 (by decide) ?_
  refine e_icmp_ge (pc := 7) dX0_allOf_7 (t := 25) (by decide) (fun c_7 => absurd c_7 (by decide)) (fun _ => ?_)
  refine e_iloadn (pc := 10) dX0_allOf_10 rfl ?_
  refine e_aloadn (pc := 11) dX0_allOf_11 rfl ?_
  refine e_iloadn (pc := 12) dX0_allOf_12 rfl ?_
  refine e_iloadn (pc := 13) dX0_allOf_13 rfl ?_
  refine e_cvD (pc := 14) (sp_x_of hL) dX0_allOf_14 kX0_26 rfl rfl rfl rfl rfl (mc_CR_of (Nat.le_of_ble_eq_true rfl) (Nat.le_of_ble_eq_true rfl) (Nat.le_refl _) (Nat.le_refl _)) (Nat.le_of_ble_eq_true rfl) ?_
  refine e_iadd (pc := 17) dX0_allOf_17 ?_
  refine e_isn2 (pc := 18) dX0_allOf_18 (Nat.le_of_ble_eq_true rfl) rfl ?_
  refine e_incC3 (pc := 19) (v := 2) dX0_allOf_19 (by decide) (Nat.le_of_ble_eq_true rfl) rfl ?_
  refine e_goto (pc := 22) dX0_allOf_22 (t := 4) (by decide) ?_
  refine e_iloadn (pc := 4) dX0_allOf_4 rfl ?_
  refine e_bipush (v := 6) (pc := 5) dX0_allOf_5 (by decide) ?_
  refine e_icmp_ge (pc := 7) dX0_allOf_7 (t := 25) (by decide) (fun c_7 => absurd c_7 (by decide)) (fun _ => ?_)
  refine e_iloadn (pc := 10) dX0_allOf_10 rfl ?_
  refine e_aloadn (pc := 11) dX0_allOf_11 rfl ?_
  refine e_iloadn (pc := 12) dX0_allOf_12 rfl ?_
  refine e_iloadn (pc := 13) dX0_allOf_13 rfl ?_
  refine e_cvD (pc := 14) (sp_x_of hL) dX0_allOf_14 kX0_26 rfl rfl rfl rfl rfl (mc_CR_of (Nat.le_of_ble_eq_true rfl) (Nat.le_of_ble_eq_true rfl) (Nat.le_refl _) (Nat.le_refl _)) (Nat.le_of_ble_eq_true rfl) ?_
  refine e_iadd (pc := 17) dX0_allOf_17 ?_
  refine e_isn2 (pc := 18) dX0_allOf_18 (Nat.le_of_ble_eq_true rfl) rfl ?_
  refine e_incC3 (pc := 19) (v := 3) dX0_allOf_19 (by decide) (Nat.le_of_ble_eq_true rfl) rfl ?_
  refine e_goto (pc := 22) dX0_allOf_22 (t := 4) (by decide) ?_
  refine e_iloadn (pc := 4) dX0_allOf_4 rfl ?_
  refine e_bipush (v := 6) (pc := 5) dX0_allOf_5 (by decide) ?_
  refine e_icmp_ge (pc := 7) dX0_allOf_7 (t := 25) (by decide) (fun c_7 => absurd c_7 (by decide)) (fun _ => ?_)
  refine e_iloadn (pc := 10) dX0_allOf_10 rfl ?_
  refine e_aloadn (pc := 11) dX0_allOf_11 rfl ?_
  refine e_iloadn (pc := 12) dX0_allOf_12 rfl ?_
  refine e_iloadn (pc := 13) dX0_allOf_13 rfl ?_
  refine e_cvD (pc := 14) (sp_x_of hL) dX0_allOf_14 kX0_26 rfl rfl rfl rfl rfl (mc_CR_of (Nat.le_of_ble_eq_true rfl) (Nat.le_of_ble_eq_true rfl) (Nat.le_refl _) (Nat.le_refl _)) (Nat.le_of_ble_eq_true rfl) ?_
  refine e_iadd (pc := 17) dX0_allOf_17 ?_
  refine e_isn2 (pc := 18) dX0_allOf_18 (Nat.le_of_ble_eq_true rfl) rfl ?_
  refine e_incC3 (pc := 19) (v := 4) dX0_allOf_19 (by decide) (Nat.le_of_ble_eq_true rfl) rfl ?_
  refine e_goto (pc := 22) dX0_allOf_22 (t := 4) (by decide) ?_
  refine e_iloadn (pc := 4) dX0_allOf_4 rfl ?_
  refine e_bipush (v := 6) (pc := 5) dX0_allOf_5 (by decide) ?_
  refine e_icmp_ge (pc := 7) dX0_allOf_7 (t := 25) (by decide) (fun c_7 => absurd c_7 (by decide)) (fun _ => ?_)
  refine e_iloadn (pc := 10) dX0_allOf_10 rfl ?_
  refine e_aloadn (pc := 11) dX0_allOf_11 rfl ?_
  refine e_iloadn (pc := 12) dX0_allOf_12 rfl ?_
  refine e_iloadn (pc := 13) dX0_allOf_13 rfl ?_
  refine e_cvD (pc := 14) (sp_x_of hL) dX0_allOf_14 kX0_26 rfl rfl rfl rfl rfl (mc_CR_of (Nat.le_of_ble_eq_true rfl) (Nat.le_of_ble_eq_true rfl) (Nat.le_refl _) (Nat.le_refl _)) (Nat.le_of_ble_eq_true rfl) ?_
  refine e_iadd (pc := 17) dX0_allOf_17 ?_
  refine e_isn2 (pc := 18) dX0_allOf_18 (Nat.le_of_ble_eq_true rfl) rfl ?_
  refine e_incC3 (pc := 19) (v := 5) dX0_allOf_19 (by decide) (Nat.le_of_ble_eq_true rfl) rfl ?_
  refine e_goto (pc := 22) dX0_allOf_22 (t := 4) (by decide) ?_
  refine e_iloadn (pc := 4) dX0_allOf_4 rfl ?_
  refine e_bipush (v := 6) (pc := 5) dX0_allOf_5 (by decide) ?_
  refine e_icmp_ge (pc := 7) dX0_allOf_7 (t := 25) (by decide) (fun c_7 => absurd c_7 (by decide)) (fun _ => ?_)
  refine e_iloadn (pc := 10) dX0_allOf_10 rfl ?_
  refine e_aloadn (pc := 11) dX0_allOf_11 rfl ?_
  refine e_iloadn (pc := 12) dX0_allOf_12 rfl ?_
  refine e_iloadn (pc := 13) dX0_allOf_13 rfl ?_
  refine e_cvD (pc := 14) (sp_x_of hL) dX0_allOf_14 kX0_26 rfl rfl rfl rfl rfl (mc_CR_of (Nat.le_of_ble_eq_true rfl) (Nat.le_of_ble_eq_true rfl) (Nat.le_refl _) (Nat.le_refl _)) (Nat.le_of_ble_eq_true rfl) ?_
  refine e_iadd (pc := 17) dX0_allOf_17 ?_
  refine e_isn2 (pc := 18) dX0_allOf_18 (Nat.le_of_ble_eq_true rfl) rfl ?_
  refine e_incC3 (pc := 19) (v := 6) dX0_allOf_19 (by decide) (Nat.le_of_ble_eq_true rfl) rfl ?_
  refine e_goto (pc := 22) dX0_allOf_22 (t := 4) (by decide) ?_
  refine e_iloadn (pc := 4) dX0_allOf_4 rfl ?_
  refine e_bipush (v := 6) (pc := 5) dX0_allOf_5 (by decide) ?_
  refine e_icmp_ge (pc := 7) dX0_allOf_7 (t := 25) (by decide) (fun _ => ?_) (fun c_7 => absurd (by decide) c_7)
  refine e_iloadn (pc := 25) dX0_allOf_25 rfl ?_
  exact e_iret (pc := 26) dX0_allOf_26 rfl (Nat.le_refl _) (Nat.le_refl _) ⟨rfl, rfl⟩
theorem sp_x_lend {s u m n : Nat → Int32} {a c b d : Nat → List Int32} {q : List (Option Nat)} {h : Nat} {z : mc_W} {f g mu : Int32} (hL : (a 3).length = 36) : mc_D yX6_lend cX6_lend 5 (some .int) 5 [.ref 0, .int f, .int g, .int mu] (WW s a q u c h m b n d z) (some (.int (if yy_fo f g = false then -5 else if mc_wi mu 0 9999 = false then -7 else gt (a 3) (6 * f + g)))) (WW s (if yy_fo f g = true ∧ mc_wi mu 0 9999 = true then mc_up a 3 ((a 3).set (6 * f + g).toNatClampNeg mu) else a) q u c h m b n d z) := by
  refine mc_start (own := RX6) (ini := false) rfl (by decide +kernel) (fun h => by cases h) (Nat.le_of_ble_eq_true rfl) ?_
  show mc_E _ _ _ _ _ [some (.ref 0), some (.int f), some (.int g), some (.int mu), none] [] _ _ _
  refine e_iloadn (pc := 0) dX6_lend_0 rfl ?_
  refine e_iloadn (pc := 1) dX6_lend_1 rfl ?_
  refine e_csD (pc := 2) (sp_areTwoFolk) dX6_lend_2 kX6_231 rfl rfl (mc_CR_of (Nat.le_of_ble_eq_true rfl) (Nat.le_of_ble_eq_true rfl) (Nat.le_refl _) (Nat.le_refl _)) (Nat.le_of_ble_eq_true rfl) ?_
  refine e_if_ne (pc := 5) dX6_lend_5 (t := 11) (by decide) (fun c_5 => ?_) (fun c_5 => ?_)
  · skip
    refine e_iloadn (pc := 11) dX6_lend_11 rfl ?_
    refine e_iconst (v := 0) (pc := 12) dX6_lend_12 (by decide) ?_
    refine e_sipush (v := 9999) (pc := 13) dX6_lend_13 (by decide) ?_
    refine e_csD (pc := 16) (sp_isWithin) dX6_lend_16 kX6_86 rfl rfl (mc_CR_of (Nat.le_of_ble_eq_true rfl) (Nat.le_of_ble_eq_true rfl) (Nat.le_refl _) (Nat.le_refl _)) (Nat.le_of_ble_eq_true rfl) ?_
    refine e_if_ne (pc := 19) dX6_lend_19 (t := 25) (by decide) (fun c_19 => ?_) (fun c_19 => ?_)
    · skip
      refine e_aloadn (pc := 25) dX6_lend_25 rfl ?_
      refine e_get (pc := 26) dX6_lend_26 fX6_55 rfl rfl ?_
      refine e_iloadn (pc := 29) dX6_lend_29 rfl ?_
      refine e_iloadn (pc := 30) dX6_lend_30 rfl ?_
      refine e_cvD (pc := 31) (sp_x_of hL) dX6_lend_31 kX6_235 rfl rfl rfl rfl rfl (mc_CR_of (Nat.le_of_ble_eq_true rfl) (Nat.le_of_ble_eq_true rfl) (Nat.le_refl _) (Nat.le_refl _)) (Nat.le_of_ble_eq_true rfl) ?_
      refine e_isw4 (pc := 34) dX6_lend_34 (Nat.le_of_ble_eq_true rfl) rfl ?_
      refine e_aloadn (pc := 36) dX6_lend_36 rfl ?_
      refine e_get (pc := 37) dX6_lend_37 fX6_55 rfl rfl ?_
      refine e_iloadn (pc := 40) dX6_lend_40 rfl ?_
      refine e_iloadn (pc := 41) dX6_lend_41 rfl ?_
      refine e_iloadn (pc := 42) dX6_lend_42 rfl ?_
      refine e_cvU (pc := 43) (sp_x_become hL) dX6_lend_43 kX6_238 rfl rfl rfl rfl rfl (mc_CR_of (Nat.le_of_ble_eq_true rfl) (Nat.le_of_ble_eq_true rfl) (Nat.le_refl _) (Nat.le_refl _)) (Nat.le_of_ble_eq_true rfl) ?_
      refine e_iload (pc := 46) dX6_lend_46 rfl ?_
      exact e_iret (pc := 48) dX6_lend_48 rfl (Nat.le_refl _) (Nat.le_refl _) ⟨by simp_all [xof_fo, mc_b0, mc_b1], by simp_all [xbe, mc_b0, mc_b1]⟩
    · skip
      refine e_bipush (v := -7) (pc := 22) dX6_lend_22 (by decide) ?_
      exact e_iret (pc := 24) dX6_lend_24 rfl (Nat.le_refl _) (Nat.le_refl _) ⟨by simp_all [xof_fo, mc_b0, mc_b1], by simp_all [xbe, mc_b0, mc_b1]⟩
  · skip
    refine e_bipush (v := -5) (pc := 8) dX6_lend_8 (by decide) ?_
    exact e_iret (pc := 10) dX6_lend_10 rfl (Nat.le_refl _) (Nat.le_refl _) ⟨by simp_all [xof_fo, mc_b0, mc_b1], by simp_all [xbe, mc_b0, mc_b1]⟩
theorem sp_x_debt {s u m n : Nat → Int32} {a c b d : Nat → List Int32} {q : List (Option Nat)} {h : Nat} {z : mc_W} {f g : Int32} (hL : (a 3).length = 36) : mc_D yX6_debt cX6_debt 3 (some .int) 4 [.ref 0, .int f, .int g] (WW s a q u c h m b n d z) (some (.int (if yy_fo f g = true then gt (a 3) (6 * f + g) else -5))) (WW s a q u c h m b n d z) := by
  refine mc_start (own := RX6) (ini := false) rfl (by decide +kernel) (fun h => by cases h) (Nat.le_of_ble_eq_true rfl) ?_
  show mc_E _ _ _ _ _ [some (.ref 0), some (.int f), some (.int g)] [] _ _ _
  refine e_iloadn (pc := 0) dX6_debt_0 rfl ?_
  refine e_iloadn (pc := 1) dX6_debt_1 rfl ?_
  refine e_csD (pc := 2) (sp_areTwoFolk) dX6_debt_2 kX6_231 rfl rfl (mc_CR_of (Nat.le_of_ble_eq_true rfl) (Nat.le_of_ble_eq_true rfl) (Nat.le_refl _) (Nat.le_refl _)) (Nat.le_of_ble_eq_true rfl) ?_
  refine e_if_eq (pc := 5) dX6_debt_5 (t := 20) (by decide) (fun c_5 => ?_) (fun c_5 => ?_)
  · skip
    refine e_bipush (v := -5) (pc := 20) dX6_debt_20 (by decide) ?_
    exact e_iret (pc := 22) dX6_debt_22 rfl (Nat.le_refl _) (Nat.le_refl _) ⟨by simp_all [xof_fo, mc_b0, mc_b1], rfl⟩
  · skip
    refine e_aloadn (pc := 8) dX6_debt_8 rfl ?_
    refine e_get (pc := 9) dX6_debt_9 fX6_55 rfl rfl ?_
    refine e_iloadn (pc := 12) dX6_debt_12 rfl ?_
    refine e_iloadn (pc := 13) dX6_debt_13 rfl ?_
    refine e_cvD (pc := 14) (sp_x_of hL) dX6_debt_14 kX6_235 rfl rfl rfl rfl rfl (mc_CR_of (Nat.le_of_ble_eq_true rfl) (Nat.le_of_ble_eq_true rfl) (Nat.le_refl _) (Nat.le_refl _)) (Nat.le_of_ble_eq_true rfl) ?_
    refine e_goto (pc := 17) dX6_debt_17 (t := 22) (by decide) ?_
    exact e_iret (pc := 22) dX6_debt_22 rfl (Nat.le_refl _) (Nat.le_refl _) ⟨by simp_all [xof_fo, mc_b0, mc_b1], rfl⟩
/-- who owes whom at once, from f -/
def xr1 (o : List Int32) (f : Nat) : Nat → Nat → List Int32 → List Int32
  | 0, _, r => r
  | k + 1, g, r => xr1 o f k (g + 1) (r.set f (r.getD f 0 ||| (if 0 < xof o (nI f) (nI g) then (1 : Int32) <<< (nI g &&& 31) else 0)))
def xr2 (o : List Int32) : Nat → Nat → List Int32 → List Int32
  | 0, _, r => r
  | k + 1, f, r => xr2 o k (f + 1) (xr1 o f 6 0 (r.set f 0))
def xr3 (y : Nat) : Nat → Nat → List Int32 → List Int32
  | 0, _, r => r
  | k + 1, f, r => xr3 y k (f + 1) (r.set f (r.getD f 0 ||| (if (r.getD f 0 >>> (nI y &&& 31)) &&& 1 = 1 then r.getD y 0 else 0)))
def xr4 : Nat → Nat → List Int32 → List Int32
  | 0, _, r => r
  | k + 1, y, r => xr4 k (y + 1) (xr3 y 6 0 r)
def xr5 (r : List Int32) : Nat → Nat → Int32 → Int32
  | 0, _, S => S
  | k + 1, f, S => xr5 r k (f + 1) (S ||| (r.getD f 0 &&& ((1 : Int32) <<< (nI f &&& 31))))
theorem xr1_len (o : List Int32) (f : Nat) : ∀ k g r, (xr1 o f k g r).length = r.length := by
  intro k; induction k with
  | zero => intro g r; rfl
  | succ k ih => intro g r; show (xr1 o f k (g + 1) _).length = _; rw [ih]; simp
theorem xr2_len (o : List Int32) : ∀ k f r, (xr2 o k f r).length = r.length := by
  intro k; induction k with
  | zero => intro f r; rfl
  | succ k ih => intro f r; show (xr2 o k (f + 1) _).length = _; rw [ih, xr1_len]; simp
theorem xr3_len (y : Nat) : ∀ k f r, (xr3 y k f r).length = r.length := by
  intro k; induction k with
  | zero => intro f r; rfl
  | succ k ih => intro f r; show (xr3 y k (f + 1) _).length = _; rw [ih]; simp
theorem xr4_len : ∀ k y r, (xr4 k y r).length = r.length := by
  intro k; induction k with
  | zero => intro y r; rfl
  | succ k ih => intro y r; show (xr4 k (y + 1) _).length = _; rw [ih, xr3_len]
def xreach (o r : List Int32) : List Int32 := xr4 6 0 (xr2 o 6 0 r)
def xrings (o r : List Int32) : Int32 := xr5 (xreach o r) 6 0 0
theorem xreach_len (o r : List Int32) : (xreach o r).length = r.length := by unfold xreach; rw [xr4_len, xr2_len]
theorem up_up {α : Type} {f : Nat → α} {k : Nat} {x y : α} : mc_up (mc_up f k x) k y = mc_up f k y := by
  funext j; unfold mc_up; by_cases h : j = k <;> simp [h]
theorem up_at {α : Type} {f : Nat → α} {k : Nat} {x : α} : mc_up f k x k = x := by unfold mc_up; rw [if_pos rfl]
theorem rch {c : Nat → List Int32} {R : List Int32} {f : Nat} (hf : f < 6) : ((mc_up c 1 R) 1).getD (nI f).toNatClampNeg 0 = R.getD f 0 := by rw [up_at, nIc (by omega)]
theorem rst {c : Nat → List Int32} {R : List Int32} {f : Nat} {x : Int32} (hf : f < 6) : mc_up (mc_up c 1 R) 1 (((mc_up c 1 R) 1).set (nI f).toNatClampNeg x) = mc_up c 1 (R.set f x) := by rw [up_up, up_at, nIc (by omega)]
theorem rin {c : Nat → List Int32} {R : List Int32} {f : Nat} (hR : R.length = 6) (hf : f < 6) : vp_in (nI f) ((mc_up c 1 R) 1).length := by rw [up_at, hR]; exact vp_in_nI hf (by decide)
theorem lp_x_rb1 {s u m n : Nat → Int32} {a c b d : Nat → List Int32} {q : List (Option Nat)} {h : Nat} {z : mc_W} {Post : Option Value → mc_W → Prop} {f : Nat} {V : List Int32} (hL : (a 3).length = 36) (hf : f < 6)
    (hK : mc_E RX0 cX0_ringBits 3 (mc_JM (some .int) false 4 0 0 Post) 54 [some (.ref 10), some (.int (nI f)), some (.int (nI 6))] [] (WW s a q u (mc_up c 1 V) h m b n d z) 0 0) :
    ∀ (g i : Nat) (R : List Int32), R.length = 6 → i + g = 6 → xr1 (a 3) f g i R = V →
      mc_E RX0 cX0_ringBits 3 (mc_JM (some .int) false 4 0 0 Post) 17 [some (.ref 10), some (.int (nI f)), some (.int (nI i))] [] (WW s a q u (mc_up c 1 R) h m b n d z) 0 0 := by
  intro g
  induction g with
  | zero =>
    intro i R hR hi hV
    have e : i = 6 := by omega
    subst e
    simp only [xr1] at hV
    subst hV
    refine e_iloadn (pc := 17) dX0_ringBits_17 rfl ?_
    refine e_bipush (v := 6) (pc := 18) dX0_ringBits_18 (by decide) ?_
    refine e_icmp_ge (pc := 20) dX0_ringBits_20 (t := 54) (by decide) (fun _ => ?_) (fun c_20 => absurd (by decide) c_20)
    exact hK
  | succ g ih =>
    intro i R hR hi hV
    simp only [xr1] at hV
    have hi1 : i < 6 := by omega
    refine e_iloadn (pc := 17) dX0_ringBits_17 rfl ?_
    refine e_bipush (v := 6) (pc := 18) dX0_ringBits_18 (by decide) ?_
    refine e_icmp_ge (pc := 20) dX0_ringBits_20 (t := 54) (by decide) (fun c_20 => absurd c_20 (nI_ge (by omega : i < 6) (by decide))) (fun _ => ?_)
    refine e_aloadn (pc := 23) dX0_ringBits_23 rfl ?_
    refine e_get (pc := 24) dX0_ringBits_24 fX0_15 rfl rfl ?_
    refine e_iloadn (pc := 27) dX0_ringBits_27 rfl ?_
    refine e_dup2 (pc := 28) dX0_ringBits_28 rfl rfl ?_
    refine aldv_reach (pc := 29) dX0_ringBits_29 (rin hR hf) (rch hf) ?_
    refine e_aloadn (pc := 30) dX0_ringBits_30 rfl ?_
    refine e_iloadn (pc := 31) dX0_ringBits_31 rfl ?_
    refine e_iloadn (pc := 32) dX0_ringBits_32 rfl ?_
    refine e_cvD (pc := 33) (sp_x_of hL) dX0_ringBits_33 kX0_26 rfl rfl rfl rfl rfl (mc_CR_of (Nat.le_of_ble_eq_true rfl) (Nat.le_of_ble_eq_true rfl) (Nat.le_refl _) (Nat.le_refl _)) (Nat.le_of_ble_eq_true rfl) ?_
    refine e_if_le (pc := 36) dX0_ringBits_36 (t := 45) (by decide) (fun c_36 => ?_) (fun c_36 => ?_)
    · skip
      refine e_iconst (v := 0) (pc := 45) dX0_ringBits_45 (by decide) ?_
      refine e_ior (pc := 46) dX0_ringBits_46 ?_
      refine ast_reach (pc := 47) dX0_ringBits_47 (rin hR hf) ?_
      rw [rst hf]
      refine e_incC2 (pc := 48) dX0_ringBits_48 (nI_1 i) (Nat.le_of_ble_eq_true rfl) rfl ?_
      refine e_goto (pc := 51) dX0_ringBits_51 (t := 17) (by decide) ?_
      exact ih (i + 1) _ (by rw [List.length_set]; exact hR) (by omega) (by rw [← hV, if_neg (Int32.not_lt.mpr c_36)])
    · skip
      refine e_iconst (v := 1) (pc := 39) dX0_ringBits_39 (by decide) ?_
      refine e_iloadn (pc := 40) dX0_ringBits_40 rfl ?_
      refine e_ishl (pc := 41) dX0_ringBits_41 ?_
      refine e_goto (pc := 42) dX0_ringBits_42 (t := 46) (by decide) ?_
      refine e_ior (pc := 46) dX0_ringBits_46 ?_
      refine ast_reach (pc := 47) dX0_ringBits_47 (rin hR hf) ?_
      rw [rst hf]
      refine e_incC2 (pc := 48) dX0_ringBits_48 (nI_1 i) (Nat.le_of_ble_eq_true rfl) rfl ?_
      refine e_goto (pc := 51) dX0_ringBits_51 (t := 17) (by decide) ?_
      exact ih (i + 1) _ (by rw [List.length_set]; exact hR) (by omega) (by rw [← hV, if_pos (Int32.not_le.mp c_36)])
theorem lp_x_rb2 {s u m n : Nat → Int32} {a c b d : Nat → List Int32} {q : List (Option Nat)} {h : Nat} {z : mc_W} {Post : Option Value → mc_W → Prop} {V : List Int32} (hL : (a 3).length = 36)
    (hK : ∀ x2, mc_E RX0 cX0_ringBits 3 (mc_JM (some .int) false 4 0 0 Post) 60 [some (.ref 10), some (.int (nI 6)), x2] [] (WW s a q u (mc_up c 1 V) h m b n d z) 0 0) :
    ∀ (g i : Nat) (R : List Int32) (x2 : Option Value), R.length = 6 → i + g = 6 → xr2 (a 3) g i R = V →
      mc_E RX0 cX0_ringBits 3 (mc_JM (some .int) false 4 0 0 Post) 2 [some (.ref 10), some (.int (nI i)), x2] [] (WW s a q u (mc_up c 1 R) h m b n d z) 0 0 := by
  intro g
  induction g with
  | zero =>
    intro i R x2 hR hi hV
    have e : i = 6 := by omega
    subst e
    simp only [xr2] at hV
    subst hV
    refine e_iloadn (pc := 2) dX0_ringBits_2 rfl ?_
    refine e_bipush (v := 6) (pc := 3) dX0_ringBits_3 (by decide) ?_
    refine e_icmp_ge (pc := 5) dX0_ringBits_5 (t := 60) (by decide) (fun _ => ?_) (fun c_5 => absurd (by decide) c_5)
    exact hK _
  | succ g ih =>
    intro i R x2 hR hi hV
    simp only [xr2] at hV
    have hi1 : i < 6 := by omega
    have MID : mc_E RX0 cX0_ringBits 3 (mc_JM (some .int) false 4 0 0 Post) 54 [some (.ref 10), some (.int (nI i)), some (.int (nI 6))] [] (WW s a q u (mc_up c 1 (xr1 (a 3) i 6 0 (R.set i 0))) h m b n d z) 0 0 := by
          refine e_incC1 (pc := 54) dX0_ringBits_54 (nI_1 i) (Nat.le_of_ble_eq_true rfl) rfl ?_
          refine e_goto (pc := 57) dX0_ringBits_57 (t := 2) (by decide) ?_
          exact ih (i + 1) _ _ (by rw [xr1_len, List.length_set]; exact hR) (by omega) hV
    refine e_iloadn (pc := 2) dX0_ringBits_2 rfl ?_
    refine e_bipush (v := 6) (pc := 3) dX0_ringBits_3 (by decide) ?_
    refine e_icmp_ge (pc := 5) dX0_ringBits_5 (t := 60) (by decide) (fun c_5 => absurd c_5 (nI_ge (by omega : i < 6) (by decide))) (fun _ => ?_)
    refine e_aloadn (pc := 8) dX0_ringBits_8 rfl ?_
    refine e_get (pc := 9) dX0_ringBits_9 fX0_15 rfl rfl ?_
    refine e_iloadn (pc := 12) dX0_ringBits_12 rfl ?_
    refine e_iconst (v := 0) (pc := 13) dX0_ringBits_13 (by decide) ?_
    refine ast_reach (pc := 14) dX0_ringBits_14 (rin hR hi1) ?_
    rw [rst hi1]
    refine e_iconst (v := 0) (pc := 15) dX0_ringBits_15 (by decide) ?_
    refine e_isn2 (pc := 16) dX0_ringBits_16 (Nat.le_of_ble_eq_true rfl) rfl ?_
    exact lp_x_rb1 hL hi1 MID 6 0 _ (by rw [List.length_set]; exact hR) (by omega) rfl
theorem lp_x_rb3 {s u m n : Nat → Int32} {a c b d : Nat → List Int32} {q : List (Option Nat)} {h : Nat} {z : mc_W} {Post : Option Value → mc_W → Prop} {y : Nat} {V : List Int32} (hy : y < 6)
    (hK : mc_E RX0 cX0_ringBits 3 (mc_JM (some .int) false 4 0 0 Post) 115 [some (.ref 10), some (.int (nI y)), some (.int (nI 6))] [] (WW s a q u (mc_up c 1 V) h m b n d z) 0 0) :
    ∀ (g i : Nat) (R : List Int32), R.length = 6 → i + g = 6 → xr3 y g i R = V →
      mc_E RX0 cX0_ringBits 3 (mc_JM (some .int) false 4 0 0 Post) 70 [some (.ref 10), some (.int (nI y)), some (.int (nI i))] [] (WW s a q u (mc_up c 1 R) h m b n d z) 0 0 := by
  intro g
  induction g with
  | zero =>
    intro i R hR hi hV
    have e : i = 6 := by omega
    subst e
    simp only [xr3] at hV
    subst hV
    refine e_iloadn (pc := 70) dX0_ringBits_70 rfl ?_
    refine e_bipush (v := 6) (pc := 71) dX0_ringBits_71 (by decide) ?_
    refine e_icmp_ge (pc := 73) dX0_ringBits_73 (t := 115) (by decide) (fun _ => ?_) (fun c_73 => absurd (by decide) c_73)
    exact hK
  | succ g ih =>
    intro i R hR hi hV
    simp only [xr3] at hV
    have hi1 : i < 6 := by omega
    refine e_iloadn (pc := 70) dX0_ringBits_70 rfl ?_
    refine e_bipush (v := 6) (pc := 71) dX0_ringBits_71 (by decide) ?_
    refine e_icmp_ge (pc := 73) dX0_ringBits_73 (t := 115) (by decide) (fun c_73 => absurd c_73 (nI_ge (by omega : i < 6) (by decide))) (fun _ => ?_)
    refine e_aloadn (pc := 76) dX0_ringBits_76 rfl ?_
    refine e_get (pc := 77) dX0_ringBits_77 fX0_15 rfl rfl ?_
    refine e_iloadn (pc := 80) dX0_ringBits_80 rfl ?_
    refine e_dup2 (pc := 81) dX0_ringBits_81 rfl rfl ?_
    refine aldv_reach (pc := 82) dX0_ringBits_82 (rin hR hi1) (rch hi1) ?_
    refine e_aloadn (pc := 83) dX0_ringBits_83 rfl ?_
    refine e_get (pc := 84) dX0_ringBits_84 fX0_15 rfl rfl ?_
    refine e_iloadn (pc := 87) dX0_ringBits_87 rfl ?_
    refine aldv_reach (pc := 88) dX0_ringBits_88 (rin hR hi1) (rch hi1) ?_
    refine e_iloadn (pc := 89) dX0_ringBits_89 rfl ?_
    refine e_ishr (pc := 90) dX0_ringBits_90 ?_
    refine e_iconst (v := 1) (pc := 91) dX0_ringBits_91 (by decide) ?_
    refine e_iand (pc := 92) dX0_ringBits_92 ?_
    refine e_iconst (v := 1) (pc := 93) dX0_ringBits_93 (by decide) ?_
    refine e_icmp_ne (pc := 94) dX0_ringBits_94 (t := 106) (by decide) (fun c_94 => ?_) (fun c_94 => ?_)
    · skip
      refine e_iconst (v := 0) (pc := 106) dX0_ringBits_106 (by decide) ?_
      refine e_ior (pc := 107) dX0_ringBits_107 ?_
      refine ast_reach (pc := 108) dX0_ringBits_108 (rin hR hi1) ?_
      rw [rst hi1]
      refine e_incC2 (pc := 109) dX0_ringBits_109 (nI_1 i) (Nat.le_of_ble_eq_true rfl) rfl ?_
      refine e_goto (pc := 112) dX0_ringBits_112 (t := 70) (by decide) ?_
      exact ih (i + 1) _ (by rw [List.length_set]; exact hR) (by omega) (by rw [← hV, if_neg c_94])
    · skip
      refine e_aloadn (pc := 97) dX0_ringBits_97 rfl ?_
      refine e_get (pc := 98) dX0_ringBits_98 fX0_15 rfl rfl ?_
      refine e_iloadn (pc := 101) dX0_ringBits_101 rfl ?_
      refine aldv_reach (pc := 102) dX0_ringBits_102 (rin hR hy) (rch hy) ?_
      refine e_goto (pc := 103) dX0_ringBits_103 (t := 107) (by decide) ?_
      refine e_ior (pc := 107) dX0_ringBits_107 ?_
      refine ast_reach (pc := 108) dX0_ringBits_108 (rin hR hi1) ?_
      rw [rst hi1]
      refine e_incC2 (pc := 109) dX0_ringBits_109 (nI_1 i) (Nat.le_of_ble_eq_true rfl) rfl ?_
      refine e_goto (pc := 112) dX0_ringBits_112 (t := 70) (by decide) ?_
      exact ih (i + 1) _ (by rw [List.length_set]; exact hR) (by omega) (by rw [← hV, if_pos c_94])
theorem lp_x_rb4 {s u m n : Nat → Int32} {a c b d : Nat → List Int32} {q : List (Option Nat)} {h : Nat} {z : mc_W} {Post : Option Value → mc_W → Prop} {V : List Int32} 
    (hK : ∀ x2, mc_E RX0 cX0_ringBits 3 (mc_JM (some .int) false 4 0 0 Post) 121 [some (.ref 10), some (.int (nI 6)), x2] [] (WW s a q u (mc_up c 1 V) h m b n d z) 0 0) :
    ∀ (g i : Nat) (R : List Int32) (x2 : Option Value), R.length = 6 → i + g = 6 → xr4 g i R = V →
      mc_E RX0 cX0_ringBits 3 (mc_JM (some .int) false 4 0 0 Post) 62 [some (.ref 10), some (.int (nI i)), x2] [] (WW s a q u (mc_up c 1 R) h m b n d z) 0 0 := by
  intro g
  induction g with
  | zero =>
    intro i R x2 hR hi hV
    have e : i = 6 := by omega
    subst e
    simp only [xr4] at hV
    subst hV
    refine e_iloadn (pc := 62) dX0_ringBits_62 rfl ?_
    refine e_bipush (v := 6) (pc := 63) dX0_ringBits_63 (by decide) ?_
    refine e_icmp_ge (pc := 65) dX0_ringBits_65 (t := 121) (by decide) (fun _ => ?_) (fun c_65 => absurd (by decide) c_65)
    exact hK _
  | succ g ih =>
    intro i R x2 hR hi hV
    simp only [xr4] at hV
    have hi1 : i < 6 := by omega
    have MID : mc_E RX0 cX0_ringBits 3 (mc_JM (some .int) false 4 0 0 Post) 115 [some (.ref 10), some (.int (nI i)), some (.int (nI 6))] [] (WW s a q u (mc_up c 1 (xr3 i 6 0 R)) h m b n d z) 0 0 := by
          refine e_incC1 (pc := 115) dX0_ringBits_115 (nI_1 i) (Nat.le_of_ble_eq_true rfl) rfl ?_
          refine e_goto (pc := 118) dX0_ringBits_118 (t := 62) (by decide) ?_
          exact ih (i + 1) _ _ (by rw [xr3_len]; exact hR) (by omega) hV
    refine e_iloadn (pc := 62) dX0_ringBits_62 rfl ?_
    refine e_bipush (v := 6) (pc := 63) dX0_ringBits_63 (by decide) ?_
    refine e_icmp_ge (pc := 65) dX0_ringBits_65 (t := 121) (by decide) (fun c_65 => absurd c_65 (nI_ge (by omega : i < 6) (by decide))) (fun _ => ?_)
    refine e_iconst (v := 0) (pc := 68) dX0_ringBits_68 (by decide) ?_
    refine e_isn2 (pc := 69) dX0_ringBits_69 (Nat.le_of_ble_eq_true rfl) rfl ?_
    exact lp_x_rb3 hi1 MID 6 0 _ hR (by omega) rfl
theorem lp_x_rb5 {s u m n : Nat → Int32} {a c b d : Nat → List Int32} {q : List (Option Nat)} {h : Nat} {z : mc_W} {Post : Option Value → mc_W → Prop} {V : Int32} {R : List Int32} (hR : R.length = 6)
    (hK : mc_E RX0 cX0_ringBits 3 (mc_JM (some .int) false 4 0 0 Post) 150 [some (.ref 10), some (.int V), some (.int (nI 6))] [] (WW s a q u (mc_up c 1 R) h m b n d z) 0 0) :
    ∀ (g i : Nat) (S : Int32), i + g = 6 → xr5 R g i S = V →
      mc_E RX0 cX0_ringBits 3 (mc_JM (some .int) false 4 0 0 Post) 125 [some (.ref 10), some (.int S), some (.int (nI i))] [] (WW s a q u (mc_up c 1 R) h m b n d z) 0 0 := by
  intro g
  induction g with
  | zero =>
    intro i S hi hV
    have e : i = 6 := by omega
    subst e
    simp only [xr5] at hV
    subst hV
    refine e_iloadn (pc := 125) dX0_ringBits_125 rfl ?_
    refine e_bipush (v := 6) (pc := 126) dX0_ringBits_126 (by decide) ?_
    refine e_icmp_ge (pc := 128) dX0_ringBits_128 (t := 150) (by decide) (fun _ => ?_) (fun c_128 => absurd (by decide) c_128)
    exact hK
  | succ g ih =>
    intro i S hi hV
    simp only [xr5] at hV
    have hi1 : i < 6 := by omega
    refine e_iloadn (pc := 125) dX0_ringBits_125 rfl ?_
    refine e_bipush (v := 6) (pc := 126) dX0_ringBits_126 (by decide) ?_
    refine e_icmp_ge (pc := 128) dX0_ringBits_128 (t := 150) (by decide) (fun c_128 => absurd c_128 (nI_ge (by omega : i < 6) (by decide))) (fun _ => ?_)
    refine e_iloadn (pc := 131) dX0_ringBits_131 rfl ?_
    refine e_aloadn (pc := 132) dX0_ringBits_132 rfl ?_
    refine e_get (pc := 133) dX0_ringBits_133 fX0_15 rfl rfl ?_
    refine e_iloadn (pc := 136) dX0_ringBits_136 rfl ?_
    refine aldv_reach (pc := 137) dX0_ringBits_137 (rin hR hi1) (rch hi1) ?_
    refine e_iconst (v := 1) (pc := 138) dX0_ringBits_138 (by decide) ?_
    refine e_iloadn (pc := 139) dX0_ringBits_139 rfl ?_
    refine e_ishl (pc := 140) dX0_ringBits_140 ?_
    refine e_iand (pc := 141) dX0_ringBits_141 ?_
    refine e_ior (pc := 142) dX0_ringBits_142 ?_
    refine e_isn1 (pc := 143) dX0_ringBits_143 (Nat.le_of_ble_eq_true rfl) rfl ?_
    refine e_incC2 (pc := 144) dX0_ringBits_144 (nI_1 i) (Nat.le_of_ble_eq_true rfl) rfl ?_
    refine e_goto (pc := 147) dX0_ringBits_147 (t := 125) (by decide) ?_
    exact ih (i + 1) _ (by omega) hV
theorem sp_x_ringBits {s u m n : Nat → Int32} {a c b d : Nat → List Int32} {q : List (Option Nat)} {h : Nat} {z : mc_W} (hL : (a 3).length = 36) (hR : (c 1).length = 6) : mc_D yX0_ringBits cX0_ringBits 3 (some .int) 4 [.ref 10] (WW s a q u c h m b n d z) (some (.int (xrings (a 3) (c 1)))) (WW s a q u (mc_up c 1 (xreach (a 3) (c 1))) h m b n d z) := by
  refine mc_start (own := RX0) (ini := false) rfl (by decide +kernel) (fun h => by cases h) (Nat.le_of_ble_eq_true rfl) ?_
  show mc_E _ _ _ _ _ [some (.ref 10), none, none] [] _ _ _
  have K5 : ∀ (S : Int32) (x2 : Option Value), mc_E RX0 cX0_ringBits 3 (mc_JM (some .int) false 4 0 0 (fun r' w' => r' = some (.int (xrings (a 3) (c 1))) ∧ w' = (WW s a q u (mc_up c 1 (xreach (a 3) (c 1))) h m b n d z))) 121 [some (.ref 10), some (.int (nI 6)), x2] [] (WW s a q u (mc_up c 1 (xreach (a 3) (c 1))) h m b n d z) 0 0 := by
    intro S x2
    refine e_iconst (v := 0) (pc := 121) dX0_ringBits_121 (by decide) ?_
    refine e_isn1 (pc := 122) dX0_ringBits_122 (Nat.le_of_ble_eq_true rfl) rfl ?_
    refine e_iconst (v := 0) (pc := 123) dX0_ringBits_123 (by decide) ?_
    refine e_isn2 (pc := 124) dX0_ringBits_124 (Nat.le_of_ble_eq_true rfl) rfl ?_
    refine lp_x_rb5 (R := xreach (a 3) (c 1)) (by rw [xreach_len]; exact hR) ?_ 6 0 0 (by omega) rfl
    refine e_iloadn (pc := 150) dX0_ringBits_150 rfl ?_
    exact e_iret (pc := 151) dX0_ringBits_151 rfl (Nat.le_refl _) (Nat.le_refl _) ⟨rfl, rfl⟩
  have K4 : ∀ (x2 : Option Value), mc_E RX0 cX0_ringBits 3 (mc_JM (some .int) false 4 0 0 (fun r' w' => r' = some (.int (xrings (a 3) (c 1))) ∧ w' = (WW s a q u (mc_up c 1 (xreach (a 3) (c 1))) h m b n d z))) 60 [some (.ref 10), some (.int (nI 6)), x2] [] (WW s a q u (mc_up c 1 (xr2 (a 3) 6 0 (c 1))) h m b n d z) 0 0 := by
    intro x2
    refine e_iconst (v := 0) (pc := 60) dX0_ringBits_60 (by decide) ?_
    refine e_isn1 (pc := 61) dX0_ringBits_61 (Nat.le_of_ble_eq_true rfl) rfl ?_
    exact lp_x_rb4 (fun x2 => K5 0 x2) 6 0 _ _ (by rw [xr2_len]; exact hR) (by omega) rfl
  refine e_iconst (v := 0) (pc := 0) dX0_ringBits_0 (by decide) ?_
  refine e_isn1 (pc := 1) dX0_ringBits_1 (Nat.le_of_ble_eq_true rfl) rfl ?_
  refine e_w (w2 := (WW s a q u (mc_up c 1 (c 1)) h m b n d z)) (by rw [mc_up_self]) ?_
  exact lp_x_rb2 hL K4 6 0 _ _ hR (by omega) rfl
theorem sp_x_rings {s u m n : Nat → Int32} {a c b d : Nat → List Int32} {q : List (Option Nat)} {h : Nat} {z : mc_W} (hL : (a 3).length = 36) (hR : (c 1).length = 6) : mc_D yX6_rings cX6_rings 1 (some .int) 5 [.ref 0] (WW s a q u c h m b n d z) (some (.int (xrings (a 3) (c 1)))) (WW s a q u (mc_up c 1 (xreach (a 3) (c 1))) h m b n d z) := by
  refine mc_start (own := RX6) (ini := false) rfl (by decide +kernel) (fun h => by cases h) (Nat.le_of_ble_eq_true rfl) ?_
  show mc_E _ _ _ _ _ [some (.ref 0)] [] _ _ _
  refine e_aloadn (pc := 0) dX6_rings_0 rfl ?_
  refine e_get (pc := 1) dX6_rings_1 fX6_55 rfl rfl ?_
  refine e_cvD (pc := 4) (sp_x_ringBits hL hR) dX6_rings_4 kX6_244 rfl rfl rfl rfl rfl (mc_CR_of (Nat.le_of_ble_eq_true rfl) (Nat.le_of_ble_eq_true rfl) (Nat.le_refl _) (Nat.le_refl _)) (Nat.le_of_ble_eq_true rfl) ?_
  exact e_iret (pc := 7) dX6_rings_7 rfl (Nat.le_refl _) (Nat.le_refl _) ⟨rfl, rfl⟩
end Zj_61_x2
