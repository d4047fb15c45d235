theorem dX5_init_0 : decode cX5_init 0 = .ok (.aload_n 0, 1) := by decide +kernel
theorem dX5_init_1 : decode cX5_init 1 = .ok (.invokespecial 3, 3) := by decide +kernel
theorem dX5_init_4 : decode cX5_init 4 = .ok (.aload_n 0, 1) := by decide +kernel
theorem dX5_init_5 : decode cX5_init 5 = .ok (.aload_n 1, 1) := by decide +kernel
theorem dX5_init_6 : decode cX5_init 6 = .ok (.putfield 9, 3) := by decide +kernel
theorem dX5_init_9 : decode cX5_init 9 = .ok (.aload_n 0, 1) := by decide +kernel
theorem dX5_init_10 : decode cX5_init 10 = .ok (.iload_n 2, 1) := by decide +kernel
theorem dX5_init_11 : decode cX5_init 11 = .ok (.putfield 15, 3) := by decide +kernel
theorem dX5_init_14 : decode cX5_init 14 = .ok (.aload_n 0, 1) := by decide +kernel
theorem dX5_init_15 : decode cX5_init 15 = .ok (.iload_n 3, 1) := by decide +kernel
theorem dX5_init_16 : decode cX5_init 16 = .ok (.putfield 19, 3) := by decide +kernel
theorem dX5_init_19 : decode cX5_init 19 = .ok (.return_, 1) := by decide +kernel
theorem dX5_reckon_0 : decode cX5_reckon 0 = .ok (.iload_n 1, 1) := by decide +kernel
theorem dX5_reckon_1 : decode cX5_reckon 1 = .ok (.ifCond .ne 7, 3) := by decide +kernel
theorem dX5_reckon_4 : decode cX5_reckon 4 = .ok (.iconst 0, 1) := by decide +kernel
theorem dX5_reckon_5 : decode cX5_reckon 5 = .ok (.goto 19, 3) := by decide +kernel
theorem dX5_reckon_8 : decode cX5_reckon 8 = .ok (.iload_n 1, 1) := by decide +kernel
theorem dX5_reckon_9 : decode cX5_reckon 9 = .ok (.iconst 1, 1) := by decide +kernel
theorem dX5_reckon_10 : decode cX5_reckon 10 = .ok (.if_icmp .ne 10, 3) := by decide +kernel
theorem dX5_reckon_13 : decode cX5_reckon 13 = .ok (.aload_n 0, 1) := by decide +kernel
theorem dX5_reckon_14 : decode cX5_reckon 14 = .ok (.getfield 15, 3) := by decide +kernel
theorem dX5_reckon_17 : decode cX5_reckon 17 = .ok (.goto 7, 3) := by decide +kernel
theorem dX5_reckon_20 : decode cX5_reckon 20 = .ok (.aload_n 0, 1) := by decide +kernel
theorem dX5_reckon_21 : decode cX5_reckon 21 = .ok (.getfield 19, 3) := by decide +kernel
theorem dX5_reckon_24 : decode cX5_reckon 24 = .ok (.istore 4, 2) := by decide +kernel
theorem dX5_reckon_26 : decode cX5_reckon 26 = .ok (.iload_n 1, 1) := by decide +kernel
theorem dX5_reckon_27 : decode cX5_reckon 27 = .ok (.ifCond .ne 10, 3) := by decide +kernel
theorem dX5_reckon_30 : decode cX5_reckon 30 = .ok (.aload_n 0, 1) := by decide +kernel
theorem dX5_reckon_31 : decode cX5_reckon 31 = .ok (.getfield 15, 3) := by decide +kernel
theorem dX5_reckon_34 : decode cX5_reckon 34 = .ok (.goto 20, 3) := by decide +kernel
theorem dX5_reckon_37 : decode cX5_reckon 37 = .ok (.iload_n 1, 1) := by decide +kernel
theorem dX5_reckon_38 : decode cX5_reckon 38 = .ok (.iconst 1, 1) := by decide +kernel
theorem dX5_reckon_39 : decode cX5_reckon 39 = .ok (.if_icmp .ne 10, 3) := by decide +kernel
theorem dX5_reckon_42 : decode cX5_reckon 42 = .ok (.aload_n 0, 1) := by decide +kernel
theorem dX5_reckon_43 : decode cX5_reckon 43 = .ok (.getfield 19, 3) := by decide +kernel
theorem dX5_reckon_46 : decode cX5_reckon 46 = .ok (.goto 8, 3) := by decide +kernel
theorem dX5_reckon_49 : decode cX5_reckon 49 = .ok (.aload_n 0, 1) := by decide +kernel
theorem dX5_reckon_50 : decode cX5_reckon 50 = .ok (.getfield 9, 3) := by decide +kernel
theorem dX5_reckon_53 : decode cX5_reckon 53 = .ok (.arraylength, 1) := by decide +kernel
theorem dX5_reckon_54 : decode cX5_reckon 54 = .ok (.istore 5, 2) := by decide +kernel
theorem dX5_reckon_56 : decode cX5_reckon 56 = .ok (.iconst 0, 1) := by decide +kernel
theorem dX5_reckon_57 : decode cX5_reckon 57 = .ok (.istore 6, 2) := by decide +kernel
theorem dX5_reckon_59 : decode cX5_reckon 59 = .ok (.iconst 0, 1) := by decide +kernel
theorem dX5_reckon_60 : decode cX5_reckon 60 = .ok (.iload 4, 2) := by decide +kernel
theorem dX5_reckon_62 : decode cX5_reckon 62 = .ok (.invokestatic 22, 3) := by decide +kernel
theorem dX5_reckon_65 : decode cX5_reckon 65 = .ok (.istore 7, 2) := by decide +kernel
theorem dX5_reckon_67 : decode cX5_reckon 67 = .ok (.iload 7, 2) := by decide +kernel
theorem dX5_reckon_69 : decode cX5_reckon 69 = .ok (.iload 5, 2) := by decide +kernel
theorem dX5_reckon_71 : decode cX5_reckon 71 = .ok (.if_icmp .ge 158, 3) := by decide +kernel
theorem dX5_reckon_74 : decode cX5_reckon 74 = .ok (.iload 7, 2) := by decide +kernel
theorem dX5_reckon_76 : decode cX5_reckon 76 = .ok (.aload_n 0, 1) := by decide +kernel
theorem dX5_reckon_77 : decode cX5_reckon 77 = .ok (.getfield 9, 3) := by decide +kernel
theorem dX5_reckon_80 : decode cX5_reckon 80 = .ok (.arraylength, 1) := by decide +kernel
theorem dX5_reckon_81 : decode cX5_reckon 81 = .ok (.if_icmp .ge 148, 3) := by decide +kernel
theorem dX5_reckon_84 : decode cX5_reckon 84 = .ok (.aload_n 0, 1) := by decide +kernel
theorem dX5_reckon_85 : decode cX5_reckon 85 = .ok (.getfield 9, 3) := by decide +kernel
theorem dX5_reckon_88 : decode cX5_reckon 88 = .ok (.iload 7, 2) := by decide +kernel
theorem dX5_reckon_90 : decode cX5_reckon 90 = .ok (.iaload, 1) := by decide +kernel
theorem dX5_reckon_91 : decode cX5_reckon 91 = .ok (.istore 8, 2) := by decide +kernel
theorem dX5_reckon_93 : decode cX5_reckon 93 = .ok (.iload 8, 2) := by decide +kernel
theorem dX5_reckon_95 : decode cX5_reckon 95 = .ok (.bipush (-6), 2) := by decide +kernel
theorem dX5_reckon_97 : decode cX5_reckon 97 = .ok (.if_icmp .lt 36, 3) := by decide +kernel
theorem dX5_reckon_100 : decode cX5_reckon 100 = .ok (.iload 6, 2) := by decide +kernel
theorem dX5_reckon_102 : decode cX5_reckon 102 = .ok (.aload_n 3, 1) := by decide +kernel
theorem dX5_reckon_103 : decode cX5_reckon 103 = .ok (.arraylength, 1) := by decide +kernel
theorem dX5_reckon_104 : decode cX5_reckon 104 = .ok (.if_icmp .ge 119, 3) := by decide +kernel
theorem dX5_reckon_107 : decode cX5_reckon 107 = .ok (.aload_n 3, 1) := by decide +kernel
theorem dX5_reckon_108 : decode cX5_reckon 108 = .ok (.iload 6, 2) := by decide +kernel
theorem dX5_reckon_110 : decode cX5_reckon 110 = .ok (.iload 8, 2) := by decide +kernel
theorem dX5_reckon_112 : decode cX5_reckon 112 = .ok (.ifCond .lt 8, 3) := by decide +kernel
theorem dX5_reckon_115 : decode cX5_reckon 115 = .ok (.iload 8, 2) := by decide +kernel
theorem dX5_reckon_117 : decode cX5_reckon 117 = .ok (.goto 9, 3) := by decide +kernel
theorem dX5_reckon_120 : decode cX5_reckon 120 = .ok (.iload 8, 2) := by decide +kernel
theorem dX5_reckon_122 : decode cX5_reckon 122 = .ok (.aload_n 2, 1) := by decide +kernel
theorem dX5_reckon_123 : decode cX5_reckon 123 = .ok (.invokestatic 28, 3) := by decide +kernel
theorem dX5_reckon_126 : decode cX5_reckon 126 = .ok (.iastore, 1) := by decide +kernel
theorem dX5_reckon_127 : decode cX5_reckon 127 = .ok (.iinc 6 1, 3) := by decide +kernel
theorem dX5_reckon_130 : decode cX5_reckon 130 = .ok (.goto 93, 3) := by decide +kernel
theorem dX5_reckon_133 : decode cX5_reckon 133 = .ok (.iload 8, 2) := by decide +kernel
theorem dX5_reckon_135 : decode cX5_reckon 135 = .ok (.bipush (-13), 2) := by decide +kernel
theorem dX5_reckon_137 : decode cX5_reckon 137 = .ok (.if_icmp .eq 10, 3) := by decide +kernel
theorem dX5_reckon_140 : decode cX5_reckon 140 = .ok (.iload 8, 2) := by decide +kernel
theorem dX5_reckon_142 : decode cX5_reckon 142 = .ok (.bipush (-19), 2) := by decide +kernel
theorem dX5_reckon_144 : decode cX5_reckon 144 = .ok (.if_icmp .ne 49, 3) := by decide +kernel
theorem dX5_reckon_147 : decode cX5_reckon 147 = .ok (.iload 6, 2) := by decide +kernel
theorem dX5_reckon_149 : decode cX5_reckon 149 = .ok (.iconst 1, 1) := by decide +kernel
theorem dX5_reckon_150 : decode cX5_reckon 150 = .ok (.if_icmp .lt 73, 3) := by decide +kernel
theorem dX5_reckon_153 : decode cX5_reckon 153 = .ok (.aload_n 3, 1) := by decide +kernel
theorem dX5_reckon_154 : decode cX5_reckon 154 = .ok (.iload 6, 2) := by decide +kernel
theorem dX5_reckon_156 : decode cX5_reckon 156 = .ok (.iconst 1, 1) := by decide +kernel
theorem dX5_reckon_157 : decode cX5_reckon 157 = .ok (.isub, 1) := by decide +kernel
theorem dX5_reckon_158 : decode cX5_reckon 158 = .ok (.iaload, 1) := by decide +kernel
theorem dX5_reckon_159 : decode cX5_reckon 159 = .ok (.istore 9, 2) := by decide +kernel
theorem dX5_reckon_161 : decode cX5_reckon 161 = .ok (.aload_n 3, 1) := by decide +kernel
theorem dX5_reckon_162 : decode cX5_reckon 162 = .ok (.iload 6, 2) := by decide +kernel
theorem dX5_reckon_164 : decode cX5_reckon 164 = .ok (.iconst 1, 1) := by decide +kernel
theorem dX5_reckon_165 : decode cX5_reckon 165 = .ok (.isub, 1) := by decide +kernel
theorem dX5_reckon_166 : decode cX5_reckon 166 = .ok (.iload 8, 2) := by decide +kernel
theorem dX5_reckon_168 : decode cX5_reckon 168 = .ok (.bipush (-19), 2) := by decide +kernel
theorem dX5_reckon_170 : decode cX5_reckon 170 = .ok (.if_icmp .ne 9, 3) := by decide +kernel
theorem dX5_reckon_173 : decode cX5_reckon 173 = .ok (.iload 9, 2) := by decide +kernel
theorem dX5_reckon_175 : decode cX5_reckon 175 = .ok (.ineg, 1) := by decide +kernel
theorem dX5_reckon_176 : decode cX5_reckon 176 = .ok (.goto 13, 3) := by decide +kernel
theorem dX5_reckon_179 : decode cX5_reckon 179 = .ok (.iload 9, 2) := by decide +kernel
theorem dX5_reckon_181 : decode cX5_reckon 181 = .ok (.ifCond .ne 7, 3) := by decide +kernel
theorem dX5_reckon_184 : decode cX5_reckon 184 = .ok (.iconst 1, 1) := by decide +kernel
theorem dX5_reckon_185 : decode cX5_reckon 185 = .ok (.goto 4, 3) := by decide +kernel
theorem dX5_reckon_188 : decode cX5_reckon 188 = .ok (.iconst 0, 1) := by decide +kernel
theorem dX5_reckon_189 : decode cX5_reckon 189 = .ok (.iastore, 1) := by decide +kernel
theorem dX5_reckon_190 : decode cX5_reckon 190 = .ok (.goto 33, 3) := by decide +kernel
theorem dX5_reckon_193 : decode cX5_reckon 193 = .ok (.iload 6, 2) := by decide +kernel
theorem dX5_reckon_195 : decode cX5_reckon 195 = .ok (.iconst 2, 1) := by decide +kernel
theorem dX5_reckon_196 : decode cX5_reckon 196 = .ok (.if_icmp .lt 27, 3) := by decide +kernel
theorem dX5_reckon_199 : decode cX5_reckon 199 = .ok (.iinc 6 (-1), 3) := by decide +kernel
theorem dX5_reckon_202 : decode cX5_reckon 202 = .ok (.aload_n 3, 1) := by decide +kernel
theorem dX5_reckon_203 : decode cX5_reckon 203 = .ok (.iload 6, 2) := by decide +kernel
theorem dX5_reckon_205 : decode cX5_reckon 205 = .ok (.iconst 1, 1) := by decide +kernel
theorem dX5_reckon_206 : decode cX5_reckon 206 = .ok (.isub, 1) := by decide +kernel
theorem dX5_reckon_207 : decode cX5_reckon 207 = .ok (.iload 8, 2) := by decide +kernel
theorem dX5_reckon_209 : decode cX5_reckon 209 = .ok (.aload_n 3, 1) := by decide +kernel
theorem dX5_reckon_210 : decode cX5_reckon 210 = .ok (.iload 6, 2) := by decide +kernel
theorem dX5_reckon_212 : decode cX5_reckon 212 = .ok (.iconst 1, 1) := by decide +kernel
theorem dX5_reckon_213 : decode cX5_reckon 213 = .ok (.isub, 1) := by decide +kernel
theorem dX5_reckon_214 : decode cX5_reckon 214 = .ok (.iaload, 1) := by decide +kernel
theorem dX5_reckon_215 : decode cX5_reckon 215 = .ok (.aload_n 3, 1) := by decide +kernel
theorem dX5_reckon_216 : decode cX5_reckon 216 = .ok (.iload 6, 2) := by decide +kernel
theorem dX5_reckon_218 : decode cX5_reckon 218 = .ok (.iaload, 1) := by decide +kernel
theorem dX5_reckon_219 : decode cX5_reckon 219 = .ok (.invokestatic 32, 3) := by decide +kernel
theorem dX5_reckon_222 : decode cX5_reckon 222 = .ok (.iastore, 1) := by decide +kernel
theorem dX5_reckon_223 : decode cX5_reckon 223 = .ok (.iinc 7 1, 3) := by decide +kernel
theorem dX5_reckon_226 : decode cX5_reckon 226 = .ok (.goto (-159), 3) := by decide +kernel
theorem dX5_reckon_229 : decode cX5_reckon 229 = .ok (.iload 6, 2) := by decide +kernel
theorem dX5_reckon_231 : decode cX5_reckon 231 = .ok (.iconst 1, 1) := by decide +kernel
theorem dX5_reckon_232 : decode cX5_reckon 232 = .ok (.if_icmp .ne 9, 3) := by decide +kernel
theorem dX5_reckon_235 : decode cX5_reckon 235 = .ok (.aload_n 3, 1) := by decide +kernel
theorem dX5_reckon_236 : decode cX5_reckon 236 = .ok (.iconst 0, 1) := by decide +kernel
theorem dX5_reckon_237 : decode cX5_reckon 237 = .ok (.iaload, 1) := by decide +kernel
theorem dX5_reckon_238 : decode cX5_reckon 238 = .ok (.goto 4, 3) := by decide +kernel
theorem dX5_reckon_241 : decode cX5_reckon 241 = .ok (.iconst 0, 1) := by decide +kernel
theorem dX5_reckon_242 : decode cX5_reckon 242 = .ok (.ireturn, 1) := by decide +kernel
theorem dX5_nameValue_0 : decode cX5_nameValue 0 = .ok (.iconst (-1), 1) := by decide +kernel
theorem dX5_nameValue_1 : decode cX5_nameValue 1 = .ok (.iload_n 0, 1) := by decide +kernel
theorem dX5_nameValue_2 : decode cX5_nameValue 2 = .ok (.isub, 1) := by decide +kernel
theorem dX5_nameValue_3 : decode cX5_nameValue 3 = .ok (.istore_n 2, 1) := by decide +kernel
theorem dX5_nameValue_4 : decode cX5_nameValue 4 = .ok (.iload_n 2, 1) := by decide +kernel
theorem dX5_nameValue_5 : decode cX5_nameValue 5 = .ok (.ifCond .lt 15, 3) := by decide +kernel
theorem dX5_nameValue_8 : decode cX5_nameValue 8 = .ok (.iload_n 2, 1) := by decide +kernel
theorem dX5_nameValue_9 : decode cX5_nameValue 9 = .ok (.aload_n 1, 1) := by decide +kernel
theorem dX5_nameValue_10 : decode cX5_nameValue 10 = .ok (.arraylength, 1) := by decide +kernel
theorem dX5_nameValue_11 : decode cX5_nameValue 11 = .ok (.if_icmp .ge 9, 3) := by decide +kernel
theorem dX5_nameValue_14 : decode cX5_nameValue 14 = .ok (.aload_n 1, 1) := by decide +kernel
theorem dX5_nameValue_15 : decode cX5_nameValue 15 = .ok (.iload_n 2, 1) := by decide +kernel
theorem dX5_nameValue_16 : decode cX5_nameValue 16 = .ok (.iaload, 1) := by decide +kernel
theorem dX5_nameValue_17 : decode cX5_nameValue 17 = .ok (.goto 4, 3) := by decide +kernel
theorem dX5_nameValue_20 : decode cX5_nameValue 20 = .ok (.iconst 0, 1) := by decide +kernel
theorem dX5_nameValue_21 : decode cX5_nameValue 21 = .ok (.ireturn, 1) := by decide +kernel
theorem dX5_joined_0 : decode cX5_joined 0 = .ok (.iload_n 0, 1) := by decide +kernel
theorem dX5_joined_1 : decode cX5_joined 1 = .ok (.tableswitch 101 (-17) (-11) #[97, 93, 82, 71, 101, 57, 43], 43) := by decide +kernel
theorem dX5_joined_44 : decode cX5_joined 44 = .ok (.iload_n 1, 1) := by decide +kernel
theorem dX5_joined_45 : decode cX5_joined 45 = .ok (.ifCond .ne 7, 3) := by decide +kernel
theorem dX5_joined_48 : decode cX5_joined 48 = .ok (.iload_n 2, 1) := by decide +kernel
theorem dX5_joined_49 : decode cX5_joined 49 = .ok (.ifCond .eq 7, 3) := by decide +kernel
theorem dX5_joined_52 : decode cX5_joined 52 = .ok (.iconst 1, 1) := by decide +kernel
theorem dX5_joined_53 : decode cX5_joined 53 = .ok (.goto 4, 3) := by decide +kernel
theorem dX5_joined_56 : decode cX5_joined 56 = .ok (.iconst 0, 1) := by decide +kernel
theorem dX5_joined_57 : decode cX5_joined 57 = .ok (.ireturn, 1) := by decide +kernel
theorem dX5_joined_58 : decode cX5_joined 58 = .ok (.iload_n 1, 1) := by decide +kernel
theorem dX5_joined_59 : decode cX5_joined 59 = .ok (.ifCond .eq 11, 3) := by decide +kernel
theorem dX5_joined_62 : decode cX5_joined 62 = .ok (.iload_n 2, 1) := by decide +kernel
theorem dX5_joined_63 : decode cX5_joined 63 = .ok (.ifCond .eq 7, 3) := by decide +kernel
theorem dX5_joined_66 : decode cX5_joined 66 = .ok (.iconst 1, 1) := by decide +kernel
theorem dX5_joined_67 : decode cX5_joined 67 = .ok (.goto 4, 3) := by decide +kernel
theorem dX5_joined_70 : decode cX5_joined 70 = .ok (.iconst 0, 1) := by decide +kernel
theorem dX5_joined_71 : decode cX5_joined 71 = .ok (.ireturn, 1) := by decide +kernel
theorem dX5_joined_72 : decode cX5_joined 72 = .ok (.iload_n 1, 1) := by decide +kernel
theorem dX5_joined_73 : decode cX5_joined 73 = .ok (.iload_n 2, 1) := by decide +kernel
theorem dX5_joined_74 : decode cX5_joined 74 = .ok (.if_icmp .ge 7, 3) := by decide +kernel
theorem dX5_joined_77 : decode cX5_joined 77 = .ok (.iconst 1, 1) := by decide +kernel
theorem dX5_joined_78 : decode cX5_joined 78 = .ok (.goto 4, 3) := by decide +kernel
theorem dX5_joined_81 : decode cX5_joined 81 = .ok (.iconst 0, 1) := by decide +kernel
theorem dX5_joined_82 : decode cX5_joined 82 = .ok (.ireturn, 1) := by decide +kernel
theorem dX5_joined_83 : decode cX5_joined 83 = .ok (.iload_n 1, 1) := by decide +kernel
theorem dX5_joined_84 : decode cX5_joined 84 = .ok (.iload_n 2, 1) := by decide +kernel
theorem dX5_joined_85 : decode cX5_joined 85 = .ok (.if_icmp .ne 7, 3) := by decide +kernel
theorem dX5_joined_88 : decode cX5_joined 88 = .ok (.iconst 1, 1) := by decide +kernel
theorem dX5_joined_89 : decode cX5_joined 89 = .ok (.goto 4, 3) := by decide +kernel
theorem dX5_joined_92 : decode cX5_joined 92 = .ok (.iconst 0, 1) := by decide +kernel
theorem dX5_joined_93 : decode cX5_joined 93 = .ok (.ireturn, 1) := by decide +kernel
theorem dX5_joined_94 : decode cX5_joined 94 = .ok (.iload_n 1, 1) := by decide +kernel
theorem dX5_joined_95 : decode cX5_joined 95 = .ok (.iload_n 2, 1) := by decide +kernel
theorem dX5_joined_96 : decode cX5_joined 96 = .ok (.iadd, 1) := by decide +kernel
theorem dX5_joined_97 : decode cX5_joined 97 = .ok (.ireturn, 1) := by decide +kernel
theorem dX5_joined_98 : decode cX5_joined 98 = .ok (.iload_n 1, 1) := by decide +kernel
theorem dX5_joined_99 : decode cX5_joined 99 = .ok (.iload_n 2, 1) := by decide +kernel
theorem dX5_joined_100 : decode cX5_joined 100 = .ok (.isub, 1) := by decide +kernel
theorem dX5_joined_101 : decode cX5_joined 101 = .ok (.ireturn, 1) := by decide +kernel
theorem dX5_joined_102 : decode cX5_joined 102 = .ok (.iload_n 1, 1) := by decide +kernel
theorem dX5_joined_103 : decode cX5_joined 103 = .ok (.iload_n 2, 1) := by decide +kernel
theorem dX5_joined_104 : decode cX5_joined 104 = .ok (.imul, 1) := by decide +kernel
theorem dX5_joined_105 : decode cX5_joined 105 = .ok (.ireturn, 1) := by decide +kernel
