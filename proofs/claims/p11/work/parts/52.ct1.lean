def tw (l : List Int32) (k : Nat) : List Int32 := l.take k ++ List.replicate (l.length - k) 0
theorem e_iastL {own : String} {cc : ByteArray} {nL : Nat} {J : mc_J} {pc : Nat} {L : List (Option Value)} {st : List Value} {w w2 : mc_W} {kc ks a : Nat} {xs ys : List Int32} {i x : Int32} (hd : decode cc pc = .ok (.iastore, 1)) (hw : w[a]? = some (.inr (.inl xs))) (hi : vp_in i xs.length) (hy : xs.set i.toNatClampNeg x = ys) (hw2 : w.set a (.inr (.inl ys)) = w2) (kk : mc_E own cc nL J (pc + 1) L st w2 kc ks) : mc_E own cc nL J pc L (.int x :: .int i :: .ref a :: st) w kc ks := by
  subst hy; subst hw2; exact e_iast hd hw hi kk
theorem lp_y_law {J : mc_J} {L : List (Option Value)} {kc ks : Nat} {x0 x1 x2 x3 x4 x5 x6 x7 x8 x9 x10 x11 x12 x13 x14 x15 x16 x17 x18 x19 x20 x21 x22 x23 x24 x25 x26 x27 x28 x29 x30 x31 x32 x33 x34 x35 x36 x37 x38 x39 : mc_C} (hK : mc_E RX7 cX7_init 2 J 301 L [.ref 40, .ref 29] [x0, x1, x2, x3, x4, x5, x6, x7, x8, x9, x10, x11, x12, x13, x14, x15, x16, x17, x18, x19, x20, x21, x22, x23, x24, x25, x26, x27, x28, x29, x30, x31, x32, x33, x34, x35, x36, x37, x38, x39, .inr (.inl (ww_law))] kc ks) : mc_E RX7 cX7_init 2 J 115 L [.ref 40, .ref 29] [x0, x1, x2, x3, x4, x5, x6, x7, x8, x9, x10, x11, x12, x13, x14, x15, x16, x17, x18, x19, x20, x21, x22, x23, x24, x25, x26, x27, x28, x29, x30, x31, x32, x33, x34, x35, x36, x37, x38, x39, .inr (.inl (List.replicate 32 0))] kc ks := by
  refine e_w (w2 := [x0, x1, x2, x3, x4, x5, x6, x7, x8, x9, x10, x11, x12, x13, x14, x15, x16, x17, x18, x19, x20, x21, x22, x23, x24, x25, x26, x27, x28, x29, x30, x31, x32, x33, x34, x35, x36, x37, x38, x39, .inr (.inl (tw ww_law 0))]) rfl ?_
  refine e_dup (pc := 115) dX7_init_115 rfl ?_
  refine e_iconst (v := 0) (pc := 116) dX7_init_116 (by decide) ?_
  refine e_bipush (v := 110) (pc := 117) dX7_init_117 (by decide) ?_
  refine e_iastL (pc := 119) (ys := tw ww_law 1) (w2 := [x0, x1, x2, x3, x4, x5, x6, x7, x8, x9, x10, x11, x12, x13, x14, x15, x16, x17, x18, x19, x20, x21, x22, x23, x24, x25, x26, x27, x28, x29, x30, x31, x32, x33, x34, x35, x36, x37, x38, x39, .inr (.inl (tw ww_law 1))]) dX7_init_119 rfl (vi_of (by decide +kernel)) (by decide +kernel) rfl ?_
  refine e_dup (pc := 120) dX7_init_120 rfl ?_
  refine e_iconst (v := 1) (pc := 121) dX7_init_121 (by decide) ?_
  refine e_bipush (v := 111) (pc := 122) dX7_init_122 (by decide) ?_
  refine e_iastL (pc := 124) (ys := tw ww_law 2) (w2 := [x0, x1, x2, x3, x4, x5, x6, x7, x8, x9, x10, x11, x12, x13, x14, x15, x16, x17, x18, x19, x20, x21, x22, x23, x24, x25, x26, x27, x28, x29, x30, x31, x32, x33, x34, x35, x36, x37, x38, x39, .inr (.inl (tw ww_law 2))]) dX7_init_124 rfl (vi_of (by decide +kernel)) (by decide +kernel) rfl ?_
  refine e_dup (pc := 125) dX7_init_125 rfl ?_
  refine e_iconst (v := 2) (pc := 126) dX7_init_126 (by decide) ?_
  refine e_bipush (v := 117) (pc := 127) dX7_init_127 (by decide) ?_
  refine e_iastL (pc := 129) (ys := tw ww_law 3) (w2 := [x0, x1, x2, x3, x4, x5, x6, x7, x8, x9, x10, x11, x12, x13, x14, x15, x16, x17, x18, x19, x20, x21, x22, x23, x24, x25, x26, x27, x28, x29, x30, x31, x32, x33, x34, x35, x36, x37, x38, x39, .inr (.inl (tw ww_law 3))]) dX7_init_129 rfl (vi_of (by decide +kernel)) (by decide +kernel) rfl ?_
  refine e_dup (pc := 130) dX7_init_130 rfl ?_
  refine e_iconst (v := 3) (pc := 131) dX7_init_131 (by decide) ?_
  refine e_bipush (v := 103) (pc := 132) dX7_init_132 (by decide) ?_
  refine e_iastL (pc := 134) (ys := tw ww_law 4) (w2 := [x0, x1, x2, x3, x4, x5, x6, x7, x8, x9, x10, x11, x12, x13, x14, x15, x16, x17, x18, x19, x20, x21, x22, x23, x24, x25, x26, x27, x28, x29, x30, x31, x32, x33, x34, x35, x36, x37, x38, x39, .inr (.inl (tw ww_law 4))]) dX7_init_134 rfl (vi_of (by decide +kernel)) (by decide +kernel) rfl ?_
  refine e_dup (pc := 135) dX7_init_135 rfl ?_
  refine e_iconst (v := 4) (pc := 136) dX7_init_136 (by decide) ?_
  refine e_bipush (v := 104) (pc := 137) dX7_init_137 (by decide) ?_
  refine e_iastL (pc := 139) (ys := tw ww_law 5) (w2 := [x0, x1, x2, x3, x4, x5, x6, x7, x8, x9, x10, x11, x12, x13, x14, x15, x16, x17, x18, x19, x20, x21, x22, x23, x24, x25, x26, x27, x28, x29, x30, x31, x32, x33, x34, x35, x36, x37, x38, x39, .inr (.inl (tw ww_law 5))]) dX7_init_139 rfl (vi_of (by decide +kernel)) (by decide +kernel) rfl ?_
  refine e_dup (pc := 140) dX7_init_140 rfl ?_
  refine e_iconst (v := 5) (pc := 141) dX7_init_141 (by decide) ?_
  refine e_bipush (v := 116) (pc := 142) dX7_init_142 (by decide) ?_
  refine e_iastL (pc := 144) (ys := tw ww_law 6) (w2 := [x0, x1, x2, x3, x4, x5, x6, x7, x8, x9, x10, x11, x12, x13, x14, x15, x16, x17, x18, x19, x20, x21, x22, x23, x24, x25, x26, x27, x28, x29, x30, x31, x32, x33, x34, x35, x36, x37, x38, x39, .inr (.inl (tw ww_law 6))]) dX7_init_144 rfl (vi_of (by decide +kernel)) (by decide +kernel) rfl ?_
  refine e_dup (pc := 145) dX7_init_145 rfl ?_
  refine e_bipush (v := 6) (pc := 146) dX7_init_146 (by decide) ?_
  refine e_bipush (v := 32) (pc := 148) dX7_init_148 (by decide) ?_
  refine e_iastL (pc := 150) (ys := tw ww_law 7) (w2 := [x0, x1, x2, x3, x4, x5, x6, x7, x8, x9, x10, x11, x12, x13, x14, x15, x16, x17, x18, x19, x20, x21, x22, x23, x24, x25, x26, x27, x28, x29, x30, x31, x32, x33, x34, x35, x36, x37, x38, x39, .inr (.inl (tw ww_law 7))]) dX7_init_150 rfl (vi_of (by decide +kernel)) (by decide +kernel) rfl ?_
  refine e_dup (pc := 151) dX7_init_151 rfl ?_
  refine e_bipush (v := 7) (pc := 152) dX7_init_152 (by decide) ?_
  refine e_bipush (v := 49) (pc := 154) dX7_init_154 (by decide) ?_
  refine e_iastL (pc := 156) (ys := tw ww_law 8) (w2 := [x0, x1, x2, x3, x4, x5, x6, x7, x8, x9, x10, x11, x12, x13, x14, x15, x16, x17, x18, x19, x20, x21, x22, x23, x24, x25, x26, x27, x28, x29, x30, x31, x32, x33, x34, x35, x36, x37, x38, x39, .inr (.inl (tw ww_law 8))]) dX7_init_156 rfl (vi_of (by decide +kernel)) (by decide +kernel) rfl ?_
  refine e_dup (pc := 157) dX7_init_157 rfl ?_
  refine e_bipush (v := 8) (pc := 158) dX7_init_158 (by decide) ?_
  refine e_bipush (v := 32) (pc := 160) dX7_init_160 (by decide) ?_
  refine e_iastL (pc := 162) (ys := tw ww_law 9) (w2 := [x0, x1, x2, x3, x4, x5, x6, x7, x8, x9, x10, x11, x12, x13, x14, x15, x16, x17, x18, x19, x20, x21, x22, x23, x24, x25, x26, x27, x28, x29, x30, x31, x32, x33, x34, x35, x36, x37, x38, x39, .inr (.inl (tw ww_law 9))]) dX7_init_162 rfl (vi_of (by decide +kernel)) (by decide +kernel) rfl ?_
  refine e_dup (pc := 163) dX7_init_163 rfl ?_
  refine e_bipush (v := 9) (pc := 164) dX7_init_164 (by decide) ?_
  refine e_bipush (v := 59) (pc := 166) dX7_init_166 (by decide) ?_
  refine e_iastL (pc := 168) (ys := tw ww_law 10) (w2 := [x0, x1, x2, x3, x4, x5, x6, x7, x8, x9, x10, x11, x12, x13, x14, x15, x16, x17, x18, x19, x20, x21, x22, x23, x24, x25, x26, x27, x28, x29, x30, x31, x32, x33, x34, x35, x36, x37, x38, x39, .inr (.inl (tw ww_law 10))]) dX7_init_168 rfl (vi_of (by decide +kernel)) (by decide +kernel) rfl ?_
  refine e_dup (pc := 169) dX7_init_169 rfl ?_
  refine e_bipush (v := 10) (pc := 170) dX7_init_170 (by decide) ?_
  refine e_bipush (v := 32) (pc := 172) dX7_init_172 (by decide) ?_
  refine e_iastL (pc := 174) (ys := tw ww_law 11) (w2 := [x0, x1, x2, x3, x4, x5, x6, x7, x8, x9, x10, x11, x12, x13, x14, x15, x16, x17, x18, x19, x20, x21, x22, x23, x24, x25, x26, x27, x28, x29, x30, x31, x32, x33, x34, x35, x36, x37, x38, x39, .inr (.inl (tw ww_law 11))]) dX7_init_174 rfl (vi_of (by decide +kernel)) (by decide +kernel) rfl ?_
  refine e_dup (pc := 175) dX7_init_175 rfl ?_
  refine e_bipush (v := 11) (pc := 176) dX7_init_176 (by decide) ?_
  refine e_bipush (v := 115) (pc := 178) dX7_init_178 (by decide) ?_
  refine e_iastL (pc := 180) (ys := tw ww_law 12) (w2 := [x0, x1, x2, x3, x4, x5, x6, x7, x8, x9, x10, x11, x12, x13, x14, x15, x16, x17, x18, x19, x20, x21, x22, x23, x24, x25, x26, x27, x28, x29, x30, x31, x32, x33, x34, x35, x36, x37, x38, x39, .inr (.inl (tw ww_law 12))]) dX7_init_180 rfl (vi_of (by decide +kernel)) (by decide +kernel) rfl ?_
  refine e_dup (pc := 181) dX7_init_181 rfl ?_
  refine e_bipush (v := 12) (pc := 182) dX7_init_182 (by decide) ?_
  refine e_bipush (v := 108) (pc := 184) dX7_init_184 (by decide) ?_
  refine e_iastL (pc := 186) (ys := tw ww_law 13) (w2 := [x0, x1, x2, x3, x4, x5, x6, x7, x8, x9, x10, x11, x12, x13, x14, x15, x16, x17, x18, x19, x20, x21, x22, x23, x24, x25, x26, x27, x28, x29, x30, x31, x32, x33, x34, x35, x36, x37, x38, x39, .inr (.inl (tw ww_law 13))]) dX7_init_186 rfl (vi_of (by decide +kernel)) (by decide +kernel) rfl ?_
  refine e_dup (pc := 187) dX7_init_187 rfl ?_
  refine e_bipush (v := 13) (pc := 188) dX7_init_188 (by decide) ?_
  refine e_bipush (v := 105) (pc := 190) dX7_init_190 (by decide) ?_
  refine e_iastL (pc := 192) (ys := tw ww_law 14) (w2 := [x0, x1, x2, x3, x4, x5, x6, x7, x8, x9, x10, x11, x12, x13, x14, x15, x16, x17, x18, x19, x20, x21, x22, x23, x24, x25, x26, x27, x28, x29, x30, x31, x32, x33, x34, x35, x36, x37, x38, x39, .inr (.inl (tw ww_law 14))]) dX7_init_192 rfl (vi_of (by decide +kernel)) (by decide +kernel) rfl ?_
  refine e_dup (pc := 193) dX7_init_193 rfl ?_
  refine e_bipush (v := 14) (pc := 194) dX7_init_194 (by decide) ?_
  refine e_bipush (v := 112) (pc := 196) dX7_init_196 (by decide) ?_
  refine e_iastL (pc := 198) (ys := tw ww_law 15) (w2 := [x0, x1, x2, x3, x4, x5, x6, x7, x8, x9, x10, x11, x12, x13, x14, x15, x16, x17, x18, x19, x20, x21, x22, x23, x24, x25, x26, x27, x28, x29, x30, x31, x32, x33, x34, x35, x36, x37, x38, x39, .inr (.inl (tw ww_law 15))]) dX7_init_198 rfl (vi_of (by decide +kernel)) (by decide +kernel) rfl ?_
  refine e_dup (pc := 199) dX7_init_199 rfl ?_
  refine e_bipush (v := 15) (pc := 200) dX7_init_200 (by decide) ?_
  refine e_bipush (v := 115) (pc := 202) dX7_init_202 (by decide) ?_
  refine e_iastL (pc := 204) (ys := tw ww_law 16) (w2 := [x0, x1, x2, x3, x4, x5, x6, x7, x8, x9, x10, x11, x12, x13, x14, x15, x16, x17, x18, x19, x20, x21, x22, x23, x24, x25, x26, x27, x28, x29, x30, x31, x32, x33, x34, x35, x36, x37, x38, x39, .inr (.inl (tw ww_law 16))]) dX7_init_204 rfl (vi_of (by decide +kernel)) (by decide +kernel) rfl ?_
  refine e_dup (pc := 205) dX7_init_205 rfl ?_
  refine e_bipush (v := 16) (pc := 206) dX7_init_206 (by decide) ?_
  refine e_bipush (v := 32) (pc := 208) dX7_init_208 (by decide) ?_
  refine e_iastL (pc := 210) (ys := tw ww_law 17) (w2 := [x0, x1, x2, x3, x4, x5, x6, x7, x8, x9, x10, x11, x12, x13, x14, x15, x16, x17, x18, x19, x20, x21, x22, x23, x24, x25, x26, x27, x28, x29, x30, x31, x32, x33, x34, x35, x36, x37, x38, x39, .inr (.inl (tw ww_law 17))]) dX7_init_210 rfl (vi_of (by decide +kernel)) (by decide +kernel) rfl ?_
  refine e_dup (pc := 211) dX7_init_211 rfl ?_
  refine e_bipush (v := 17) (pc := 212) dX7_init_212 (by decide) ?_
  refine e_bipush (v := 51) (pc := 214) dX7_init_214 (by decide) ?_
  refine e_iastL (pc := 216) (ys := tw ww_law 18) (w2 := [x0, x1, x2, x3, x4, x5, x6, x7, x8, x9, x10, x11, x12, x13, x14, x15, x16, x17, x18, x19, x20, x21, x22, x23, x24, x25, x26, x27, x28, x29, x30, x31, x32, x33, x34, x35, x36, x37, x38, x39, .inr (.inl (tw ww_law 18))]) dX7_init_216 rfl (vi_of (by decide +kernel)) (by decide +kernel) rfl ?_
  refine e_dup (pc := 217) dX7_init_217 rfl ?_
  refine e_bipush (v := 18) (pc := 218) dX7_init_218 (by decide) ?_
  refine e_bipush (v := 32) (pc := 220) dX7_init_220 (by decide) ?_
  refine e_iastL (pc := 222) (ys := tw ww_law 19) (w2 := [x0, x1, x2, x3, x4, x5, x6, x7, x8, x9, x10, x11, x12, x13, x14, x15, x16, x17, x18, x19, x20, x21, x22, x23, x24, x25, x26, x27, x28, x29, x30, x31, x32, x33, x34, x35, x36, x37, x38, x39, .inr (.inl (tw ww_law 19))]) dX7_init_222 rfl (vi_of (by decide +kernel)) (by decide +kernel) rfl ?_
  refine e_dup (pc := 223) dX7_init_223 rfl ?_
  refine e_bipush (v := 19) (pc := 224) dX7_init_224 (by decide) ?_
  refine e_bipush (v := 59) (pc := 226) dX7_init_226 (by decide) ?_
  refine e_iastL (pc := 228) (ys := tw ww_law 20) (w2 := [x0, x1, x2, x3, x4, x5, x6, x7, x8, x9, x10, x11, x12, x13, x14, x15, x16, x17, x18, x19, x20, x21, x22, x23, x24, x25, x26, x27, x28, x29, x30, x31, x32, x33, x34, x35, x36, x37, x38, x39, .inr (.inl (tw ww_law 20))]) dX7_init_228 rfl (vi_of (by decide +kernel)) (by decide +kernel) rfl ?_
  refine e_dup (pc := 229) dX7_init_229 rfl ?_
  refine e_bipush (v := 20) (pc := 230) dX7_init_230 (by decide) ?_
  refine e_bipush (v := 32) (pc := 232) dX7_init_232 (by decide) ?_
  refine e_iastL (pc := 234) (ys := tw ww_law 21) (w2 := [x0, x1, x2, x3, x4, x5, x6, x7, x8, x9, x10, x11, x12, x13, x14, x15, x16, x17, x18, x19, x20, x21, x22, x23, x24, x25, x26, x27, x28, x29, x30, x31, x32, x33, x34, x35, x36, x37, x38, x39, .inr (.inl (tw ww_law 21))]) dX7_init_234 rfl (vi_of (by decide +kernel)) (by decide +kernel) rfl ?_
  refine e_dup (pc := 235) dX7_init_235 rfl ?_
  refine e_bipush (v := 21) (pc := 236) dX7_init_236 (by decide) ?_
  refine e_bipush (v := 99) (pc := 238) dX7_init_238 (by decide) ?_
  refine e_iastL (pc := 240) (ys := tw ww_law 22) (w2 := [x0, x1, x2, x3, x4, x5, x6, x7, x8, x9, x10, x11, x12, x13, x14, x15, x16, x17, x18, x19, x20, x21, x22, x23, x24, x25, x26, x27, x28, x29, x30, x31, x32, x33, x34, x35, x36, x37, x38, x39, .inr (.inl (tw ww_law 22))]) dX7_init_240 rfl (vi_of (by decide +kernel)) (by decide +kernel) rfl ?_
  refine e_dup (pc := 241) dX7_init_241 rfl ?_
  refine e_bipush (v := 22) (pc := 242) dX7_init_242 (by decide) ?_
  refine e_bipush (v := 111) (pc := 244) dX7_init_244 (by decide) ?_
  refine e_iastL (pc := 246) (ys := tw ww_law 23) (w2 := [x0, x1, x2, x3, x4, x5, x6, x7, x8, x9, x10, x11, x12, x13, x14, x15, x16, x17, x18, x19, x20, x21, x22, x23, x24, x25, x26, x27, x28, x29, x30, x31, x32, x33, x34, x35, x36, x37, x38, x39, .inr (.inl (tw ww_law 23))]) dX7_init_246 rfl (vi_of (by decide +kernel)) (by decide +kernel) rfl ?_
  refine e_dup (pc := 247) dX7_init_247 rfl ?_
  refine e_bipush (v := 23) (pc := 248) dX7_init_248 (by decide) ?_
  refine e_bipush (v := 115) (pc := 250) dX7_init_250 (by decide) ?_
  refine e_iastL (pc := 252) (ys := tw ww_law 24) (w2 := [x0, x1, x2, x3, x4, x5, x6, x7, x8, x9, x10, x11, x12, x13, x14, x15, x16, x17, x18, x19, x20, x21, x22, x23, x24, x25, x26, x27, x28, x29, x30, x31, x32, x33, x34, x35, x36, x37, x38, x39, .inr (.inl (tw ww_law 24))]) dX7_init_252 rfl (vi_of (by decide +kernel)) (by decide +kernel) rfl ?_
  refine e_dup (pc := 253) dX7_init_253 rfl ?_
  refine e_bipush (v := 24) (pc := 254) dX7_init_254 (by decide) ?_
  refine e_bipush (v := 116) (pc := 256) dX7_init_256 (by decide) ?_
  refine e_iastL (pc := 258) (ys := tw ww_law 25) (w2 := [x0, x1, x2, x3, x4, x5, x6, x7, x8, x9, x10, x11, x12, x13, x14, x15, x16, x17, x18, x19, x20, x21, x22, x23, x24, x25, x26, x27, x28, x29, x30, x31, x32, x33, x34, x35, x36, x37, x38, x39, .inr (.inl (tw ww_law 25))]) dX7_init_258 rfl (vi_of (by decide +kernel)) (by decide +kernel) rfl ?_
  refine e_dup (pc := 259) dX7_init_259 rfl ?_
  refine e_bipush (v := 25) (pc := 260) dX7_init_260 (by decide) ?_
  refine e_bipush (v := 115) (pc := 262) dX7_init_262 (by decide) ?_
  refine e_iastL (pc := 264) (ys := tw ww_law 26) (w2 := [x0, x1, x2, x3, x4, x5, x6, x7, x8, x9, x10, x11, x12, x13, x14, x15, x16, x17, x18, x19, x20, x21, x22, x23, x24, x25, x26, x27, x28, x29, x30, x31, x32, x33, x34, x35, x36, x37, x38, x39, .inr (.inl (tw ww_law 26))]) dX7_init_264 rfl (vi_of (by decide +kernel)) (by decide +kernel) rfl ?_
  refine e_dup (pc := 265) dX7_init_265 rfl ?_
  refine e_bipush (v := 26) (pc := 266) dX7_init_266 (by decide) ?_
  refine e_bipush (v := 32) (pc := 268) dX7_init_268 (by decide) ?_
  refine e_iastL (pc := 270) (ys := tw ww_law 27) (w2 := [x0, x1, x2, x3, x4, x5, x6, x7, x8, x9, x10, x11, x12, x13, x14, x15, x16, x17, x18, x19, x20, x21, x22, x23, x24, x25, x26, x27, x28, x29, x30, x31, x32, x33, x34, x35, x36, x37, x38, x39, .inr (.inl (tw ww_law 27))]) dX7_init_270 rfl (vi_of (by decide +kernel)) (by decide +kernel) rfl ?_
  refine e_dup (pc := 271) dX7_init_271 rfl ?_
  refine e_bipush (v := 27) (pc := 272) dX7_init_272 (by decide) ?_
  refine e_bipush (v := 111) (pc := 274) dX7_init_274 (by decide) ?_
  refine e_iastL (pc := 276) (ys := tw ww_law 28) (w2 := [x0, x1, x2, x3, x4, x5, x6, x7, x8, x9, x10, x11, x12, x13, x14, x15, x16, x17, x18, x19, x20, x21, x22, x23, x24, x25, x26, x27, x28, x29, x30, x31, x32, x33, x34, x35, x36, x37, x38, x39, .inr (.inl (tw ww_law 28))]) dX7_init_276 rfl (vi_of (by decide +kernel)) (by decide +kernel) rfl ?_
  refine e_dup (pc := 277) dX7_init_277 rfl ?_
  refine e_bipush (v := 28) (pc := 278) dX7_init_278 (by decide) ?_
  refine e_bipush (v := 102) (pc := 280) dX7_init_280 (by decide) ?_
  refine e_iastL (pc := 282) (ys := tw ww_law 29) (w2 := [x0, x1, x2, x3, x4, x5, x6, x7, x8, x9, x10, x11, x12, x13, x14, x15, x16, x17, x18, x19, x20, x21, x22, x23, x24, x25, x26, x27, x28, x29, x30, x31, x32, x33, x34, x35, x36, x37, x38, x39, .inr (.inl (tw ww_law 29))]) dX7_init_282 rfl (vi_of (by decide +kernel)) (by decide +kernel) rfl ?_
  refine e_dup (pc := 283) dX7_init_283 rfl ?_
  refine e_bipush (v := 29) (pc := 284) dX7_init_284 (by decide) ?_
  refine e_bipush (v := 102) (pc := 286) dX7_init_286 (by decide) ?_
  refine e_iastL (pc := 288) (ys := tw ww_law 30) (w2 := [x0, x1, x2, x3, x4, x5, x6, x7, x8, x9, x10, x11, x12, x13, x14, x15, x16, x17, x18, x19, x20, x21, x22, x23, x24, x25, x26, x27, x28, x29, x30, x31, x32, x33, x34, x35, x36, x37, x38, x39, .inr (.inl (tw ww_law 30))]) dX7_init_288 rfl (vi_of (by decide +kernel)) (by decide +kernel) rfl ?_
  refine e_dup (pc := 289) dX7_init_289 rfl ?_
  refine e_bipush (v := 30) (pc := 290) dX7_init_290 (by decide) ?_
  refine e_bipush (v := 32) (pc := 292) dX7_init_292 (by decide) ?_
  refine e_iastL (pc := 294) (ys := tw ww_law 31) (w2 := [x0, x1, x2, x3, x4, x5, x6, x7, x8, x9, x10, x11, x12, x13, x14, x15, x16, x17, x18, x19, x20, x21, x22, x23, x24, x25, x26, x27, x28, x29, x30, x31, x32, x33, x34, x35, x36, x37, x38, x39, .inr (.inl (tw ww_law 31))]) dX7_init_294 rfl (vi_of (by decide +kernel)) (by decide +kernel) rfl ?_
  refine e_dup (pc := 295) dX7_init_295 rfl ?_
  refine e_bipush (v := 31) (pc := 296) dX7_init_296 (by decide) ?_
  refine e_bipush (v := 59) (pc := 298) dX7_init_298 (by decide) ?_
  refine e_iastL (pc := 300) (ys := tw ww_law 32) (w2 := [x0, x1, x2, x3, x4, x5, x6, x7, x8, x9, x10, x11, x12, x13, x14, x15, x16, x17, x18, x19, x20, x21, x22, x23, x24, x25, x26, x27, x28, x29, x30, x31, x32, x33, x34, x35, x36, x37, x38, x39, .inr (.inl (tw ww_law 32))]) dX7_init_300 rfl (vi_of (by decide +kernel)) (by decide +kernel) rfl ?_
  refine e_w (w2 := [x0, x1, x2, x3, x4, x5, x6, x7, x8, x9, x10, x11, x12, x13, x14, x15, x16, x17, x18, x19, x20, x21, x22, x23, x24, x25, x26, x27, x28, x29, x30, x31, x32, x33, x34, x35, x36, x37, x38, x39, .inr (.inl (ww_law))]) (by rw [show tw ww_law 32 = ww_law by decide +kernel]) ?_
  exact hK
theorem lp_y_words {J : mc_J} {L : List (Option Value)} {kc ks : Nat} {x0 x1 x2 x3 x4 x5 x6 x7 x8 x9 x10 x11 x12 x13 x14 x15 x16 x17 x18 x19 x20 x21 x22 x23 x24 x25 x26 x27 x28 x29 x30 x31 x32 x33 x34 x35 x36 x37 x38 x39 x40 : mc_C} (hK : mc_E RX7 cX7_init 2 J 879 L [.ref 41, .ref 29] [x0, x1, x2, x3, x4, x5, x6, x7, x8, x9, x10, x11, x12, x13, x14, x15, x16, x17, x18, x19, x20, x21, x22, x23, x24, x25, x26, x27, x28, x29, x30, x31, x32, x33, x34, x35, x36, x37, x38, x39, x40, .inr (.inl (ww_words))] kc ks) : mc_E RX7 cX7_init 2 J 309 L [.ref 41, .ref 29] [x0, x1, x2, x3, x4, x5, x6, x7, x8, x9, x10, x11, x12, x13, x14, x15, x16, x17, x18, x19, x20, x21, x22, x23, x24, x25, x26, x27, x28, x29, x30, x31, x32, x33, x34, x35, x36, x37, x38, x39, x40, .inr (.inl (List.replicate 96 0))] kc ks := by
  refine e_w (w2 := [x0, x1, x2, x3, x4, x5, x6, x7, x8, x9, x10, x11, x12, x13, x14, x15, x16, x17, x18, x19, x20, x21, x22, x23, x24, x25, x26, x27, x28, x29, x30, x31, x32, x33, x34, x35, x36, x37, x38, x39, x40, .inr (.inl (tw ww_words 0))]) rfl ?_
  refine e_dup (pc := 309) dX7_init_309 rfl ?_
  refine e_iconst (v := 0) (pc := 310) dX7_init_310 (by decide) ?_
  refine e_bipush (v := 110) (pc := 311) dX7_init_311 (by decide) ?_
  refine e_iastL (pc := 313) (ys := tw ww_words 1) (w2 := [x0, x1, x2, x3, x4, x5, x6, x7, x8, x9, x10, x11, x12, x13, x14, x15, x16, x17, x18, x19, x20, x21, x22, x23, x24, x25, x26, x27, x28, x29, x30, x31, x32, x33, x34, x35, x36, x37, x38, x39, x40, .inr (.inl (tw ww_words 1))]) dX7_init_313 rfl (vi_of (by decide +kernel)) (by decide +kernel) rfl ?_
  refine e_dup (pc := 314) dX7_init_314 rfl ?_
  refine e_iconst (v := 1) (pc := 315) dX7_init_315 (by decide) ?_
  refine e_bipush (v := 111) (pc := 316) dX7_init_316 (by decide) ?_
  refine e_iastL (pc := 318) (ys := tw ww_words 2) (w2 := [x0, x1, x2, x3, x4, x5, x6, x7, x8, x9, x10, x11, x12, x13, x14, x15, x16, x17, x18, x19, x20, x21, x22, x23, x24, x25, x26, x27, x28, x29, x30, x31, x32, x33, x34, x35, x36, x37, x38, x39, x40, .inr (.inl (tw ww_words 2))]) dX7_init_318 rfl (vi_of (by decide +kernel)) (by decide +kernel) rfl ?_
  refine e_dup (pc := 319) dX7_init_319 rfl ?_
  refine e_iconst (v := 2) (pc := 320) dX7_init_320 (by decide) ?_
  refine e_bipush (v := 117) (pc := 321) dX7_init_321 (by decide) ?_
  refine e_iastL (pc := 323) (ys := tw ww_words 3) (w2 := [x0, x1, x2, x3, x4, x5, x6, x7, x8, x9, x10, x11, x12, x13, x14, x15, x16, x17, x18, x19, x20, x21, x22, x23, x24, x25, x26, x27, x28, x29, x30, x31, x32, x33, x34, x35, x36, x37, x38, x39, x40, .inr (.inl (tw ww_words 3))]) dX7_init_323 rfl (vi_of (by decide +kernel)) (by decide +kernel) rfl ?_
  refine e_dup (pc := 324) dX7_init_324 rfl ?_
  refine e_iconst (v := 3) (pc := 325) dX7_init_325 (by decide) ?_
  refine e_bipush (v := 103) (pc := 326) dX7_init_326 (by decide) ?_
  refine e_iastL (pc := 328) (ys := tw ww_words 4) (w2 := [x0, x1, x2, x3, x4, x5, x6, x7, x8, x9, x10, x11, x12, x13, x14, x15, x16, x17, x18, x19, x20, x21, x22, x23, x24, x25, x26, x27, x28, x29, x30, x31, x32, x33, x34, x35, x36, x37, x38, x39, x40, .inr (.inl (tw ww_words 4))]) dX7_init_328 rfl (vi_of (by decide +kernel)) (by decide +kernel) rfl ?_
  refine e_dup (pc := 329) dX7_init_329 rfl ?_
  refine e_iconst (v := 4) (pc := 330) dX7_init_330 (by decide) ?_
  refine e_bipush (v := 104) (pc := 331) dX7_init_331 (by decide) ?_
  refine e_iastL (pc := 333) (ys := tw ww_words 5) (w2 := [x0, x1, x2, x3, x4, x5, x6, x7, x8, x9, x10, x11, x12, x13, x14, x15, x16, x17, x18, x19, x20, x21, x22, x23, x24, x25, x26, x27, x28, x29, x30, x31, x32, x33, x34, x35, x36, x37, x38, x39, x40, .inr (.inl (tw ww_words 5))]) dX7_init_333 rfl (vi_of (by decide +kernel)) (by decide +kernel) rfl ?_
  refine e_dup (pc := 334) dX7_init_334 rfl ?_
  refine e_iconst (v := 5) (pc := 335) dX7_init_335 (by decide) ?_
  refine e_bipush (v := 116) (pc := 336) dX7_init_336 (by decide) ?_
  refine e_iastL (pc := 338) (ys := tw ww_words 6) (w2 := [x0, x1, x2, x3, x4, x5, x6, x7, x8, x9, x10, x11, x12, x13, x14, x15, x16, x17, x18, x19, x20, x21, x22, x23, x24, x25, x26, x27, x28, x29, x30, x31, x32, x33, x34, x35, x36, x37, x38, x39, x40, .inr (.inl (tw ww_words 6))]) dX7_init_338 rfl (vi_of (by decide +kernel)) (by decide +kernel) rfl ?_
  refine e_dup (pc := 339) dX7_init_339 rfl ?_
  refine e_bipush (v := 6) (pc := 340) dX7_init_340 (by decide) ?_
  refine e_bipush (v := 32) (pc := 342) dX7_init_342 (by decide) ?_
  refine e_iastL (pc := 344) (ys := tw ww_words 7) (w2 := [x0, x1, x2, x3, x4, x5, x6, x7, x8, x9, x10, x11, x12, x13, x14, x15, x16, x17, x18, x19, x20, x21, x22, x23, x24, x25, x26, x27, x28, x29, x30, x31, x32, x33, x34, x35, x36, x37, x38, x39, x40, .inr (.inl (tw ww_words 7))]) dX7_init_344 rfl (vi_of (by decide +kernel)) (by decide +kernel) rfl ?_
  refine e_dup (pc := 345) dX7_init_345 rfl ?_
  refine e_bipush (v := 7) (pc := 346) dX7_init_346 (by decide) ?_
  refine e_bipush (v := 32) (pc := 348) dX7_init_348 (by decide) ?_
  refine e_iastL (pc := 350) (ys := tw ww_words 8) (w2 := [x0, x1, x2, x3, x4, x5, x6, x7, x8, x9, x10, x11, x12, x13, x14, x15, x16, x17, x18, x19, x20, x21, x22, x23, x24, x25, x26, x27, x28, x29, x30, x31, x32, x33, x34, x35, x36, x37, x38, x39, x40, .inr (.inl (tw ww_words 8))]) dX7_init_350 rfl (vi_of (by decide +kernel)) (by decide +kernel) rfl ?_
  refine e_dup (pc := 351) dX7_init_351 rfl ?_
  refine e_bipush (v := 8) (pc := 352) dX7_init_352 (by decide) ?_
  refine e_bipush (v := 115) (pc := 354) dX7_init_354 (by decide) ?_
  refine e_iastL (pc := 356) (ys := tw ww_words 9) (w2 := [x0, x1, x2, x3, x4, x5, x6, x7, x8, x9, x10, x11, x12, x13, x14, x15, x16, x17, x18, x19, x20, x21, x22, x23, x24, x25, x26, x27, x28, x29, x30, x31, x32, x33, x34, x35, x36, x37, x38, x39, x40, .inr (.inl (tw ww_words 9))]) dX7_init_356 rfl (vi_of (by decide +kernel)) (by decide +kernel) rfl ?_
  refine e_dup (pc := 357) dX7_init_357 rfl ?_
  refine e_bipush (v := 9) (pc := 358) dX7_init_358 (by decide) ?_
  refine e_bipush (v := 108) (pc := 360) dX7_init_360 (by decide) ?_
  refine e_iastL (pc := 362) (ys := tw ww_words 10) (w2 := [x0, x1, x2, x3, x4, x5, x6, x7, x8, x9, x10, x11, x12, x13, x14, x15, x16, x17, x18, x19, x20, x21, x22, x23, x24, x25, x26, x27, x28, x29, x30, x31, x32, x33, x34, x35, x36, x37, x38, x39, x40, .inr (.inl (tw ww_words 10))]) dX7_init_362 rfl (vi_of (by decide +kernel)) (by decide +kernel) rfl ?_
  refine e_dup (pc := 363) dX7_init_363 rfl ?_
  refine e_bipush (v := 10) (pc := 364) dX7_init_364 (by decide) ?_
  refine e_bipush (v := 105) (pc := 366) dX7_init_366 (by decide) ?_
  refine e_iastL (pc := 368) (ys := tw ww_words 11) (w2 := [x0, x1, x2, x3, x4, x5, x6, x7, x8, x9, x10, x11, x12, x13, x14, x15, x16, x17, x18, x19, x20, x21, x22, x23, x24, x25, x26, x27, x28, x29, x30, x31, x32, x33, x34, x35, x36, x37, x38, x39, x40, .inr (.inl (tw ww_words 11))]) dX7_init_368 rfl (vi_of (by decide +kernel)) (by decide +kernel) rfl ?_
  refine e_dup (pc := 369) dX7_init_369 rfl ?_
  refine e_bipush (v := 11) (pc := 370) dX7_init_370 (by decide) ?_
  refine e_bipush (v := 112) (pc := 372) dX7_init_372 (by decide) ?_
  refine e_iastL (pc := 374) (ys := tw ww_words 12) (w2 := [x0, x1, x2, x3, x4, x5, x6, x7, x8, x9, x10, x11, x12, x13, x14, x15, x16, x17, x18, x19, x20, x21, x22, x23, x24, x25, x26, x27, x28, x29, x30, x31, x32, x33, x34, x35, x36, x37, x38, x39, x40, .inr (.inl (tw ww_words 12))]) dX7_init_374 rfl (vi_of (by decide +kernel)) (by decide +kernel) rfl ?_
  refine e_dup (pc := 375) dX7_init_375 rfl ?_
  refine e_bipush (v := 12) (pc := 376) dX7_init_376 (by decide) ?_
  refine e_bipush (v := 115) (pc := 378) dX7_init_378 (by decide) ?_
  refine e_iastL (pc := 380) (ys := tw ww_words 13) (w2 := [x0, x1, x2, x3, x4, x5, x6, x7, x8, x9, x10, x11, x12, x13, x14, x15, x16, x17, x18, x19, x20, x21, x22, x23, x24, x25, x26, x27, x28, x29, x30, x31, x32, x33, x34, x35, x36, x37, x38, x39, x40, .inr (.inl (tw ww_words 13))]) dX7_init_380 rfl (vi_of (by decide +kernel)) (by decide +kernel) rfl ?_
  refine e_dup (pc := 381) dX7_init_381 rfl ?_
  refine e_bipush (v := 13) (pc := 382) dX7_init_382 (by decide) ?_
  refine e_bipush (v := 32) (pc := 384) dX7_init_384 (by decide) ?_
  refine e_iastL (pc := 386) (ys := tw ww_words 14) (w2 := [x0, x1, x2, x3, x4, x5, x6, x7, x8, x9, x10, x11, x12, x13, x14, x15, x16, x17, x18, x19, x20, x21, x22, x23, x24, x25, x26, x27, x28, x29, x30, x31, x32, x33, x34, x35, x36, x37, x38, x39, x40, .inr (.inl (tw ww_words 14))]) dX7_init_386 rfl (vi_of (by decide +kernel)) (by decide +kernel) rfl ?_
  refine e_dup (pc := 387) dX7_init_387 rfl ?_
  refine e_bipush (v := 14) (pc := 388) dX7_init_388 (by decide) ?_
  refine e_bipush (v := 32) (pc := 390) dX7_init_390 (by decide) ?_
  refine e_iastL (pc := 392) (ys := tw ww_words 15) (w2 := [x0, x1, x2, x3, x4, x5, x6, x7, x8, x9, x10, x11, x12, x13, x14, x15, x16, x17, x18, x19, x20, x21, x22, x23, x24, x25, x26, x27, x28, x29, x30, x31, x32, x33, x34, x35, x36, x37, x38, x39, x40, .inr (.inl (tw ww_words 15))]) dX7_init_392 rfl (vi_of (by decide +kernel)) (by decide +kernel) rfl ?_
  refine e_dup (pc := 393) dX7_init_393 rfl ?_
  refine e_bipush (v := 15) (pc := 394) dX7_init_394 (by decide) ?_
  refine e_bipush (v := 32) (pc := 396) dX7_init_396 (by decide) ?_
  refine e_iastL (pc := 398) (ys := tw ww_words 16) (w2 := [x0, x1, x2, x3, x4, x5, x6, x7, x8, x9, x10, x11, x12, x13, x14, x15, x16, x17, x18, x19, x20, x21, x22, x23, x24, x25, x26, x27, x28, x29, x30, x31, x32, x33, x34, x35, x36, x37, x38, x39, x40, .inr (.inl (tw ww_words 16))]) dX7_init_398 rfl (vi_of (by decide +kernel)) (by decide +kernel) rfl ?_
  refine e_dup (pc := 399) dX7_init_399 rfl ?_
  refine e_bipush (v := 16) (pc := 400) dX7_init_400 (by decide) ?_
  refine e_bipush (v := 99) (pc := 402) dX7_init_402 (by decide) ?_
  refine e_iastL (pc := 404) (ys := tw ww_words 17) (w2 := [x0, x1, x2, x3, x4, x5, x6, x7, x8, x9, x10, x11, x12, x13, x14, x15, x16, x17, x18, x19, x20, x21, x22, x23, x24, x25, x26, x27, x28, x29, x30, x31, x32, x33, x34, x35, x36, x37, x38, x39, x40, .inr (.inl (tw ww_words 17))]) dX7_init_404 rfl (vi_of (by decide +kernel)) (by decide +kernel) rfl ?_
  refine e_dup (pc := 405) dX7_init_405 rfl ?_
  refine e_bipush (v := 17) (pc := 406) dX7_init_406 (by decide) ?_
  refine e_bipush (v := 111) (pc := 408) dX7_init_408 (by decide) ?_
  refine e_iastL (pc := 410) (ys := tw ww_words 18) (w2 := [x0, x1, x2, x3, x4, x5, x6, x7, x8, x9, x10, x11, x12, x13, x14, x15, x16, x17, x18, x19, x20, x21, x22, x23, x24, x25, x26, x27, x28, x29, x30, x31, x32, x33, x34, x35, x36, x37, x38, x39, x40, .inr (.inl (tw ww_words 18))]) dX7_init_410 rfl (vi_of (by decide +kernel)) (by decide +kernel) rfl ?_
  refine e_dup (pc := 411) dX7_init_411 rfl ?_
  refine e_bipush (v := 18) (pc := 412) dX7_init_412 (by decide) ?_
  refine e_bipush (v := 115) (pc := 414) dX7_init_414 (by decide) ?_
  refine e_iastL (pc := 416) (ys := tw ww_words 19) (w2 := [x0, x1, x2, x3, x4, x5, x6, x7, x8, x9, x10, x11, x12, x13, x14, x15, x16, x17, x18, x19, x20, x21, x22, x23, x24, x25, x26, x27, x28, x29, x30, x31, x32, x33, x34, x35, x36, x37, x38, x39, x40, .inr (.inl (tw ww_words 19))]) dX7_init_416 rfl (vi_of (by decide +kernel)) (by decide +kernel) rfl ?_
  refine e_dup (pc := 417) dX7_init_417 rfl ?_
  refine e_bipush (v := 19) (pc := 418) dX7_init_418 (by decide) ?_
  refine e_bipush (v := 116) (pc := 420) dX7_init_420 (by decide) ?_
  refine e_iastL (pc := 422) (ys := tw ww_words 20) (w2 := [x0, x1, x2, x3, x4, x5, x6, x7, x8, x9, x10, x11, x12, x13, x14, x15, x16, x17, x18, x19, x20, x21, x22, x23, x24, x25, x26, x27, x28, x29, x30, x31, x32, x33, x34, x35, x36, x37, x38, x39, x40, .inr (.inl (tw ww_words 20))]) dX7_init_422 rfl (vi_of (by decide +kernel)) (by decide +kernel) rfl ?_
  refine e_dup (pc := 423) dX7_init_423 rfl ?_
  refine e_bipush (v := 20) (pc := 424) dX7_init_424 (by decide) ?_
  refine e_bipush (v := 115) (pc := 426) dX7_init_426 (by decide) ?_
  refine e_iastL (pc := 428) (ys := tw ww_words 21) (w2 := [x0, x1, x2, x3, x4, x5, x6, x7, x8, x9, x10, x11, x12, x13, x14, x15, x16, x17, x18, x19, x20, x21, x22, x23, x24, x25, x26, x27, x28, x29, x30, x31, x32, x33, x34, x35, x36, x37, x38, x39, x40, .inr (.inl (tw ww_words 21))]) dX7_init_428 rfl (vi_of (by decide +kernel)) (by decide +kernel) rfl ?_
  refine e_dup (pc := 429) dX7_init_429 rfl ?_
  refine e_bipush (v := 21) (pc := 430) dX7_init_430 (by decide) ?_
  refine e_bipush (v := 32) (pc := 432) dX7_init_432 (by decide) ?_
  refine e_iastL (pc := 434) (ys := tw ww_words 22) (w2 := [x0, x1, x2, x3, x4, x5, x6, x7, x8, x9, x10, x11, x12, x13, x14, x15, x16, x17, x18, x19, x20, x21, x22, x23, x24, x25, x26, x27, x28, x29, x30, x31, x32, x33, x34, x35, x36, x37, x38, x39, x40, .inr (.inl (tw ww_words 22))]) dX7_init_434 rfl (vi_of (by decide +kernel)) (by decide +kernel) rfl ?_
  refine e_dup (pc := 435) dX7_init_435 rfl ?_
  refine e_bipush (v := 22) (pc := 436) dX7_init_436 (by decide) ?_
  refine e_bipush (v := 32) (pc := 438) dX7_init_438 (by decide) ?_
  refine e_iastL (pc := 440) (ys := tw ww_words 23) (w2 := [x0, x1, x2, x3, x4, x5, x6, x7, x8, x9, x10, x11, x12, x13, x14, x15, x16, x17, x18, x19, x20, x21, x22, x23, x24, x25, x26, x27, x28, x29, x30, x31, x32, x33, x34, x35, x36, x37, x38, x39, x40, .inr (.inl (tw ww_words 23))]) dX7_init_440 rfl (vi_of (by decide +kernel)) (by decide +kernel) rfl ?_
  refine e_dup (pc := 441) dX7_init_441 rfl ?_
  refine e_bipush (v := 23) (pc := 442) dX7_init_442 (by decide) ?_
  refine e_bipush (v := 32) (pc := 444) dX7_init_444 (by decide) ?_
  refine e_iastL (pc := 446) (ys := tw ww_words 24) (w2 := [x0, x1, x2, x3, x4, x5, x6, x7, x8, x9, x10, x11, x12, x13, x14, x15, x16, x17, x18, x19, x20, x21, x22, x23, x24, x25, x26, x27, x28, x29, x30, x31, x32, x33, x34, x35, x36, x37, x38, x39, x40, .inr (.inl (tw ww_words 24))]) dX7_init_446 rfl (vi_of (by decide +kernel)) (by decide +kernel) rfl ?_
  refine e_dup (pc := 447) dX7_init_447 rfl ?_
  refine e_bipush (v := 24) (pc := 448) dX7_init_448 (by decide) ?_
  refine e_bipush (v := 109) (pc := 450) dX7_init_450 (by decide) ?_
  refine e_iastL (pc := 452) (ys := tw ww_words 25) (w2 := [x0, x1, x2, x3, x4, x5, x6, x7, x8, x9, x10, x11, x12, x13, x14, x15, x16, x17, x18, x19, x20, x21, x22, x23, x24, x25, x26, x27, x28, x29, x30, x31, x32, x33, x34, x35, x36, x37, x38, x39, x40, .inr (.inl (tw ww_words 25))]) dX7_init_452 rfl (vi_of (by decide +kernel)) (by decide +kernel) rfl ?_
  refine e_dup (pc := 453) dX7_init_453 rfl ?_
  refine e_bipush (v := 25) (pc := 454) dX7_init_454 (by decide) ?_
  refine e_bipush (v := 111) (pc := 456) dX7_init_456 (by decide) ?_
  refine e_iastL (pc := 458) (ys := tw ww_words 26) (w2 := [x0, x1, x2, x3, x4, x5, x6, x7, x8, x9, x10, x11, x12, x13, x14, x15, x16, x17, x18, x19, x20, x21, x22, x23, x24, x25, x26, x27, x28, x29, x30, x31, x32, x33, x34, x35, x36, x37, x38, x39, x40, .inr (.inl (tw ww_words 26))]) dX7_init_458 rfl (vi_of (by decide +kernel)) (by decide +kernel) rfl ?_
  refine e_dup (pc := 459) dX7_init_459 rfl ?_
  refine e_bipush (v := 26) (pc := 460) dX7_init_460 (by decide) ?_
  refine e_bipush (v := 114) (pc := 462) dX7_init_462 (by decide) ?_
  refine e_iastL (pc := 464) (ys := tw ww_words 27) (w2 := [x0, x1, x2, x3, x4, x5, x6, x7, x8, x9, x10, x11, x12, x13, x14, x15, x16, x17, x18, x19, x20, x21, x22, x23, x24, x25, x26, x27, x28, x29, x30, x31, x32, x33, x34, x35, x36, x37, x38, x39, x40, .inr (.inl (tw ww_words 27))]) dX7_init_464 rfl (vi_of (by decide +kernel)) (by decide +kernel) rfl ?_
  refine e_dup (pc := 465) dX7_init_465 rfl ?_
  refine e_bipush (v := 27) (pc := 466) dX7_init_466 (by decide) ?_
  refine e_bipush (v := 101) (pc := 468) dX7_init_468 (by decide) ?_
  refine e_iastL (pc := 470) (ys := tw ww_words 28) (w2 := [x0, x1, x2, x3, x4, x5, x6, x7, x8, x9, x10, x11, x12, x13, x14, x15, x16, x17, x18, x19, x20, x21, x22, x23, x24, x25, x26, x27, x28, x29, x30, x31, x32, x33, x34, x35, x36, x37, x38, x39, x40, .inr (.inl (tw ww_words 28))]) dX7_init_470 rfl (vi_of (by decide +kernel)) (by decide +kernel) rfl ?_
  refine e_dup (pc := 471) dX7_init_471 rfl ?_
  refine e_bipush (v := 28) (pc := 472) dX7_init_472 (by decide) ?_
  refine e_bipush (v := 32) (pc := 474) dX7_init_474 (by decide) ?_
  refine e_iastL (pc := 476) (ys := tw ww_words 29) (w2 := [x0, x1, x2, x3, x4, x5, x6, x7, x8, x9, x10, x11, x12, x13, x14, x15, x16, x17, x18, x19, x20, x21, x22, x23, x24, x25, x26, x27, x28, x29, x30, x31, x32, x33, x34, x35, x36, x37, x38, x39, x40, .inr (.inl (tw ww_words 29))]) dX7_init_476 rfl (vi_of (by decide +kernel)) (by decide +kernel) rfl ?_
  refine e_dup (pc := 477) dX7_init_477 rfl ?_
  refine e_bipush (v := 29) (pc := 478) dX7_init_478 (by decide) ?_
  refine e_bipush (v := 32) (pc := 480) dX7_init_480 (by decide) ?_
  refine e_iastL (pc := 482) (ys := tw ww_words 30) (w2 := [x0, x1, x2, x3, x4, x5, x6, x7, x8, x9, x10, x11, x12, x13, x14, x15, x16, x17, x18, x19, x20, x21, x22, x23, x24, x25, x26, x27, x28, x29, x30, x31, x32, x33, x34, x35, x36, x37, x38, x39, x40, .inr (.inl (tw ww_words 30))]) dX7_init_482 rfl (vi_of (by decide +kernel)) (by decide +kernel) rfl ?_
  refine e_dup (pc := 483) dX7_init_483 rfl ?_
  refine e_bipush (v := 30) (pc := 484) dX7_init_484 (by decide) ?_
  refine e_bipush (v := 32) (pc := 486) dX7_init_486 (by decide) ?_
  refine e_iastL (pc := 488) (ys := tw ww_words 31) (w2 := [x0, x1, x2, x3, x4, x5, x6, x7, x8, x9, x10, x11, x12, x13, x14, x15, x16, x17, x18, x19, x20, x21, x22, x23, x24, x25, x26, x27, x28, x29, x30, x31, x32, x33, x34, x35, x36, x37, x38, x39, x40, .inr (.inl (tw ww_words 31))]) dX7_init_488 rfl (vi_of (by decide +kernel)) (by decide +kernel) rfl ?_
  refine e_dup (pc := 489) dX7_init_489 rfl ?_
  refine e_bipush (v := 31) (pc := 490) dX7_init_490 (by decide) ?_
  refine e_bipush (v := 32) (pc := 492) dX7_init_492 (by decide) ?_
  refine e_iastL (pc := 494) (ys := tw ww_words 32) (w2 := [x0, x1, x2, x3, x4, x5, x6, x7, x8, x9, x10, x11, x12, x13, x14, x15, x16, x17, x18, x19, x20, x21, x22, x23, x24, x25, x26, x27, x28, x29, x30, x31, x32, x33, x34, x35, x36, x37, x38, x39, x40, .inr (.inl (tw ww_words 32))]) dX7_init_494 rfl (vi_of (by decide +kernel)) (by decide +kernel) rfl ?_
  refine e_dup (pc := 495) dX7_init_495 rfl ?_
  refine e_bipush (v := 32) (pc := 496) dX7_init_496 (by decide) ?_
  refine e_bipush (v := 99) (pc := 498) dX7_init_498 (by decide) ?_
  refine e_iastL (pc := 500) (ys := tw ww_words 33) (w2 := [x0, x1, x2, x3, x4, x5, x6, x7, x8, x9, x10, x11, x12, x13, x14, x15, x16, x17, x18, x19, x20, x21, x22, x23, x24, x25, x26, x27, x28, x29, x30, x31, x32, x33, x34, x35, x36, x37, x38, x39, x40, .inr (.inl (tw ww_words 33))]) dX7_init_500 rfl (vi_of (by decide +kernel)) (by decide +kernel) rfl ?_
  refine e_dup (pc := 501) dX7_init_501 rfl ?_
  refine e_bipush (v := 33) (pc := 502) dX7_init_502 (by decide) ?_
  refine e_bipush (v := 108) (pc := 504) dX7_init_504 (by decide) ?_
  refine e_iastL (pc := 506) (ys := tw ww_words 34) (w2 := [x0, x1, x2, x3, x4, x5, x6, x7, x8, x9, x10, x11, x12, x13, x14, x15, x16, x17, x18, x19, x20, x21, x22, x23, x24, x25, x26, x27, x28, x29, x30, x31, x32, x33, x34, x35, x36, x37, x38, x39, x40, .inr (.inl (tw ww_words 34))]) dX7_init_506 rfl (vi_of (by decide +kernel)) (by decide +kernel) rfl ?_
  refine e_dup (pc := 507) dX7_init_507 rfl ?_
  refine e_bipush (v := 34) (pc := 508) dX7_init_508 (by decide) ?_
  refine e_bipush (v := 101) (pc := 510) dX7_init_510 (by decide) ?_
  refine e_iastL (pc := 512) (ys := tw ww_words 35) (w2 := [x0, x1, x2, x3, x4, x5, x6, x7, x8, x9, x10, x11, x12, x13, x14, x15, x16, x17, x18, x19, x20, x21, x22, x23, x24, x25, x26, x27, x28, x29, x30, x31, x32, x33, x34, x35, x36, x37, x38, x39, x40, .inr (.inl (tw ww_words 35))]) dX7_init_512 rfl (vi_of (by decide +kernel)) (by decide +kernel) rfl ?_
  refine e_dup (pc := 513) dX7_init_513 rfl ?_
  refine e_bipush (v := 35) (pc := 514) dX7_init_514 (by decide) ?_
  refine e_bipush (v := 114) (pc := 516) dX7_init_516 (by decide) ?_
  refine e_iastL (pc := 518) (ys := tw ww_words 36) (w2 := [x0, x1, x2, x3, x4, x5, x6, x7, x8, x9, x10, x11, x12, x13, x14, x15, x16, x17, x18, x19, x20, x21, x22, x23, x24, x25, x26, x27, x28, x29, x30, x31, x32, x33, x34, x35, x36, x37, x38, x39, x40, .inr (.inl (tw ww_words 36))]) dX7_init_518 rfl (vi_of (by decide +kernel)) (by decide +kernel) rfl ?_
  refine e_dup (pc := 519) dX7_init_519 rfl ?_
  refine e_bipush (v := 36) (pc := 520) dX7_init_520 (by decide) ?_
  refine e_bipush (v := 107) (pc := 522) dX7_init_522 (by decide) ?_
  refine e_iastL (pc := 524) (ys := tw ww_words 37) (w2 := [x0, x1, x2, x3, x4, x5, x6, x7, x8, x9, x10, x11, x12, x13, x14, x15, x16, x17, x18, x19, x20, x21, x22, x23, x24, x25, x26, x27, x28, x29, x30, x31, x32, x33, x34, x35, x36, x37, x38, x39, x40, .inr (.inl (tw ww_words 37))]) dX7_init_524 rfl (vi_of (by decide +kernel)) (by decide +kernel) rfl ?_
  refine e_dup (pc := 525) dX7_init_525 rfl ?_
  refine e_bipush (v := 37) (pc := 526) dX7_init_526 (by decide) ?_
  refine e_bipush (v := 32) (pc := 528) dX7_init_528 (by decide) ?_
  refine e_iastL (pc := 530) (ys := tw ww_words 38) (w2 := [x0, x1, x2, x3, x4, x5, x6, x7, x8, x9, x10, x11, x12, x13, x14, x15, x16, x17, x18, x19, x20, x21, x22, x23, x24, x25, x26, x27, x28, x29, x30, x31, x32, x33, x34, x35, x36, x37, x38, x39, x40, .inr (.inl (tw ww_words 38))]) dX7_init_530 rfl (vi_of (by decide +kernel)) (by decide +kernel) rfl ?_
  refine e_dup (pc := 531) dX7_init_531 rfl ?_
  refine e_bipush (v := 38) (pc := 532) dX7_init_532 (by decide) ?_
  refine e_bipush (v := 32) (pc := 534) dX7_init_534 (by decide) ?_
  refine e_iastL (pc := 536) (ys := tw ww_words 39) (w2 := [x0, x1, x2, x3, x4, x5, x6, x7, x8, x9, x10, x11, x12, x13, x14, x15, x16, x17, x18, x19, x20, x21, x22, x23, x24, x25, x26, x27, x28, x29, x30, x31, x32, x33, x34, x35, x36, x37, x38, x39, x40, .inr (.inl (tw ww_words 39))]) dX7_init_536 rfl (vi_of (by decide +kernel)) (by decide +kernel) rfl ?_
  refine e_dup (pc := 537) dX7_init_537 rfl ?_
  refine e_bipush (v := 39) (pc := 538) dX7_init_538 (by decide) ?_
  refine e_bipush (v := 32) (pc := 540) dX7_init_540 (by decide) ?_
  refine e_iastL (pc := 542) (ys := tw ww_words 40) (w2 := [x0, x1, x2, x3, x4, x5, x6, x7, x8, x9, x10, x11, x12, x13, x14, x15, x16, x17, x18, x19, x20, x21, x22, x23, x24, x25, x26, x27, x28, x29, x30, x31, x32, x33, x34, x35, x36, x37, x38, x39, x40, .inr (.inl (tw ww_words 40))]) dX7_init_542 rfl (vi_of (by decide +kernel)) (by decide +kernel) rfl ?_
  refine e_dup (pc := 543) dX7_init_543 rfl ?_
  refine e_bipush (v := 40) (pc := 544) dX7_init_544 (by decide) ?_
  refine e_bipush (v := 118) (pc := 546) dX7_init_546 (by decide) ?_
  refine e_iastL (pc := 548) (ys := tw ww_words 41) (w2 := [x0, x1, x2, x3, x4, x5, x6, x7, x8, x9, x10, x11, x12, x13, x14, x15, x16, x17, x18, x19, x20, x21, x22, x23, x24, x25, x26, x27, x28, x29, x30, x31, x32, x33, x34, x35, x36, x37, x38, x39, x40, .inr (.inl (tw ww_words 41))]) dX7_init_548 rfl (vi_of (by decide +kernel)) (by decide +kernel) rfl ?_
  refine e_dup (pc := 549) dX7_init_549 rfl ?_
  refine e_bipush (v := 41) (pc := 550) dX7_init_550 (by decide) ?_
  refine e_bipush (v := 32) (pc := 552) dX7_init_552 (by decide) ?_
  refine e_iastL (pc := 554) (ys := tw ww_words 42) (w2 := [x0, x1, x2, x3, x4, x5, x6, x7, x8, x9, x10, x11, x12, x13, x14, x15, x16, x17, x18, x19, x20, x21, x22, x23, x24, x25, x26, x27, x28, x29, x30, x31, x32, x33, x34, x35, x36, x37, x38, x39, x40, .inr (.inl (tw ww_words 42))]) dX7_init_554 rfl (vi_of (by decide +kernel)) (by decide +kernel) rfl ?_
  refine e_dup (pc := 555) dX7_init_555 rfl ?_
  refine e_bipush (v := 42) (pc := 556) dX7_init_556 (by decide) ?_
  refine e_bipush (v := 32) (pc := 558) dX7_init_558 (by decide) ?_
  refine e_iastL (pc := 560) (ys := tw ww_words 43) (w2 := [x0, x1, x2, x3, x4, x5, x6, x7, x8, x9, x10, x11, x12, x13, x14, x15, x16, x17, x18, x19, x20, x21, x22, x23, x24, x25, x26, x27, x28, x29, x30, x31, x32, x33, x34, x35, x36, x37, x38, x39, x40, .inr (.inl (tw ww_words 43))]) dX7_init_560 rfl (vi_of (by decide +kernel)) (by decide +kernel) rfl ?_
  refine e_dup (pc := 561) dX7_init_561 rfl ?_
  refine e_bipush (v := 43) (pc := 562) dX7_init_562 (by decide) ?_
  refine e_bipush (v := 32) (pc := 564) dX7_init_564 (by decide) ?_
  refine e_iastL (pc := 566) (ys := tw ww_words 44) (w2 := [x0, x1, x2, x3, x4, x5, x6, x7, x8, x9, x10, x11, x12, x13, x14, x15, x16, x17, x18, x19, x20, x21, x22, x23, x24, x25, x26, x27, x28, x29, x30, x31, x32, x33, x34, x35, x36, x37, x38, x39, x40, .inr (.inl (tw ww_words 44))]) dX7_init_566 rfl (vi_of (by decide +kernel)) (by decide +kernel) rfl ?_
  refine e_dup (pc := 567) dX7_init_567 rfl ?_
  refine e_bipush (v := 44) (pc := 568) dX7_init_568 (by decide) ?_
  refine e_bipush (v := 32) (pc := 570) dX7_init_570 (by decide) ?_
  refine e_iastL (pc := 572) (ys := tw ww_words 45) (w2 := [x0, x1, x2, x3, x4, x5, x6, x7, x8, x9, x10, x11, x12, x13, x14, x15, x16, x17, x18, x19, x20, x21, x22, x23, x24, x25, x26, x27, x28, x29, x30, x31, x32, x33, x34, x35, x36, x37, x38, x39, x40, .inr (.inl (tw ww_words 45))]) dX7_init_572 rfl (vi_of (by decide +kernel)) (by decide +kernel) rfl ?_
  refine e_dup (pc := 573) dX7_init_573 rfl ?_
  refine e_bipush (v := 45) (pc := 574) dX7_init_574 (by decide) ?_
  refine e_bipush (v := 32) (pc := 576) dX7_init_576 (by decide) ?_
  refine e_iastL (pc := 578) (ys := tw ww_words 46) (w2 := [x0, x1, x2, x3, x4, x5, x6, x7, x8, x9, x10, x11, x12, x13, x14, x15, x16, x17, x18, x19, x20, x21, x22, x23, x24, x25, x26, x27, x28, x29, x30, x31, x32, x33, x34, x35, x36, x37, x38, x39, x40, .inr (.inl (tw ww_words 46))]) dX7_init_578 rfl (vi_of (by decide +kernel)) (by decide +kernel) rfl ?_
  refine e_dup (pc := 579) dX7_init_579 rfl ?_
  refine e_bipush (v := 46) (pc := 580) dX7_init_580 (by decide) ?_
  refine e_bipush (v := 32) (pc := 582) dX7_init_582 (by decide) ?_
  refine e_iastL (pc := 584) (ys := tw ww_words 47) (w2 := [x0, x1, x2, x3, x4, x5, x6, x7, x8, x9, x10, x11, x12, x13, x14, x15, x16, x17, x18, x19, x20, x21, x22, x23, x24, x25, x26, x27, x28, x29, x30, x31, x32, x33, x34, x35, x36, x37, x38, x39, x40, .inr (.inl (tw ww_words 47))]) dX7_init_584 rfl (vi_of (by decide +kernel)) (by decide +kernel) rfl ?_
  refine e_dup (pc := 585) dX7_init_585 rfl ?_
  refine e_bipush (v := 47) (pc := 586) dX7_init_586 (by decide) ?_
  refine e_bipush (v := 32) (pc := 588) dX7_init_588 (by decide) ?_
  refine e_iastL (pc := 590) (ys := tw ww_words 48) (w2 := [x0, x1, x2, x3, x4, x5, x6, x7, x8, x9, x10, x11, x12, x13, x14, x15, x16, x17, x18, x19, x20, x21, x22, x23, x24, x25, x26, x27, x28, x29, x30, x31, x32, x33, x34, x35, x36, x37, x38, x39, x40, .inr (.inl (tw ww_words 48))]) dX7_init_590 rfl (vi_of (by decide +kernel)) (by decide +kernel) rfl ?_
  refine e_dup (pc := 591) dX7_init_591 rfl ?_
  refine e_bipush (v := 48) (pc := 592) dX7_init_592 (by decide) ?_
  refine e_bipush (v := 111) (pc := 594) dX7_init_594 (by decide) ?_
  refine e_iastL (pc := 596) (ys := tw ww_words 49) (w2 := [x0, x1, x2, x3, x4, x5, x6, x7, x8, x9, x10, x11, x12, x13, x14, x15, x16, x17, x18, x19, x20, x21, x22, x23, x24, x25, x26, x27, x28, x29, x30, x31, x32, x33, x34, x35, x36, x37, x38, x39, x40, .inr (.inl (tw ww_words 49))]) dX7_init_596 rfl (vi_of (by decide +kernel)) (by decide +kernel) rfl ?_
  refine e_dup (pc := 597) dX7_init_597 rfl ?_
  refine e_bipush (v := 49) (pc := 598) dX7_init_598 (by decide) ?_
  refine e_bipush (v := 102) (pc := 600) dX7_init_600 (by decide) ?_
  refine e_iastL (pc := 602) (ys := tw ww_words 50) (w2 := [x0, x1, x2, x3, x4, x5, x6, x7, x8, x9, x10, x11, x12, x13, x14, x15, x16, x17, x18, x19, x20, x21, x22, x23, x24, x25, x26, x27, x28, x29, x30, x31, x32, x33, x34, x35, x36, x37, x38, x39, x40, .inr (.inl (tw ww_words 50))]) dX7_init_602 rfl (vi_of (by decide +kernel)) (by decide +kernel) rfl ?_
  refine e_dup (pc := 603) dX7_init_603 rfl ?_
  refine e_bipush (v := 50) (pc := 604) dX7_init_604 (by decide) ?_
  refine e_bipush (v := 102) (pc := 606) dX7_init_606 (by decide) ?_
  refine e_iastL (pc := 608) (ys := tw ww_words 51) (w2 := [x0, x1, x2, x3, x4, x5, x6, x7, x8, x9, x10, x11, x12, x13, x14, x15, x16, x17, x18, x19, x20, x21, x22, x23, x24, x25, x26, x27, x28, x29, x30, x31, x32, x33, x34, x35, x36, x37, x38, x39, x40, .inr (.inl (tw ww_words 51))]) dX7_init_608 rfl (vi_of (by decide +kernel)) (by decide +kernel) rfl ?_
  refine e_dup (pc := 609) dX7_init_609 rfl ?_
  refine e_bipush (v := 51) (pc := 610) dX7_init_610 (by decide) ?_
  refine e_bipush (v := 32) (pc := 612) dX7_init_612 (by decide) ?_
  refine e_iastL (pc := 614) (ys := tw ww_words 52) (w2 := [x0, x1, x2, x3, x4, x5, x6, x7, x8, x9, x10, x11, x12, x13, x14, x15, x16, x17, x18, x19, x20, x21, x22, x23, x24, x25, x26, x27, x28, x29, x30, x31, x32, x33, x34, x35, x36, x37, x38, x39, x40, .inr (.inl (tw ww_words 52))]) dX7_init_614 rfl (vi_of (by decide +kernel)) (by decide +kernel) rfl ?_
  refine e_dup (pc := 615) dX7_init_615 rfl ?_
  refine e_bipush (v := 52) (pc := 616) dX7_init_616 (by decide) ?_
  refine e_bipush (v := 32) (pc := 618) dX7_init_618 (by decide) ?_
  refine e_iastL (pc := 620) (ys := tw ww_words 53) (w2 := [x0, x1, x2, x3, x4, x5, x6, x7, x8, x9, x10, x11, x12, x13, x14, x15, x16, x17, x18, x19, x20, x21, x22, x23, x24, x25, x26, x27, x28, x29, x30, x31, x32, x33, x34, x35, x36, x37, x38, x39, x40, .inr (.inl (tw ww_words 53))]) dX7_init_620 rfl (vi_of (by decide +kernel)) (by decide +kernel) rfl ?_
  refine e_dup (pc := 621) dX7_init_621 rfl ?_
  refine e_bipush (v := 53) (pc := 622) dX7_init_622 (by decide) ?_
  refine e_bipush (v := 32) (pc := 624) dX7_init_624 (by decide) ?_
  refine e_iastL (pc := 626) (ys := tw ww_words 54) (w2 := [x0, x1, x2, x3, x4, x5, x6, x7, x8, x9, x10, x11, x12, x13, x14, x15, x16, x17, x18, x19, x20, x21, x22, x23, x24, x25, x26, x27, x28, x29, x30, x31, x32, x33, x34, x35, x36, x37, x38, x39, x40, .inr (.inl (tw ww_words 54))]) dX7_init_626 rfl (vi_of (by decide +kernel)) (by decide +kernel) rfl ?_
  refine e_dup (pc := 627) dX7_init_627 rfl ?_
  refine e_bipush (v := 54) (pc := 628) dX7_init_628 (by decide) ?_
  refine e_bipush (v := 32) (pc := 630) dX7_init_630 (by decide) ?_
  refine e_iastL (pc := 632) (ys := tw ww_words 55) (w2 := [x0, x1, x2, x3, x4, x5, x6, x7, x8, x9, x10, x11, x12, x13, x14, x15, x16, x17, x18, x19, x20, x21, x22, x23, x24, x25, x26, x27, x28, x29, x30, x31, x32, x33, x34, x35, x36, x37, x38, x39, x40, .inr (.inl (tw ww_words 55))]) dX7_init_632 rfl (vi_of (by decide +kernel)) (by decide +kernel) rfl ?_
  refine e_dup (pc := 633) dX7_init_633 rfl ?_
  refine e_bipush (v := 55) (pc := 634) dX7_init_634 (by decide) ?_
  refine e_bipush (v := 32) (pc := 636) dX7_init_636 (by decide) ?_
  refine e_iastL (pc := 638) (ys := tw ww_words 56) (w2 := [x0, x1, x2, x3, x4, x5, x6, x7, x8, x9, x10, x11, x12, x13, x14, x15, x16, x17, x18, x19, x20, x21, x22, x23, x24, x25, x26, x27, x28, x29, x30, x31, x32, x33, x34, x35, x36, x37, x38, x39, x40, .inr (.inl (tw ww_words 56))]) dX7_init_638 rfl (vi_of (by decide +kernel)) (by decide +kernel) rfl ?_
  refine e_dup (pc := 639) dX7_init_639 rfl ?_
  refine e_bipush (v := 56) (pc := 640) dX7_init_640 (by decide) ?_
  refine e_bipush (v := 98) (pc := 642) dX7_init_642 (by decide) ?_
  refine e_iastL (pc := 644) (ys := tw ww_words 57) (w2 := [x0, x1, x2, x3, x4, x5, x6, x7, x8, x9, x10, x11, x12, x13, x14, x15, x16, x17, x18, x19, x20, x21, x22, x23, x24, x25, x26, x27, x28, x29, x30, x31, x32, x33, x34, x35, x36, x37, x38, x39, x40, .inr (.inl (tw ww_words 57))]) dX7_init_644 rfl (vi_of (by decide +kernel)) (by decide +kernel) rfl ?_
  refine e_dup (pc := 645) dX7_init_645 rfl ?_
  refine e_bipush (v := 57) (pc := 646) dX7_init_646 (by decide) ?_
  refine e_bipush (v := 97) (pc := 648) dX7_init_648 (by decide) ?_
  refine e_iastL (pc := 650) (ys := tw ww_words 58) (w2 := [x0, x1, x2, x3, x4, x5, x6, x7, x8, x9, x10, x11, x12, x13, x14, x15, x16, x17, x18, x19, x20, x21, x22, x23, x24, x25, x26, x27, x28, x29, x30, x31, x32, x33, x34, x35, x36, x37, x38, x39, x40, .inr (.inl (tw ww_words 58))]) dX7_init_650 rfl (vi_of (by decide +kernel)) (by decide +kernel) rfl ?_
  refine e_dup (pc := 651) dX7_init_651 rfl ?_
  refine e_bipush (v := 58) (pc := 652) dX7_init_652 (by decide) ?_
  refine e_bipush (v := 115) (pc := 654) dX7_init_654 (by decide) ?_
  refine e_iastL (pc := 656) (ys := tw ww_words 59) (w2 := [x0, x1, x2, x3, x4, x5, x6, x7, x8, x9, x10, x11, x12, x13, x14, x15, x16, x17, x18, x19, x20, x21, x22, x23, x24, x25, x26, x27, x28, x29, x30, x31, x32, x33, x34, x35, x36, x37, x38, x39, x40, .inr (.inl (tw ww_words 59))]) dX7_init_656 rfl (vi_of (by decide +kernel)) (by decide +kernel) rfl ?_
  refine e_dup (pc := 657) dX7_init_657 rfl ?_
  refine e_bipush (v := 59) (pc := 658) dX7_init_658 (by decide) ?_
  refine e_bipush (v := 101) (pc := 660) dX7_init_660 (by decide) ?_
  refine e_iastL (pc := 662) (ys := tw ww_words 60) (w2 := [x0, x1, x2, x3, x4, x5, x6, x7, x8, x9, x10, x11, x12, x13, x14, x15, x16, x17, x18, x19, x20, x21, x22, x23, x24, x25, x26, x27, x28, x29, x30, x31, x32, x33, x34, x35, x36, x37, x38, x39, x40, .inr (.inl (tw ww_words 60))]) dX7_init_662 rfl (vi_of (by decide +kernel)) (by decide +kernel) rfl ?_
  refine e_dup (pc := 663) dX7_init_663 rfl ?_
  refine e_bipush (v := 60) (pc := 664) dX7_init_664 (by decide) ?_
  refine e_bipush (v := 32) (pc := 666) dX7_init_666 (by decide) ?_
  refine e_iastL (pc := 668) (ys := tw ww_words 61) (w2 := [x0, x1, x2, x3, x4, x5, x6, x7, x8, x9, x10, x11, x12, x13, x14, x15, x16, x17, x18, x19, x20, x21, x22, x23, x24, x25, x26, x27, x28, x29, x30, x31, x32, x33, x34, x35, x36, x37, x38, x39, x40, .inr (.inl (tw ww_words 61))]) dX7_init_668 rfl (vi_of (by decide +kernel)) (by decide +kernel) rfl ?_
  refine e_dup (pc := 669) dX7_init_669 rfl ?_
  refine e_bipush (v := 61) (pc := 670) dX7_init_670 (by decide) ?_
  refine e_bipush (v := 32) (pc := 672) dX7_init_672 (by decide) ?_
  refine e_iastL (pc := 674) (ys := tw ww_words 62) (w2 := [x0, x1, x2, x3, x4, x5, x6, x7, x8, x9, x10, x11, x12, x13, x14, x15, x16, x17, x18, x19, x20, x21, x22, x23, x24, x25, x26, x27, x28, x29, x30, x31, x32, x33, x34, x35, x36, x37, x38, x39, x40, .inr (.inl (tw ww_words 62))]) dX7_init_674 rfl (vi_of (by decide +kernel)) (by decide +kernel) rfl ?_
  refine e_dup (pc := 675) dX7_init_675 rfl ?_
  refine e_bipush (v := 62) (pc := 676) dX7_init_676 (by decide) ?_
  refine e_bipush (v := 32) (pc := 678) dX7_init_678 (by decide) ?_
  refine e_iastL (pc := 680) (ys := tw ww_words 63) (w2 := [x0, x1, x2, x3, x4, x5, x6, x7, x8, x9, x10, x11, x12, x13, x14, x15, x16, x17, x18, x19, x20, x21, x22, x23, x24, x25, x26, x27, x28, x29, x30, x31, x32, x33, x34, x35, x36, x37, x38, x39, x40, .inr (.inl (tw ww_words 63))]) dX7_init_680 rfl (vi_of (by decide +kernel)) (by decide +kernel) rfl ?_
  refine e_dup (pc := 681) dX7_init_681 rfl ?_
  refine e_bipush (v := 63) (pc := 682) dX7_init_682 (by decide) ?_
  refine e_bipush (v := 32) (pc := 684) dX7_init_684 (by decide) ?_
  refine e_iastL (pc := 686) (ys := tw ww_words 64) (w2 := [x0, x1, x2, x3, x4, x5, x6, x7, x8, x9, x10, x11, x12, x13, x14, x15, x16, x17, x18, x19, x20, x21, x22, x23, x24, x25, x26, x27, x28, x29, x30, x31, x32, x33, x34, x35, x36, x37, x38, x39, x40, .inr (.inl (tw ww_words 64))]) dX7_init_686 rfl (vi_of (by decide +kernel)) (by decide +kernel) rfl ?_
  refine e_dup (pc := 687) dX7_init_687 rfl ?_
  refine e_bipush (v := 64) (pc := 688) dX7_init_688 (by decide) ?_
  refine e_bipush (v := 121) (pc := 690) dX7_init_690 (by decide) ?_
  refine e_iastL (pc := 692) (ys := tw ww_words 65) (w2 := [x0, x1, x2, x3, x4, x5, x6, x7, x8, x9, x10, x11, x12, x13, x14, x15, x16, x17, x18, x19, x20, x21, x22, x23, x24, x25, x26, x27, x28, x29, x30, x31, x32, x33, x34, x35, x36, x37, x38, x39, x40, .inr (.inl (tw ww_words 65))]) dX7_init_692 rfl (vi_of (by decide +kernel)) (by decide +kernel) rfl ?_
  refine e_dup (pc := 693) dX7_init_693 rfl ?_
  refine e_bipush (v := 65) (pc := 694) dX7_init_694 (by decide) ?_
  refine e_bipush (v := 101) (pc := 696) dX7_init_696 (by decide) ?_
  refine e_iastL (pc := 698) (ys := tw ww_words 66) (w2 := [x0, x1, x2, x3, x4, x5, x6, x7, x8, x9, x10, x11, x12, x13, x14, x15, x16, x17, x18, x19, x20, x21, x22, x23, x24, x25, x26, x27, x28, x29, x30, x31, x32, x33, x34, x35, x36, x37, x38, x39, x40, .inr (.inl (tw ww_words 66))]) dX7_init_698 rfl (vi_of (by decide +kernel)) (by decide +kernel) rfl ?_
  refine e_dup (pc := 699) dX7_init_699 rfl ?_
  refine e_bipush (v := 66) (pc := 700) dX7_init_700 (by decide) ?_
  refine e_bipush (v := 97) (pc := 702) dX7_init_702 (by decide) ?_
  refine e_iastL (pc := 704) (ys := tw ww_words 67) (w2 := [x0, x1, x2, x3, x4, x5, x6, x7, x8, x9, x10, x11, x12, x13, x14, x15, x16, x17, x18, x19, x20, x21, x22, x23, x24, x25, x26, x27, x28, x29, x30, x31, x32, x33, x34, x35, x36, x37, x38, x39, x40, .inr (.inl (tw ww_words 67))]) dX7_init_704 rfl (vi_of (by decide +kernel)) (by decide +kernel) rfl ?_
  refine e_dup (pc := 705) dX7_init_705 rfl ?_
  refine e_bipush (v := 67) (pc := 706) dX7_init_706 (by decide) ?_
  refine e_bipush (v := 114) (pc := 708) dX7_init_708 (by decide) ?_
  refine e_iastL (pc := 710) (ys := tw ww_words 68) (w2 := [x0, x1, x2, x3, x4, x5, x6, x7, x8, x9, x10, x11, x12, x13, x14, x15, x16, x17, x18, x19, x20, x21, x22, x23, x24, x25, x26, x27, x28, x29, x30, x31, x32, x33, x34, x35, x36, x37, x38, x39, x40, .inr (.inl (tw ww_words 68))]) dX7_init_710 rfl (vi_of (by decide +kernel)) (by decide +kernel) rfl ?_
  refine e_dup (pc := 711) dX7_init_711 rfl ?_
  refine e_bipush (v := 68) (pc := 712) dX7_init_712 (by decide) ?_
  refine e_bipush (v := 32) (pc := 714) dX7_init_714 (by decide) ?_
  refine e_iastL (pc := 716) (ys := tw ww_words 69) (w2 := [x0, x1, x2, x3, x4, x5, x6, x7, x8, x9, x10, x11, x12, x13, x14, x15, x16, x17, x18, x19, x20, x21, x22, x23, x24, x25, x26, x27, x28, x29, x30, x31, x32, x33, x34, x35, x36, x37, x38, x39, x40, .inr (.inl (tw ww_words 69))]) dX7_init_716 rfl (vi_of (by decide +kernel)) (by decide +kernel) rfl ?_
  refine e_dup (pc := 717) dX7_init_717 rfl ?_
  refine e_bipush (v := 69) (pc := 718) dX7_init_718 (by decide) ?_
  refine e_bipush (v := 32) (pc := 720) dX7_init_720 (by decide) ?_
  refine e_iastL (pc := 722) (ys := tw ww_words 70) (w2 := [x0, x1, x2, x3, x4, x5, x6, x7, x8, x9, x10, x11, x12, x13, x14, x15, x16, x17, x18, x19, x20, x21, x22, x23, x24, x25, x26, x27, x28, x29, x30, x31, x32, x33, x34, x35, x36, x37, x38, x39, x40, .inr (.inl (tw ww_words 70))]) dX7_init_722 rfl (vi_of (by decide +kernel)) (by decide +kernel) rfl ?_
  refine e_dup (pc := 723) dX7_init_723 rfl ?_
  refine e_bipush (v := 70) (pc := 724) dX7_init_724 (by decide) ?_
  refine e_bipush (v := 32) (pc := 726) dX7_init_726 (by decide) ?_
  refine e_iastL (pc := 728) (ys := tw ww_words 71) (w2 := [x0, x1, x2, x3, x4, x5, x6, x7, x8, x9, x10, x11, x12, x13, x14, x15, x16, x17, x18, x19, x20, x21, x22, x23, x24, x25, x26, x27, x28, x29, x30, x31, x32, x33, x34, x35, x36, x37, x38, x39, x40, .inr (.inl (tw ww_words 71))]) dX7_init_728 rfl (vi_of (by decide +kernel)) (by decide +kernel) rfl ?_
  refine e_dup (pc := 729) dX7_init_729 rfl ?_
  refine e_bipush (v := 71) (pc := 730) dX7_init_730 (by decide) ?_
  refine e_bipush (v := 32) (pc := 732) dX7_init_732 (by decide) ?_
  refine e_iastL (pc := 734) (ys := tw ww_words 72) (w2 := [x0, x1, x2, x3, x4, x5, x6, x7, x8, x9, x10, x11, x12, x13, x14, x15, x16, x17, x18, x19, x20, x21, x22, x23, x24, x25, x26, x27, x28, x29, x30, x31, x32, x33, x34, x35, x36, x37, x38, x39, x40, .inr (.inl (tw ww_words 72))]) dX7_init_734 rfl (vi_of (by decide +kernel)) (by decide +kernel) rfl ?_
  refine e_dup (pc := 735) dX7_init_735 rfl ?_
  refine e_bipush (v := 72) (pc := 736) dX7_init_736 (by decide) ?_
  refine e_bipush (v := 111) (pc := 738) dX7_init_738 (by decide) ?_
  refine e_iastL (pc := 740) (ys := tw ww_words 73) (w2 := [x0, x1, x2, x3, x4, x5, x6, x7, x8, x9, x10, x11, x12, x13, x14, x15, x16, x17, x18, x19, x20, x21, x22, x23, x24, x25, x26, x27, x28, x29, x30, x31, x32, x33, x34, x35, x36, x37, x38, x39, x40, .inr (.inl (tw ww_words 73))]) dX7_init_740 rfl (vi_of (by decide +kernel)) (by decide +kernel) rfl ?_
  refine e_dup (pc := 741) dX7_init_741 rfl ?_
  refine e_bipush (v := 73) (pc := 742) dX7_init_742 (by decide) ?_
  refine e_bipush (v := 114) (pc := 744) dX7_init_744 (by decide) ?_
  refine e_iastL (pc := 746) (ys := tw ww_words 74) (w2 := [x0, x1, x2, x3, x4, x5, x6, x7, x8, x9, x10, x11, x12, x13, x14, x15, x16, x17, x18, x19, x20, x21, x22, x23, x24, x25, x26, x27, x28, x29, x30, x31, x32, x33, x34, x35, x36, x37, x38, x39, x40, .inr (.inl (tw ww_words 74))]) dX7_init_746 rfl (vi_of (by decide +kernel)) (by decide +kernel) rfl ?_
  refine e_dup (pc := 747) dX7_init_747 rfl ?_
  refine e_bipush (v := 74) (pc := 748) dX7_init_748 (by decide) ?_
  refine e_bipush (v := 32) (pc := 750) dX7_init_750 (by decide) ?_
  refine e_iastL (pc := 752) (ys := tw ww_words 75) (w2 := [x0, x1, x2, x3, x4, x5, x6, x7, x8, x9, x10, x11, x12, x13, x14, x15, x16, x17, x18, x19, x20, x21, x22, x23, x24, x25, x26, x27, x28, x29, x30, x31, x32, x33, x34, x35, x36, x37, x38, x39, x40, .inr (.inl (tw ww_words 75))]) dX7_init_752 rfl (vi_of (by decide +kernel)) (by decide +kernel) rfl ?_
  refine e_dup (pc := 753) dX7_init_753 rfl ?_
  refine e_bipush (v := 75) (pc := 754) dX7_init_754 (by decide) ?_
  refine e_bipush (v := 32) (pc := 756) dX7_init_756 (by decide) ?_
  refine e_iastL (pc := 758) (ys := tw ww_words 76) (w2 := [x0, x1, x2, x3, x4, x5, x6, x7, x8, x9, x10, x11, x12, x13, x14, x15, x16, x17, x18, x19, x20, x21, x22, x23, x24, x25, x26, x27, x28, x29, x30, x31, x32, x33, x34, x35, x36, x37, x38, x39, x40, .inr (.inl (tw ww_words 76))]) dX7_init_758 rfl (vi_of (by decide +kernel)) (by decide +kernel) rfl ?_
  refine e_dup (pc := 759) dX7_init_759 rfl ?_
  refine e_bipush (v := 76) (pc := 760) dX7_init_760 (by decide) ?_
  refine e_bipush (v := 32) (pc := 762) dX7_init_762 (by decide) ?_
  refine e_iastL (pc := 764) (ys := tw ww_words 77) (w2 := [x0, x1, x2, x3, x4, x5, x6, x7, x8, x9, x10, x11, x12, x13, x14, x15, x16, x17, x18, x19, x20, x21, x22, x23, x24, x25, x26, x27, x28, x29, x30, x31, x32, x33, x34, x35, x36, x37, x38, x39, x40, .inr (.inl (tw ww_words 77))]) dX7_init_764 rfl (vi_of (by decide +kernel)) (by decide +kernel) rfl ?_
  refine e_dup (pc := 765) dX7_init_765 rfl ?_
  refine e_bipush (v := 77) (pc := 766) dX7_init_766 (by decide) ?_
  refine e_bipush (v := 32) (pc := 768) dX7_init_768 (by decide) ?_
  refine e_iastL (pc := 770) (ys := tw ww_words 78) (w2 := [x0, x1, x2, x3, x4, x5, x6, x7, x8, x9, x10, x11, x12, x13, x14, x15, x16, x17, x18, x19, x20, x21, x22, x23, x24, x25, x26, x27, x28, x29, x30, x31, x32, x33, x34, x35, x36, x37, x38, x39, x40, .inr (.inl (tw ww_words 78))]) dX7_init_770 rfl (vi_of (by decide +kernel)) (by decide +kernel) rfl ?_
  refine e_dup (pc := 771) dX7_init_771 rfl ?_
  refine e_bipush (v := 78) (pc := 772) dX7_init_772 (by decide) ?_
  refine e_bipush (v := 32) (pc := 774) dX7_init_774 (by decide) ?_
  refine e_iastL (pc := 776) (ys := tw ww_words 79) (w2 := [x0, x1, x2, x3, x4, x5, x6, x7, x8, x9, x10, x11, x12, x13, x14, x15, x16, x17, x18, x19, x20, x21, x22, x23, x24, x25, x26, x27, x28, x29, x30, x31, x32, x33, x34, x35, x36, x37, x38, x39, x40, .inr (.inl (tw ww_words 79))]) dX7_init_776 rfl (vi_of (by decide +kernel)) (by decide +kernel) rfl ?_
  refine e_dup (pc := 777) dX7_init_777 rfl ?_
  refine e_bipush (v := 79) (pc := 778) dX7_init_778 (by decide) ?_
  refine e_bipush (v := 32) (pc := 780) dX7_init_780 (by decide) ?_
  refine e_iastL (pc := 782) (ys := tw ww_words 80) (w2 := [x0, x1, x2, x3, x4, x5, x6, x7, x8, x9, x10, x11, x12, x13, x14, x15, x16, x17, x18, x19, x20, x21, x22, x23, x24, x25, x26, x27, x28, x29, x30, x31, x32, x33, x34, x35, x36, x37, x38, x39, x40, .inr (.inl (tw ww_words 80))]) dX7_init_782 rfl (vi_of (by decide +kernel)) (by decide +kernel) rfl ?_
  refine e_dup (pc := 783) dX7_init_783 rfl ?_
  refine e_bipush (v := 80) (pc := 784) dX7_init_784 (by decide) ?_
  refine e_bipush (v := 97) (pc := 786) dX7_init_786 (by decide) ?_
  refine e_iastL (pc := 788) (ys := tw ww_words 81) (w2 := [x0, x1, x2, x3, x4, x5, x6, x7, x8, x9, x10, x11, x12, x13, x14, x15, x16, x17, x18, x19, x20, x21, x22, x23, x24, x25, x26, x27, x28, x29, x30, x31, x32, x33, x34, x35, x36, x37, x38, x39, x40, .inr (.inl (tw ww_words 81))]) dX7_init_788 rfl (vi_of (by decide +kernel)) (by decide +kernel) rfl ?_
  refine e_dup (pc := 789) dX7_init_789 rfl ?_
  refine e_bipush (v := 81) (pc := 790) dX7_init_790 (by decide) ?_
  refine e_bipush (v := 110) (pc := 792) dX7_init_792 (by decide) ?_
  refine e_iastL (pc := 794) (ys := tw ww_words 82) (w2 := [x0, x1, x2, x3, x4, x5, x6, x7, x8, x9, x10, x11, x12, x13, x14, x15, x16, x17, x18, x19, x20, x21, x22, x23, x24, x25, x26, x27, x28, x29, x30, x31, x32, x33, x34, x35, x36, x37, x38, x39, x40, .inr (.inl (tw ww_words 82))]) dX7_init_794 rfl (vi_of (by decide +kernel)) (by decide +kernel) rfl ?_
  refine e_dup (pc := 795) dX7_init_795 rfl ?_
  refine e_bipush (v := 82) (pc := 796) dX7_init_796 (by decide) ?_
  refine e_bipush (v := 100) (pc := 798) dX7_init_798 (by decide) ?_
  refine e_iastL (pc := 800) (ys := tw ww_words 83) (w2 := [x0, x1, x2, x3, x4, x5, x6, x7, x8, x9, x10, x11, x12, x13, x14, x15, x16, x17, x18, x19, x20, x21, x22, x23, x24, x25, x26, x27, x28, x29, x30, x31, x32, x33, x34, x35, x36, x37, x38, x39, x40, .inr (.inl (tw ww_words 83))]) dX7_init_800 rfl (vi_of (by decide +kernel)) (by decide +kernel) rfl ?_
  refine e_dup (pc := 801) dX7_init_801 rfl ?_
  refine e_bipush (v := 83) (pc := 802) dX7_init_802 (by decide) ?_
  refine e_bipush (v := 32) (pc := 804) dX7_init_804 (by decide) ?_
  refine e_iastL (pc := 806) (ys := tw ww_words 84) (w2 := [x0, x1, x2, x3, x4, x5, x6, x7, x8, x9, x10, x11, x12, x13, x14, x15, x16, x17, x18, x19, x20, x21, x22, x23, x24, x25, x26, x27, x28, x29, x30, x31, x32, x33, x34, x35, x36, x37, x38, x39, x40, .inr (.inl (tw ww_words 84))]) dX7_init_806 rfl (vi_of (by decide +kernel)) (by decide +kernel) rfl ?_
  refine e_dup (pc := 807) dX7_init_807 rfl ?_
  refine e_bipush (v := 84) (pc := 808) dX7_init_808 (by decide) ?_
  refine e_bipush (v := 32) (pc := 810) dX7_init_810 (by decide) ?_
  refine e_iastL (pc := 812) (ys := tw ww_words 85) (w2 := [x0, x1, x2, x3, x4, x5, x6, x7, x8, x9, x10, x11, x12, x13, x14, x15, x16, x17, x18, x19, x20, x21, x22, x23, x24, x25, x26, x27, x28, x29, x30, x31, x32, x33, x34, x35, x36, x37, x38, x39, x40, .inr (.inl (tw ww_words 85))]) dX7_init_812 rfl (vi_of (by decide +kernel)) (by decide +kernel) rfl ?_
  refine e_dup (pc := 813) dX7_init_813 rfl ?_
  refine e_bipush (v := 85) (pc := 814) dX7_init_814 (by decide) ?_
  refine e_bipush (v := 32) (pc := 816) dX7_init_816 (by decide) ?_
  refine e_iastL (pc := 818) (ys := tw ww_words 86) (w2 := [x0, x1, x2, x3, x4, x5, x6, x7, x8, x9, x10, x11, x12, x13, x14, x15, x16, x17, x18, x19, x20, x21, x22, x23, x24, x25, x26, x27, x28, x29, x30, x31, x32, x33, x34, x35, x36, x37, x38, x39, x40, .inr (.inl (tw ww_words 86))]) dX7_init_818 rfl (vi_of (by decide +kernel)) (by decide +kernel) rfl ?_
  refine e_dup (pc := 819) dX7_init_819 rfl ?_
  refine e_bipush (v := 86) (pc := 820) dX7_init_820 (by decide) ?_
  refine e_bipush (v := 32) (pc := 822) dX7_init_822 (by decide) ?_
  refine e_iastL (pc := 824) (ys := tw ww_words 87) (w2 := [x0, x1, x2, x3, x4, x5, x6, x7, x8, x9, x10, x11, x12, x13, x14, x15, x16, x17, x18, x19, x20, x21, x22, x23, x24, x25, x26, x27, x28, x29, x30, x31, x32, x33, x34, x35, x36, x37, x38, x39, x40, .inr (.inl (tw ww_words 87))]) dX7_init_824 rfl (vi_of (by decide +kernel)) (by decide +kernel) rfl ?_
  refine e_dup (pc := 825) dX7_init_825 rfl ?_
  refine e_bipush (v := 87) (pc := 826) dX7_init_826 (by decide) ?_
  refine e_bipush (v := 32) (pc := 828) dX7_init_828 (by decide) ?_
  refine e_iastL (pc := 830) (ys := tw ww_words 88) (w2 := [x0, x1, x2, x3, x4, x5, x6, x7, x8, x9, x10, x11, x12, x13, x14, x15, x16, x17, x18, x19, x20, x21, x22, x23, x24, x25, x26, x27, x28, x29, x30, x31, x32, x33, x34, x35, x36, x37, x38, x39, x40, .inr (.inl (tw ww_words 88))]) dX7_init_830 rfl (vi_of (by decide +kernel)) (by decide +kernel) rfl ?_
  refine e_dup (pc := 831) dX7_init_831 rfl ?_
  refine e_bipush (v := 88) (pc := 832) dX7_init_832 (by decide) ?_
  refine e_bipush (v := 110) (pc := 834) dX7_init_834 (by decide) ?_
  refine e_iastL (pc := 836) (ys := tw ww_words 89) (w2 := [x0, x1, x2, x3, x4, x5, x6, x7, x8, x9, x10, x11, x12, x13, x14, x15, x16, x17, x18, x19, x20, x21, x22, x23, x24, x25, x26, x27, x28, x29, x30, x31, x32, x33, x34, x35, x36, x37, x38, x39, x40, .inr (.inl (tw ww_words 89))]) dX7_init_836 rfl (vi_of (by decide +kernel)) (by decide +kernel) rfl ?_
  refine e_dup (pc := 837) dX7_init_837 rfl ?_
  refine e_bipush (v := 89) (pc := 838) dX7_init_838 (by decide) ?_
  refine e_bipush (v := 111) (pc := 840) dX7_init_840 (by decide) ?_
  refine e_iastL (pc := 842) (ys := tw ww_words 90) (w2 := [x0, x1, x2, x3, x4, x5, x6, x7, x8, x9, x10, x11, x12, x13, x14, x15, x16, x17, x18, x19, x20, x21, x22, x23, x24, x25, x26, x27, x28, x29, x30, x31, x32, x33, x34, x35, x36, x37, x38, x39, x40, .inr (.inl (tw ww_words 90))]) dX7_init_842 rfl (vi_of (by decide +kernel)) (by decide +kernel) rfl ?_
  refine e_dup (pc := 843) dX7_init_843 rfl ?_
  refine e_bipush (v := 90) (pc := 844) dX7_init_844 (by decide) ?_
  refine e_bipush (v := 116) (pc := 846) dX7_init_846 (by decide) ?_
  refine e_iastL (pc := 848) (ys := tw ww_words 91) (w2 := [x0, x1, x2, x3, x4, x5, x6, x7, x8, x9, x10, x11, x12, x13, x14, x15, x16, x17, x18, x19, x20, x21, x22, x23, x24, x25, x26, x27, x28, x29, x30, x31, x32, x33, x34, x35, x36, x37, x38, x39, x40, .inr (.inl (tw ww_words 91))]) dX7_init_848 rfl (vi_of (by decide +kernel)) (by decide +kernel) rfl ?_
  refine e_dup (pc := 849) dX7_init_849 rfl ?_
  refine e_bipush (v := 91) (pc := 850) dX7_init_850 (by decide) ?_
  refine e_bipush (v := 32) (pc := 852) dX7_init_852 (by decide) ?_
  refine e_iastL (pc := 854) (ys := tw ww_words 92) (w2 := [x0, x1, x2, x3, x4, x5, x6, x7, x8, x9, x10, x11, x12, x13, x14, x15, x16, x17, x18, x19, x20, x21, x22, x23, x24, x25, x26, x27, x28, x29, x30, x31, x32, x33, x34, x35, x36, x37, x38, x39, x40, .inr (.inl (tw ww_words 92))]) dX7_init_854 rfl (vi_of (by decide +kernel)) (by decide +kernel) rfl ?_
  refine e_dup (pc := 855) dX7_init_855 rfl ?_
  refine e_bipush (v := 92) (pc := 856) dX7_init_856 (by decide) ?_
  refine e_bipush (v := 32) (pc := 858) dX7_init_858 (by decide) ?_
  refine e_iastL (pc := 860) (ys := tw ww_words 93) (w2 := [x0, x1, x2, x3, x4, x5, x6, x7, x8, x9, x10, x11, x12, x13, x14, x15, x16, x17, x18, x19, x20, x21, x22, x23, x24, x25, x26, x27, x28, x29, x30, x31, x32, x33, x34, x35, x36, x37, x38, x39, x40, .inr (.inl (tw ww_words 93))]) dX7_init_860 rfl (vi_of (by decide +kernel)) (by decide +kernel) rfl ?_
  refine e_dup (pc := 861) dX7_init_861 rfl ?_
  refine e_bipush (v := 93) (pc := 862) dX7_init_862 (by decide) ?_
  refine e_bipush (v := 32) (pc := 864) dX7_init_864 (by decide) ?_
  refine e_iastL (pc := 866) (ys := tw ww_words 94) (w2 := [x0, x1, x2, x3, x4, x5, x6, x7, x8, x9, x10, x11, x12, x13, x14, x15, x16, x17, x18, x19, x20, x21, x22, x23, x24, x25, x26, x27, x28, x29, x30, x31, x32, x33, x34, x35, x36, x37, x38, x39, x40, .inr (.inl (tw ww_words 94))]) dX7_init_866 rfl (vi_of (by decide +kernel)) (by decide +kernel) rfl ?_
  refine e_dup (pc := 867) dX7_init_867 rfl ?_
  refine e_bipush (v := 94) (pc := 868) dX7_init_868 (by decide) ?_
  refine e_bipush (v := 32) (pc := 870) dX7_init_870 (by decide) ?_
  refine e_iastL (pc := 872) (ys := tw ww_words 95) (w2 := [x0, x1, x2, x3, x4, x5, x6, x7, x8, x9, x10, x11, x12, x13, x14, x15, x16, x17, x18, x19, x20, x21, x22, x23, x24, x25, x26, x27, x28, x29, x30, x31, x32, x33, x34, x35, x36, x37, x38, x39, x40, .inr (.inl (tw ww_words 95))]) dX7_init_872 rfl (vi_of (by decide +kernel)) (by decide +kernel) rfl ?_
  refine e_dup (pc := 873) dX7_init_873 rfl ?_
  refine e_bipush (v := 95) (pc := 874) dX7_init_874 (by decide) ?_
  refine e_bipush (v := 32) (pc := 876) dX7_init_876 (by decide) ?_
  refine e_iastL (pc := 878) (ys := tw ww_words 96) (w2 := [x0, x1, x2, x3, x4, x5, x6, x7, x8, x9, x10, x11, x12, x13, x14, x15, x16, x17, x18, x19, x20, x21, x22, x23, x24, x25, x26, x27, x28, x29, x30, x31, x32, x33, x34, x35, x36, x37, x38, x39, x40, .inr (.inl (tw ww_words 96))]) dX7_init_878 rfl (vi_of (by decide +kernel)) (by decide +kernel) rfl ?_
  refine e_w (w2 := [x0, x1, x2, x3, x4, x5, x6, x7, x8, x9, x10, x11, x12, x13, x14, x15, x16, x17, x18, x19, x20, x21, x22, x23, x24, x25, x26, x27, x28, x29, x30, x31, x32, x33, x34, x35, x36, x37, x38, x39, x40, .inr (.inl (ww_words))]) (by rw [show tw ww_words 96 = ww_words by decide +kernel]) ?_
  exact hK
theorem lp_y_body {P : Option Value → mc_W → Prop} {x0 x1 x2 x3 x4 x5 x6 x7 x8 x9 x10 x11 x12 x13 x14 x15 x16 x17 x18 x19 x20 x21 x22 x23 x24 x25 x26 x27 x28 : mc_C} (hK : mc_E RX7 cX7_init 2 (mc_JM none true 8 16 2208 P) 916 [some (.ref 29), none] [] [x0, x1, x2, x3, x4, x5, x6, x7, x8, x9, x10, x11, x12, x13, x14, x15, x16, x17, x18, x19, x20, x21, x22, x23, x24, x25, x26, x27, x28, .inl (7, [.int 10, .int 1, .int 0, .ref 30, .ref 31, .ref 32, .ref 33, .int 0, .ref 34, .ref 35, .int 0, .int 0, .int 0, .int 0, .int 0, .int 0, .int 0, .ref 36, .ref 37, .ref 38, .ref 39, .ref 40, .int 0, .int 0, .int 0, .int 0, .ref 41, .ref 42, .int 0, .int 0, .int 0, .ref 43, .ref 44, .ref 45, .int 0]), .inr (.inl (List.replicate 5 0)), .inr (.inl (List.replicate 5 0)), .inr (.inl (List.replicate 36 0)), .inr (.inl (List.replicate 160 0)), .inr (.inl (List.replicate 1200 0)), .inr (.inl (List.replicate 24 0)), .inr (.inl (List.replicate 36 0)), .inr (.inl ([-1, -1, -1, -1])), .inr (.inl (List.replicate 4 0)), .inr (.inl (List.replicate 160 0)), .inr (.inl (ww_law)), .inr (.inl (ww_words)), .inr (.inl (List.replicate 200 0)), .inr (.inl (List.replicate 200 0)), .inr (.inl (List.replicate 6 0)), .inr (.inl (List.replicate 40 0))] 16 2208) : mc_E RX7 cX7_init 2 (mc_JM none true 8 16 2208 P) 0 [some (.ref 29), none] [] [x0, x1, x2, x3, x4, x5, x6, x7, x8, x9, x10, x11, x12, x13, x14, x15, x16, x17, x18, x19, x20, x21, x22, x23, x24, x25, x26, x27, x28, .inl (7, [.int 0, .int 0, .int 0, .null, .null, .null, .null, .int 0, .null, .null, .int 0, .int 0, .int 0, .int 0, .int 0, .int 0, .int 0, .null, .null, .null, .null, .null, .int 0, .int 0, .int 0, .int 0, .null, .null, .int 0, .int 0, .int 0, .null, .null, .null, .int 0])] 0 0 := by
  refine e_aloadn (pc := 0) dX7_init_0 rfl ?_
  refine e_objInit (pc := 1) dX7_init_1 oX7_1 obj_inst obj_code (mc_JR_of (Nat.le_of_ble_eq_true rfl) (Nat.le_of_ble_eq_true rfl) (Nat.le_of_ble_eq_true rfl) (Nat.le_of_ble_eq_true rfl)) ?_
  refine e_aloadn (pc := 4) dX7_init_4 rfl ?_
  refine e_bipush (v := 10) (pc := 5) dX7_init_5 (by decide) ?_
  refine e_put (pc := 7) dX7_init_7 pX7_7 rfl (Nat.le_of_ble_eq_true rfl) rfl ?_
  refine e_w (w2 := [x0, x1, x2, x3, x4, x5, x6, x7, x8, x9, x10, x11, x12, x13, x14, x15, x16, x17, x18, x19, x20, x21, x22, x23, x24, x25, x26, x27, x28, .inl (7, [.int 10, .int 0, .int 0, .null, .null, .null, .null, .int 0, .null, .null, .int 0, .int 0, .int 0, .int 0, .int 0, .int 0, .int 0, .null, .null, .null, .null, .null, .int 0, .int 0, .int 0, .int 0, .null, .null, .int 0, .int 0, .int 0, .null, .null, .null, .int 0])]) rfl ?_
  refine e_aloadn (pc := 10) dX7_init_10 rfl ?_
  refine e_iconst (v := 1) (pc := 11) dX7_init_11 (by decide) ?_
  refine e_put (pc := 12) dX7_init_12 pX7_13 rfl (Nat.le_of_ble_eq_true rfl) rfl ?_
  refine e_w (w2 := [x0, x1, x2, x3, x4, x5, x6, x7, x8, x9, x10, x11, x12, x13, x14, x15, x16, x17, x18, x19, x20, x21, x22, x23, x24, x25, x26, x27, x28, .inl (7, [.int 10, .int 1, .int 0, .null, .null, .null, .null, .int 0, .null, .null, .int 0, .int 0, .int 0, .int 0, .int 0, .int 0, .int 0, .null, .null, .null, .null, .null, .int 0, .int 0, .int 0, .int 0, .null, .null, .int 0, .int 0, .int 0, .null, .null, .null, .int 0])]) rfl ?_
  refine e_aloadn (pc := 15) dX7_init_15 rfl ?_
  refine e_iconst (v := 5) (pc := 16) dX7_init_16 (by decide) ?_
  refine e_newa (N := 5) (pc := 17) dX7_init_17 arr_int (by decide) rfl (Nat.le_of_ble_eq_true rfl) (Nat.le_of_ble_eq_true rfl) (Nat.le_of_ble_eq_true rfl) (Nat.le_of_ble_eq_true rfl) ?_
  refine e_w (w2 := [x0, x1, x2, x3, x4, x5, x6, x7, x8, x9, x10, x11, x12, x13, x14, x15, x16, x17, x18, x19, x20, x21, x22, x23, x24, x25, x26, x27, x28, .inl (7, [.int 10, .int 1, .int 0, .null, .null, .null, .null, .int 0, .null, .null, .int 0, .int 0, .int 0, .int 0, .int 0, .int 0, .int 0, .null, .null, .null, .null, .null, .int 0, .int 0, .int 0, .int 0, .null, .null, .int 0, .int 0, .int 0, .null, .null, .null, .int 0]), .inr (.inl (List.replicate 5 0))]) rfl ?_
  refine e_putF (pc := 19) dX7_init_19 pX7_16 rfl rfl (Nat.le_of_ble_eq_true rfl) rfl ?_
  refine e_w (w2 := [x0, x1, x2, x3, x4, x5, x6, x7, x8, x9, x10, x11, x12, x13, x14, x15, x16, x17, x18, x19, x20, x21, x22, x23, x24, x25, x26, x27, x28, .inl (7, [.int 10, .int 1, .int 0, .ref 30, .null, .null, .null, .int 0, .null, .null, .int 0, .int 0, .int 0, .int 0, .int 0, .int 0, .int 0, .null, .null, .null, .null, .null, .int 0, .int 0, .int 0, .int 0, .null, .null, .int 0, .int 0, .int 0, .null, .null, .null, .int 0]), .inr (.inl (List.replicate 5 0))]) rfl ?_
  refine e_aloadn (pc := 22) dX7_init_22 rfl ?_
  refine e_iconst (v := 5) (pc := 23) dX7_init_23 (by decide) ?_
  refine e_newa (N := 5) (pc := 24) dX7_init_24 arr_int (by decide) rfl (Nat.le_of_ble_eq_true rfl) (Nat.le_of_ble_eq_true rfl) (Nat.le_of_ble_eq_true rfl) (Nat.le_of_ble_eq_true rfl) ?_
  refine e_w (w2 := [x0, x1, x2, x3, x4, x5, x6, x7, x8, x9, x10, x11, x12, x13, x14, x15, x16, x17, x18, x19, x20, x21, x22, x23, x24, x25, x26, x27, x28, .inl (7, [.int 10, .int 1, .int 0, .ref 30, .null, .null, .null, .int 0, .null, .null, .int 0, .int 0, .int 0, .int 0, .int 0, .int 0, .int 0, .null, .null, .null, .null, .null, .int 0, .int 0, .int 0, .int 0, .null, .null, .int 0, .int 0, .int 0, .null, .null, .null, .int 0]), .inr (.inl (List.replicate 5 0)), .inr (.inl (List.replicate 5 0))]) rfl ?_
  refine e_putF (pc := 26) dX7_init_26 pX7_20 rfl rfl (Nat.le_of_ble_eq_true rfl) rfl ?_
  refine e_w (w2 := [x0, x1, x2, x3, x4, x5, x6, x7, x8, x9, x10, x11, x12, x13, x14, x15, x16, x17, x18, x19, x20, x21, x22, x23, x24, x25, x26, x27, x28, .inl (7, [.int 10, .int 1, .int 0, .ref 30, .ref 31, .null, .null, .int 0, .null, .null, .int 0, .int 0, .int 0, .int 0, .int 0, .int 0, .int 0, .null, .null, .null, .null, .null, .int 0, .int 0, .int 0, .int 0, .null, .null, .int 0, .int 0, .int 0, .null, .null, .null, .int 0]), .inr (.inl (List.replicate 5 0)), .inr (.inl (List.replicate 5 0))]) rfl ?_
  refine e_aloadn (pc := 29) dX7_init_29 rfl ?_
  refine e_bipush (v := 36) (pc := 30) dX7_init_30 (by decide) ?_
  refine e_newa (N := 36) (pc := 32) dX7_init_32 arr_int (by decide) rfl (Nat.le_of_ble_eq_true rfl) (Nat.le_of_ble_eq_true rfl) (Nat.le_of_ble_eq_true rfl) (Nat.le_of_ble_eq_true rfl) ?_
  refine e_w (w2 := [x0, x1, x2, x3, x4, x5, x6, x7, x8, x9, x10, x11, x12, x13, x14, x15, x16, x17, x18, x19, x20, x21, x22, x23, x24, x25, x26, x27, x28, .inl (7, [.int 10, .int 1, .int 0, .ref 30, .ref 31, .null, .null, .int 0, .null, .null, .int 0, .int 0, .int 0, .int 0, .int 0, .int 0, .int 0, .null, .null, .null, .null, .null, .int 0, .int 0, .int 0, .int 0, .null, .null, .int 0, .int 0, .int 0, .null, .null, .null, .int 0]), .inr (.inl (List.replicate 5 0)), .inr (.inl (List.replicate 5 0)), .inr (.inl (List.replicate 36 0))]) rfl ?_
  refine e_putF (pc := 34) dX7_init_34 pX7_23 rfl rfl (Nat.le_of_ble_eq_true rfl) rfl ?_
  refine e_w (w2 := [x0, x1, x2, x3, x4, x5, x6, x7, x8, x9, x10, x11, x12, x13, x14, x15, x16, x17, x18, x19, x20, x21, x22, x23, x24, x25, x26, x27, x28, .inl (7, [.int 10, .int 1, .int 0, .ref 30, .ref 31, .ref 32, .null, .int 0, .null, .null, .int 0, .int 0, .int 0, .int 0, .int 0, .int 0, .int 0, .null, .null, .null, .null, .null, .int 0, .int 0, .int 0, .int 0, .null, .null, .int 0, .int 0, .int 0, .null, .null, .null, .int 0]), .inr (.inl (List.replicate 5 0)), .inr (.inl (List.replicate 5 0)), .inr (.inl (List.replicate 36 0))]) rfl ?_
  refine e_aloadn (pc := 37) dX7_init_37 rfl ?_
  refine e_sipush (v := 160) (pc := 38) dX7_init_38 (by decide) ?_
  refine e_newa (N := 160) (pc := 41) dX7_init_41 arr_int (by decide) rfl (Nat.le_of_ble_eq_true rfl) (Nat.le_of_ble_eq_true rfl) (Nat.le_of_ble_eq_true rfl) (Nat.le_of_ble_eq_true rfl) ?_
  refine e_w (w2 := [x0, x1, x2, x3, x4, x5, x6, x7, x8, x9, x10, x11, x12, x13, x14, x15, x16, x17, x18, x19, x20, x21, x22, x23, x24, x25, x26, x27, x28, .inl (7, [.int 10, .int 1, .int 0, .ref 30, .ref 31, .ref 32, .null, .int 0, .null, .null, .int 0, .int 0, .int 0, .int 0, .int 0, .int 0, .int 0, .null, .null, .null, .null, .null, .int 0, .int 0, .int 0, .int 0, .null, .null, .int 0, .int 0, .int 0, .null, .null, .null, .int 0]), .inr (.inl (List.replicate 5 0)), .inr (.inl (List.replicate 5 0)), .inr (.inl (List.replicate 36 0)), .inr (.inl (List.replicate 160 0))]) rfl ?_
  refine e_putF (pc := 43) dX7_init_43 pX7_26 rfl rfl (Nat.le_of_ble_eq_true rfl) rfl ?_
  refine e_w (w2 := [x0, x1, x2, x3, x4, x5, x6, x7, x8, x9, x10, x11, x12, x13, x14, x15, x16, x17, x18, x19, x20, x21, x22, x23, x24, x25, x26, x27, x28, .inl (7, [.int 10, .int 1, .int 0, .ref 30, .ref 31, .ref 32, .ref 33, .int 0, .null, .null, .int 0, .int 0, .int 0, .int 0, .int 0, .int 0, .int 0, .null, .null, .null, .null, .null, .int 0, .int 0, .int 0, .int 0, .null, .null, .int 0, .int 0, .int 0, .null, .null, .null, .int 0]), .inr (.inl (List.replicate 5 0)), .inr (.inl (List.replicate 5 0)), .inr (.inl (List.replicate 36 0)), .inr (.inl (List.replicate 160 0))]) rfl ?_
  refine e_aloadn (pc := 46) dX7_init_46 rfl ?_
  refine e_sipush (v := 1200) (pc := 47) dX7_init_47 (by decide) ?_
  refine e_newa (N := 1200) (pc := 50) dX7_init_50 arr_int (by decide) rfl (Nat.le_of_ble_eq_true rfl) (Nat.le_of_ble_eq_true rfl) (Nat.le_of_ble_eq_true rfl) (Nat.le_of_ble_eq_true rfl) ?_
  refine e_w (w2 := [x0, x1, x2, x3, x4, x5, x6, x7, x8, x9, x10, x11, x12, x13, x14, x15, x16, x17, x18, x19, x20, x21, x22, x23, x24, x25, x26, x27, x28, .inl (7, [.int 10, .int 1, .int 0, .ref 30, .ref 31, .ref 32, .ref 33, .int 0, .null, .null, .int 0, .int 0, .int 0, .int 0, .int 0, .int 0, .int 0, .null, .null, .null, .null, .null, .int 0, .int 0, .int 0, .int 0, .null, .null, .int 0, .int 0, .int 0, .null, .null, .null, .int 0]), .inr (.inl (List.replicate 5 0)), .inr (.inl (List.replicate 5 0)), .inr (.inl (List.replicate 36 0)), .inr (.inl (List.replicate 160 0)), .inr (.inl (List.replicate 1200 0))]) rfl ?_
  refine e_putF (pc := 52) dX7_init_52 pX7_29 rfl rfl (Nat.le_of_ble_eq_true rfl) rfl ?_
  refine e_w (w2 := [x0, x1, x2, x3, x4, x5, x6, x7, x8, x9, x10, x11, x12, x13, x14, x15, x16, x17, x18, x19, x20, x21, x22, x23, x24, x25, x26, x27, x28, .inl (7, [.int 10, .int 1, .int 0, .ref 30, .ref 31, .ref 32, .ref 33, .int 0, .ref 34, .null, .int 0, .int 0, .int 0, .int 0, .int 0, .int 0, .int 0, .null, .null, .null, .null, .null, .int 0, .int 0, .int 0, .int 0, .null, .null, .int 0, .int 0, .int 0, .null, .null, .null, .int 0]), .inr (.inl (List.replicate 5 0)), .inr (.inl (List.replicate 5 0)), .inr (.inl (List.replicate 36 0)), .inr (.inl (List.replicate 160 0)), .inr (.inl (List.replicate 1200 0))]) rfl ?_
  refine e_aloadn (pc := 55) dX7_init_55 rfl ?_
  refine e_bipush (v := 24) (pc := 56) dX7_init_56 (by decide) ?_
  refine e_newa (N := 24) (pc := 58) dX7_init_58 arr_int (by decide) rfl (Nat.le_of_ble_eq_true rfl) (Nat.le_of_ble_eq_true rfl) (Nat.le_of_ble_eq_true rfl) (Nat.le_of_ble_eq_true rfl) ?_
  refine e_w (w2 := [x0, x1, x2, x3, x4, x5, x6, x7, x8, x9, x10, x11, x12, x13, x14, x15, x16, x17, x18, x19, x20, x21, x22, x23, x24, x25, x26, x27, x28, .inl (7, [.int 10, .int 1, .int 0, .ref 30, .ref 31, .ref 32, .ref 33, .int 0, .ref 34, .null, .int 0, .int 0, .int 0, .int 0, .int 0, .int 0, .int 0, .null, .null, .null, .null, .null, .int 0, .int 0, .int 0, .int 0, .null, .null, .int 0, .int 0, .int 0, .null, .null, .null, .int 0]), .inr (.inl (List.replicate 5 0)), .inr (.inl (List.replicate 5 0)), .inr (.inl (List.replicate 36 0)), .inr (.inl (List.replicate 160 0)), .inr (.inl (List.replicate 1200 0)), .inr (.inl (List.replicate 24 0))]) rfl ?_
  refine e_putF (pc := 60) dX7_init_60 pX7_32 rfl rfl (Nat.le_of_ble_eq_true rfl) rfl ?_
  refine e_w (w2 := [x0, x1, x2, x3, x4, x5, x6, x7, x8, x9, x10, x11, x12, x13, x14, x15, x16, x17, x18, x19, x20, x21, x22, x23, x24, x25, x26, x27, x28, .inl (7, [.int 10, .int 1, .int 0, .ref 30, .ref 31, .ref 32, .ref 33, .int 0, .ref 34, .ref 35, .int 0, .int 0, .int 0, .int 0, .int 0, .int 0, .int 0, .null, .null, .null, .null, .null, .int 0, .int 0, .int 0, .int 0, .null, .null, .int 0, .int 0, .int 0, .null, .null, .null, .int 0]), .inr (.inl (List.replicate 5 0)), .inr (.inl (List.replicate 5 0)), .inr (.inl (List.replicate 36 0)), .inr (.inl (List.replicate 160 0)), .inr (.inl (List.replicate 1200 0)), .inr (.inl (List.replicate 24 0))]) rfl ?_
  refine e_aloadn (pc := 63) dX7_init_63 rfl ?_
  refine e_bipush (v := 36) (pc := 64) dX7_init_64 (by decide) ?_
  refine e_newa (N := 36) (pc := 66) dX7_init_66 arr_int (by decide) rfl (Nat.le_of_ble_eq_true rfl) (Nat.le_of_ble_eq_true rfl) (Nat.le_of_ble_eq_true rfl) (Nat.le_of_ble_eq_true rfl) ?_
  refine e_w (w2 := [x0, x1, x2, x3, x4, x5, x6, x7, x8, x9, x10, x11, x12, x13, x14, x15, x16, x17, x18, x19, x20, x21, x22, x23, x24, x25, x26, x27, x28, .inl (7, [.int 10, .int 1, .int 0, .ref 30, .ref 31, .ref 32, .ref 33, .int 0, .ref 34, .ref 35, .int 0, .int 0, .int 0, .int 0, .int 0, .int 0, .int 0, .null, .null, .null, .null, .null, .int 0, .int 0, .int 0, .int 0, .null, .null, .int 0, .int 0, .int 0, .null, .null, .null, .int 0]), .inr (.inl (List.replicate 5 0)), .inr (.inl (List.replicate 5 0)), .inr (.inl (List.replicate 36 0)), .inr (.inl (List.replicate 160 0)), .inr (.inl (List.replicate 1200 0)), .inr (.inl (List.replicate 24 0)), .inr (.inl (List.replicate 36 0))]) rfl ?_
  refine e_putF (pc := 68) dX7_init_68 pX7_35 rfl rfl (Nat.le_of_ble_eq_true rfl) rfl ?_
  refine e_w (w2 := [x0, x1, x2, x3, x4, x5, x6, x7, x8, x9, x10, x11, x12, x13, x14, x15, x16, x17, x18, x19, x20, x21, x22, x23, x24, x25, x26, x27, x28, .inl (7, [.int 10, .int 1, .int 0, .ref 30, .ref 31, .ref 32, .ref 33, .int 0, .ref 34, .ref 35, .int 0, .int 0, .int 0, .int 0, .int 0, .int 0, .int 0, .ref 36, .null, .null, .null, .null, .int 0, .int 0, .int 0, .int 0, .null, .null, .int 0, .int 0, .int 0, .null, .null, .null, .int 0]), .inr (.inl (List.replicate 5 0)), .inr (.inl (List.replicate 5 0)), .inr (.inl (List.replicate 36 0)), .inr (.inl (List.replicate 160 0)), .inr (.inl (List.replicate 1200 0)), .inr (.inl (List.replicate 24 0)), .inr (.inl (List.replicate 36 0))]) rfl ?_
  refine e_aloadn (pc := 71) dX7_init_71 rfl ?_
  refine e_iconst (v := 4) (pc := 72) dX7_init_72 (by decide) ?_
  refine e_newa (N := 4) (pc := 73) dX7_init_73 arr_int (by decide) rfl (Nat.le_of_ble_eq_true rfl) (Nat.le_of_ble_eq_true rfl) (Nat.le_of_ble_eq_true rfl) (Nat.le_of_ble_eq_true rfl) ?_
  refine e_w (w2 := [x0, x1, x2, x3, x4, x5, x6, x7, x8, x9, x10, x11, x12, x13, x14, x15, x16, x17, x18, x19, x20, x21, x22, x23, x24, x25, x26, x27, x28, .inl (7, [.int 10, .int 1, .int 0, .ref 30, .ref 31, .ref 32, .ref 33, .int 0, .ref 34, .ref 35, .int 0, .int 0, .int 0, .int 0, .int 0, .int 0, .int 0, .ref 36, .null, .null, .null, .null, .int 0, .int 0, .int 0, .int 0, .null, .null, .int 0, .int 0, .int 0, .null, .null, .null, .int 0]), .inr (.inl (List.replicate 5 0)), .inr (.inl (List.replicate 5 0)), .inr (.inl (List.replicate 36 0)), .inr (.inl (List.replicate 160 0)), .inr (.inl (List.replicate 1200 0)), .inr (.inl (List.replicate 24 0)), .inr (.inl (List.replicate 36 0)), .inr (.inl (List.replicate 4 0))]) rfl ?_
  refine e_dup (pc := 75) dX7_init_75 rfl ?_
  refine e_iconst (v := 0) (pc := 76) dX7_init_76 (by decide) ?_
  refine e_iconst (v := (-1)) (pc := 77) dX7_init_77 (by decide) ?_
  refine e_iast (pc := 78) dX7_init_78 rfl (vi_of (by decide +kernel)) ?_
  refine e_w (w2 := [x0, x1, x2, x3, x4, x5, x6, x7, x8, x9, x10, x11, x12, x13, x14, x15, x16, x17, x18, x19, x20, x21, x22, x23, x24, x25, x26, x27, x28, .inl (7, [.int 10, .int 1, .int 0, .ref 30, .ref 31, .ref 32, .ref 33, .int 0, .ref 34, .ref 35, .int 0, .int 0, .int 0, .int 0, .int 0, .int 0, .int 0, .ref 36, .null, .null, .null, .null, .int 0, .int 0, .int 0, .int 0, .null, .null, .int 0, .int 0, .int 0, .null, .null, .null, .int 0]), .inr (.inl (List.replicate 5 0)), .inr (.inl (List.replicate 5 0)), .inr (.inl (List.replicate 36 0)), .inr (.inl (List.replicate 160 0)), .inr (.inl (List.replicate 1200 0)), .inr (.inl (List.replicate 24 0)), .inr (.inl (List.replicate 36 0)), .inr (.inl ([-1, 0, 0, 0]))]) rfl ?_
  refine e_dup (pc := 79) dX7_init_79 rfl ?_
  refine e_iconst (v := 1) (pc := 80) dX7_init_80 (by decide) ?_
  refine e_iconst (v := (-1)) (pc := 81) dX7_init_81 (by decide) ?_
  refine e_iast (pc := 82) dX7_init_82 rfl (vi_of (by decide +kernel)) ?_
  refine e_w (w2 := [x0, x1, x2, x3, x4, x5, x6, x7, x8, x9, x10, x11, x12, x13, x14, x15, x16, x17, x18, x19, x20, x21, x22, x23, x24, x25, x26, x27, x28, .inl (7, [.int 10, .int 1, .int 0, .ref 30, .ref 31, .ref 32, .ref 33, .int 0, .ref 34, .ref 35, .int 0, .int 0, .int 0, .int 0, .int 0, .int 0, .int 0, .ref 36, .null, .null, .null, .null, .int 0, .int 0, .int 0, .int 0, .null, .null, .int 0, .int 0, .int 0, .null, .null, .null, .int 0]), .inr (.inl (List.replicate 5 0)), .inr (.inl (List.replicate 5 0)), .inr (.inl (List.replicate 36 0)), .inr (.inl (List.replicate 160 0)), .inr (.inl (List.replicate 1200 0)), .inr (.inl (List.replicate 24 0)), .inr (.inl (List.replicate 36 0)), .inr (.inl ([-1, -1, 0, 0]))]) rfl ?_
  refine e_dup (pc := 83) dX7_init_83 rfl ?_
  refine e_iconst (v := 2) (pc := 84) dX7_init_84 (by decide) ?_
  refine e_iconst (v := (-1)) (pc := 85) dX7_init_85 (by decide) ?_
  refine e_iast (pc := 86) dX7_init_86 rfl (vi_of (by decide +kernel)) ?_
  refine e_w (w2 := [x0, x1, x2, x3, x4, x5, x6, x7, x8, x9, x10, x11, x12, x13, x14, x15, x16, x17, x18, x19, x20, x21, x22, x23, x24, x25, x26, x27, x28, .inl (7, [.int 10, .int 1, .int 0, .ref 30, .ref 31, .ref 32, .ref 33, .int 0, .ref 34, .ref 35, .int 0, .int 0, .int 0, .int 0, .int 0, .int 0, .int 0, .ref 36, .null, .null, .null, .null, .int 0, .int 0, .int 0, .int 0, .null, .null, .int 0, .int 0, .int 0, .null, .null, .null, .int 0]), .inr (.inl (List.replicate 5 0)), .inr (.inl (List.replicate 5 0)), .inr (.inl (List.replicate 36 0)), .inr (.inl (List.replicate 160 0)), .inr (.inl (List.replicate 1200 0)), .inr (.inl (List.replicate 24 0)), .inr (.inl (List.replicate 36 0)), .inr (.inl ([-1, -1, -1, 0]))]) rfl ?_
  refine e_dup (pc := 87) dX7_init_87 rfl ?_
  refine e_iconst (v := 3) (pc := 88) dX7_init_88 (by decide) ?_
  refine e_iconst (v := (-1)) (pc := 89) dX7_init_89 (by decide) ?_
  refine e_iast (pc := 90) dX7_init_90 rfl (vi_of (by decide +kernel)) ?_
  refine e_w (w2 := [x0, x1, x2, x3, x4, x5, x6, x7, x8, x9, x10, x11, x12, x13, x14, x15, x16, x17, x18, x19, x20, x21, x22, x23, x24, x25, x26, x27, x28, .inl (7, [.int 10, .int 1, .int 0, .ref 30, .ref 31, .ref 32, .ref 33, .int 0, .ref 34, .ref 35, .int 0, .int 0, .int 0, .int 0, .int 0, .int 0, .int 0, .ref 36, .null, .null, .null, .null, .int 0, .int 0, .int 0, .int 0, .null, .null, .int 0, .int 0, .int 0, .null, .null, .null, .int 0]), .inr (.inl (List.replicate 5 0)), .inr (.inl (List.replicate 5 0)), .inr (.inl (List.replicate 36 0)), .inr (.inl (List.replicate 160 0)), .inr (.inl (List.replicate 1200 0)), .inr (.inl (List.replicate 24 0)), .inr (.inl (List.replicate 36 0)), .inr (.inl ([-1, -1, -1, -1]))]) rfl ?_
  refine e_putF (pc := 91) dX7_init_91 pX7_38 rfl rfl (Nat.le_of_ble_eq_true rfl) rfl ?_
  refine e_w (w2 := [x0, x1, x2, x3, x4, x5, x6, x7, x8, x9, x10, x11, x12, x13, x14, x15, x16, x17, x18, x19, x20, x21, x22, x23, x24, x25, x26, x27, x28, .inl (7, [.int 10, .int 1, .int 0, .ref 30, .ref 31, .ref 32, .ref 33, .int 0, .ref 34, .ref 35, .int 0, .int 0, .int 0, .int 0, .int 0, .int 0, .int 0, .ref 36, .ref 37, .null, .null, .null, .int 0, .int 0, .int 0, .int 0, .null, .null, .int 0, .int 0, .int 0, .null, .null, .null, .int 0]), .inr (.inl (List.replicate 5 0)), .inr (.inl (List.replicate 5 0)), .inr (.inl (List.replicate 36 0)), .inr (.inl (List.replicate 160 0)), .inr (.inl (List.replicate 1200 0)), .inr (.inl (List.replicate 24 0)), .inr (.inl (List.replicate 36 0)), .inr (.inl ([-1, -1, -1, -1]))]) rfl ?_
  refine e_aloadn (pc := 94) dX7_init_94 rfl ?_
  refine e_iconst (v := 4) (pc := 95) dX7_init_95 (by decide) ?_
  refine e_newa (N := 4) (pc := 96) dX7_init_96 arr_int (by decide) rfl (Nat.le_of_ble_eq_true rfl) (Nat.le_of_ble_eq_true rfl) (Nat.le_of_ble_eq_true rfl) (Nat.le_of_ble_eq_true rfl) ?_
  refine e_w (w2 := [x0, x1, x2, x3, x4, x5, x6, x7, x8, x9, x10, x11, x12, x13, x14, x15, x16, x17, x18, x19, x20, x21, x22, x23, x24, x25, x26, x27, x28, .inl (7, [.int 10, .int 1, .int 0, .ref 30, .ref 31, .ref 32, .ref 33, .int 0, .ref 34, .ref 35, .int 0, .int 0, .int 0, .int 0, .int 0, .int 0, .int 0, .ref 36, .ref 37, .null, .null, .null, .int 0, .int 0, .int 0, .int 0, .null, .null, .int 0, .int 0, .int 0, .null, .null, .null, .int 0]), .inr (.inl (List.replicate 5 0)), .inr (.inl (List.replicate 5 0)), .inr (.inl (List.replicate 36 0)), .inr (.inl (List.replicate 160 0)), .inr (.inl (List.replicate 1200 0)), .inr (.inl (List.replicate 24 0)), .inr (.inl (List.replicate 36 0)), .inr (.inl ([-1, -1, -1, -1])), .inr (.inl (List.replicate 4 0))]) rfl ?_
  refine e_putF (pc := 98) dX7_init_98 pX7_41 rfl rfl (Nat.le_of_ble_eq_true rfl) rfl ?_
  refine e_w (w2 := [x0, x1, x2, x3, x4, x5, x6, x7, x8, x9, x10, x11, x12, x13, x14, x15, x16, x17, x18, x19, x20, x21, x22, x23, x24, x25, x26, x27, x28, .inl (7, [.int 10, .int 1, .int 0, .ref 30, .ref 31, .ref 32, .ref 33, .int 0, .ref 34, .ref 35, .int 0, .int 0, .int 0, .int 0, .int 0, .int 0, .int 0, .ref 36, .ref 37, .ref 38, .null, .null, .int 0, .int 0, .int 0, .int 0, .null, .null, .int 0, .int 0, .int 0, .null, .null, .null, .int 0]), .inr (.inl (List.replicate 5 0)), .inr (.inl (List.replicate 5 0)), .inr (.inl (List.replicate 36 0)), .inr (.inl (List.replicate 160 0)), .inr (.inl (List.replicate 1200 0)), .inr (.inl (List.replicate 24 0)), .inr (.inl (List.replicate 36 0)), .inr (.inl ([-1, -1, -1, -1])), .inr (.inl (List.replicate 4 0))]) rfl ?_
  refine e_aloadn (pc := 101) dX7_init_101 rfl ?_
  refine e_sipush (v := 160) (pc := 102) dX7_init_102 (by decide) ?_
  refine e_newa (N := 160) (pc := 105) dX7_init_105 arr_int (by decide) rfl (Nat.le_of_ble_eq_true rfl) (Nat.le_of_ble_eq_true rfl) (Nat.le_of_ble_eq_true rfl) (Nat.le_of_ble_eq_true rfl) ?_
  refine e_w (w2 := [x0, x1, x2, x3, x4, x5, x6, x7, x8, x9, x10, x11, x12, x13, x14, x15, x16, x17, x18, x19, x20, x21, x22, x23, x24, x25, x26, x27, x28, .inl (7, [.int 10, .int 1, .int 0, .ref 30, .ref 31, .ref 32, .ref 33, .int 0, .ref 34, .ref 35, .int 0, .int 0, .int 0, .int 0, .int 0, .int 0, .int 0, .ref 36, .ref 37, .ref 38, .null, .null, .int 0, .int 0, .int 0, .int 0, .null, .null, .int 0, .int 0, .int 0, .null, .null, .null, .int 0]), .inr (.inl (List.replicate 5 0)), .inr (.inl (List.replicate 5 0)), .inr (.inl (List.replicate 36 0)), .inr (.inl (List.replicate 160 0)), .inr (.inl (List.replicate 1200 0)), .inr (.inl (List.replicate 24 0)), .inr (.inl (List.replicate 36 0)), .inr (.inl ([-1, -1, -1, -1])), .inr (.inl (List.replicate 4 0)), .inr (.inl (List.replicate 160 0))]) rfl ?_
  refine e_putF (pc := 107) dX7_init_107 pX7_44 rfl rfl (Nat.le_of_ble_eq_true rfl) rfl ?_
  refine e_w (w2 := [x0, x1, x2, x3, x4, x5, x6, x7, x8, x9, x10, x11, x12, x13, x14, x15, x16, x17, x18, x19, x20, x21, x22, x23, x24, x25, x26, x27, x28, .inl (7, [.int 10, .int 1, .int 0, .ref 30, .ref 31, .ref 32, .ref 33, .int 0, .ref 34, .ref 35, .int 0, .int 0, .int 0, .int 0, .int 0, .int 0, .int 0, .ref 36, .ref 37, .ref 38, .ref 39, .null, .int 0, .int 0, .int 0, .int 0, .null, .null, .int 0, .int 0, .int 0, .null, .null, .null, .int 0]), .inr (.inl (List.replicate 5 0)), .inr (.inl (List.replicate 5 0)), .inr (.inl (List.replicate 36 0)), .inr (.inl (List.replicate 160 0)), .inr (.inl (List.replicate 1200 0)), .inr (.inl (List.replicate 24 0)), .inr (.inl (List.replicate 36 0)), .inr (.inl ([-1, -1, -1, -1])), .inr (.inl (List.replicate 4 0)), .inr (.inl (List.replicate 160 0))]) rfl ?_
  refine e_aloadn (pc := 110) dX7_init_110 rfl ?_
  refine e_bipush (v := 32) (pc := 111) dX7_init_111 (by decide) ?_
  refine e_newa (N := 32) (pc := 113) dX7_init_113 arr_int (by decide) rfl (Nat.le_of_ble_eq_true rfl) (Nat.le_of_ble_eq_true rfl) (Nat.le_of_ble_eq_true rfl) (Nat.le_of_ble_eq_true rfl) ?_
  refine e_w (w2 := [x0, x1, x2, x3, x4, x5, x6, x7, x8, x9, x10, x11, x12, x13, x14, x15, x16, x17, x18, x19, x20, x21, x22, x23, x24, x25, x26, x27, x28, .inl (7, [.int 10, .int 1, .int 0, .ref 30, .ref 31, .ref 32, .ref 33, .int 0, .ref 34, .ref 35, .int 0, .int 0, .int 0, .int 0, .int 0, .int 0, .int 0, .ref 36, .ref 37, .ref 38, .ref 39, .null, .int 0, .int 0, .int 0, .int 0, .null, .null, .int 0, .int 0, .int 0, .null, .null, .null, .int 0]), .inr (.inl (List.replicate 5 0)), .inr (.inl (List.replicate 5 0)), .inr (.inl (List.replicate 36 0)), .inr (.inl (List.replicate 160 0)), .inr (.inl (List.replicate 1200 0)), .inr (.inl (List.replicate 24 0)), .inr (.inl (List.replicate 36 0)), .inr (.inl ([-1, -1, -1, -1])), .inr (.inl (List.replicate 4 0)), .inr (.inl (List.replicate 160 0)), .inr (.inl (List.replicate 32 0))]) rfl ?_
  skip
  refine lp_y_law ?_
  refine e_putF (pc := 301) dX7_init_301 pX7_47 rfl rfl (Nat.le_of_ble_eq_true rfl) rfl ?_
  refine e_w (w2 := [x0, x1, x2, x3, x4, x5, x6, x7, x8, x9, x10, x11, x12, x13, x14, x15, x16, x17, x18, x19, x20, x21, x22, x23, x24, x25, x26, x27, x28, .inl (7, [.int 10, .int 1, .int 0, .ref 30, .ref 31, .ref 32, .ref 33, .int 0, .ref 34, .ref 35, .int 0, .int 0, .int 0, .int 0, .int 0, .int 0, .int 0, .ref 36, .ref 37, .ref 38, .ref 39, .ref 40, .int 0, .int 0, .int 0, .int 0, .null, .null, .int 0, .int 0, .int 0, .null, .null, .null, .int 0]), .inr (.inl (List.replicate 5 0)), .inr (.inl (List.replicate 5 0)), .inr (.inl (List.replicate 36 0)), .inr (.inl (List.replicate 160 0)), .inr (.inl (List.replicate 1200 0)), .inr (.inl (List.replicate 24 0)), .inr (.inl (List.replicate 36 0)), .inr (.inl ([-1, -1, -1, -1])), .inr (.inl (List.replicate 4 0)), .inr (.inl (List.replicate 160 0)), .inr (.inl (ww_law))]) rfl ?_
  refine e_aloadn (pc := 304) dX7_init_304 rfl ?_
  refine e_bipush (v := 96) (pc := 305) dX7_init_305 (by decide) ?_
  refine e_newa (N := 96) (pc := 307) dX7_init_307 arr_int (by decide) rfl (Nat.le_of_ble_eq_true rfl) (Nat.le_of_ble_eq_true rfl) (Nat.le_of_ble_eq_true rfl) (Nat.le_of_ble_eq_true rfl) ?_
  refine e_w (w2 := [x0, x1, x2, x3, x4, x5, x6, x7, x8, x9, x10, x11, x12, x13, x14, x15, x16, x17, x18, x19, x20, x21, x22, x23, x24, x25, x26, x27, x28, .inl (7, [.int 10, .int 1, .int 0, .ref 30, .ref 31, .ref 32, .ref 33, .int 0, .ref 34, .ref 35, .int 0, .int 0, .int 0, .int 0, .int 0, .int 0, .int 0, .ref 36, .ref 37, .ref 38, .ref 39, .ref 40, .int 0, .int 0, .int 0, .int 0, .null, .null, .int 0, .int 0, .int 0, .null, .null, .null, .int 0]), .inr (.inl (List.replicate 5 0)), .inr (.inl (List.replicate 5 0)), .inr (.inl (List.replicate 36 0)), .inr (.inl (List.replicate 160 0)), .inr (.inl (List.replicate 1200 0)), .inr (.inl (List.replicate 24 0)), .inr (.inl (List.replicate 36 0)), .inr (.inl ([-1, -1, -1, -1])), .inr (.inl (List.replicate 4 0)), .inr (.inl (List.replicate 160 0)), .inr (.inl (ww_law)), .inr (.inl (List.replicate 96 0))]) rfl ?_
  skip
  refine lp_y_words ?_
  refine e_putF (pc := 879) dX7_init_879 pX7_50 rfl rfl (Nat.le_of_ble_eq_true rfl) rfl ?_
  refine e_w (w2 := [x0, x1, x2, x3, x4, x5, x6, x7, x8, x9, x10, x11, x12, x13, x14, x15, x16, x17, x18, x19, x20, x21, x22, x23, x24, x25, x26, x27, x28, .inl (7, [.int 10, .int 1, .int 0, .ref 30, .ref 31, .ref 32, .ref 33, .int 0, .ref 34, .ref 35, .int 0, .int 0, .int 0, .int 0, .int 0, .int 0, .int 0, .ref 36, .ref 37, .ref 38, .ref 39, .ref 40, .int 0, .int 0, .int 0, .int 0, .ref 41, .null, .int 0, .int 0, .int 0, .null, .null, .null, .int 0]), .inr (.inl (List.replicate 5 0)), .inr (.inl (List.replicate 5 0)), .inr (.inl (List.replicate 36 0)), .inr (.inl (List.replicate 160 0)), .inr (.inl (List.replicate 1200 0)), .inr (.inl (List.replicate 24 0)), .inr (.inl (List.replicate 36 0)), .inr (.inl ([-1, -1, -1, -1])), .inr (.inl (List.replicate 4 0)), .inr (.inl (List.replicate 160 0)), .inr (.inl (ww_law)), .inr (.inl (ww_words))]) rfl ?_
  refine e_aloadn (pc := 882) dX7_init_882 rfl ?_
  refine e_sipush (v := 200) (pc := 883) dX7_init_883 (by decide) ?_
  refine e_newa (N := 200) (pc := 886) dX7_init_886 arr_int (by decide) rfl (Nat.le_of_ble_eq_true rfl) (Nat.le_of_ble_eq_true rfl) (Nat.le_of_ble_eq_true rfl) (Nat.le_of_ble_eq_true rfl) ?_
  refine e_w (w2 := [x0, x1, x2, x3, x4, x5, x6, x7, x8, x9, x10, x11, x12, x13, x14, x15, x16, x17, x18, x19, x20, x21, x22, x23, x24, x25, x26, x27, x28, .inl (7, [.int 10, .int 1, .int 0, .ref 30, .ref 31, .ref 32, .ref 33, .int 0, .ref 34, .ref 35, .int 0, .int 0, .int 0, .int 0, .int 0, .int 0, .int 0, .ref 36, .ref 37, .ref 38, .ref 39, .ref 40, .int 0, .int 0, .int 0, .int 0, .ref 41, .null, .int 0, .int 0, .int 0, .null, .null, .null, .int 0]), .inr (.inl (List.replicate 5 0)), .inr (.inl (List.replicate 5 0)), .inr (.inl (List.replicate 36 0)), .inr (.inl (List.replicate 160 0)), .inr (.inl (List.replicate 1200 0)), .inr (.inl (List.replicate 24 0)), .inr (.inl (List.replicate 36 0)), .inr (.inl ([-1, -1, -1, -1])), .inr (.inl (List.replicate 4 0)), .inr (.inl (List.replicate 160 0)), .inr (.inl (ww_law)), .inr (.inl (ww_words)), .inr (.inl (List.replicate 200 0))]) rfl ?_
  refine e_putF (pc := 888) dX7_init_888 pX7_53 rfl rfl (Nat.le_of_ble_eq_true rfl) rfl ?_
  refine e_w (w2 := [x0, x1, x2, x3, x4, x5, x6, x7, x8, x9, x10, x11, x12, x13, x14, x15, x16, x17, x18, x19, x20, x21, x22, x23, x24, x25, x26, x27, x28, .inl (7, [.int 10, .int 1, .int 0, .ref 30, .ref 31, .ref 32, .ref 33, .int 0, .ref 34, .ref 35, .int 0, .int 0, .int 0, .int 0, .int 0, .int 0, .int 0, .ref 36, .ref 37, .ref 38, .ref 39, .ref 40, .int 0, .int 0, .int 0, .int 0, .ref 41, .ref 42, .int 0, .int 0, .int 0, .null, .null, .null, .int 0]), .inr (.inl (List.replicate 5 0)), .inr (.inl (List.replicate 5 0)), .inr (.inl (List.replicate 36 0)), .inr (.inl (List.replicate 160 0)), .inr (.inl (List.replicate 1200 0)), .inr (.inl (List.replicate 24 0)), .inr (.inl (List.replicate 36 0)), .inr (.inl ([-1, -1, -1, -1])), .inr (.inl (List.replicate 4 0)), .inr (.inl (List.replicate 160 0)), .inr (.inl (ww_law)), .inr (.inl (ww_words)), .inr (.inl (List.replicate 200 0))]) rfl ?_
  refine e_aloadn (pc := 891) dX7_init_891 rfl ?_
  refine e_sipush (v := 200) (pc := 892) dX7_init_892 (by decide) ?_
  refine e_newa (N := 200) (pc := 895) dX7_init_895 arr_int (by decide) rfl (Nat.le_of_ble_eq_true rfl) (Nat.le_of_ble_eq_true rfl) (Nat.le_of_ble_eq_true rfl) (Nat.le_of_ble_eq_true rfl) ?_
  refine e_w (w2 := [x0, x1, x2, x3, x4, x5, x6, x7, x8, x9, x10, x11, x12, x13, x14, x15, x16, x17, x18, x19, x20, x21, x22, x23, x24, x25, x26, x27, x28, .inl (7, [.int 10, .int 1, .int 0, .ref 30, .ref 31, .ref 32, .ref 33, .int 0, .ref 34, .ref 35, .int 0, .int 0, .int 0, .int 0, .int 0, .int 0, .int 0, .ref 36, .ref 37, .ref 38, .ref 39, .ref 40, .int 0, .int 0, .int 0, .int 0, .ref 41, .ref 42, .int 0, .int 0, .int 0, .null, .null, .null, .int 0]), .inr (.inl (List.replicate 5 0)), .inr (.inl (List.replicate 5 0)), .inr (.inl (List.replicate 36 0)), .inr (.inl (List.replicate 160 0)), .inr (.inl (List.replicate 1200 0)), .inr (.inl (List.replicate 24 0)), .inr (.inl (List.replicate 36 0)), .inr (.inl ([-1, -1, -1, -1])), .inr (.inl (List.replicate 4 0)), .inr (.inl (List.replicate 160 0)), .inr (.inl (ww_law)), .inr (.inl (ww_words)), .inr (.inl (List.replicate 200 0)), .inr (.inl (List.replicate 200 0))]) rfl ?_
  refine e_putF (pc := 897) dX7_init_897 pX7_56 rfl rfl (Nat.le_of_ble_eq_true rfl) rfl ?_
  refine e_w (w2 := [x0, x1, x2, x3, x4, x5, x6, x7, x8, x9, x10, x11, x12, x13, x14, x15, x16, x17, x18, x19, x20, x21, x22, x23, x24, x25, x26, x27, x28, .inl (7, [.int 10, .int 1, .int 0, .ref 30, .ref 31, .ref 32, .ref 33, .int 0, .ref 34, .ref 35, .int 0, .int 0, .int 0, .int 0, .int 0, .int 0, .int 0, .ref 36, .ref 37, .ref 38, .ref 39, .ref 40, .int 0, .int 0, .int 0, .int 0, .ref 41, .ref 42, .int 0, .int 0, .int 0, .ref 43, .null, .null, .int 0]), .inr (.inl (List.replicate 5 0)), .inr (.inl (List.replicate 5 0)), .inr (.inl (List.replicate 36 0)), .inr (.inl (List.replicate 160 0)), .inr (.inl (List.replicate 1200 0)), .inr (.inl (List.replicate 24 0)), .inr (.inl (List.replicate 36 0)), .inr (.inl ([-1, -1, -1, -1])), .inr (.inl (List.replicate 4 0)), .inr (.inl (List.replicate 160 0)), .inr (.inl (ww_law)), .inr (.inl (ww_words)), .inr (.inl (List.replicate 200 0)), .inr (.inl (List.replicate 200 0))]) rfl ?_
  refine e_aloadn (pc := 900) dX7_init_900 rfl ?_
  refine e_bipush (v := 6) (pc := 901) dX7_init_901 (by decide) ?_
  refine e_newa (N := 6) (pc := 903) dX7_init_903 arr_int (by decide) rfl (Nat.le_of_ble_eq_true rfl) (Nat.le_of_ble_eq_true rfl) (Nat.le_of_ble_eq_true rfl) (Nat.le_of_ble_eq_true rfl) ?_
  refine e_w (w2 := [x0, x1, x2, x3, x4, x5, x6, x7, x8, x9, x10, x11, x12, x13, x14, x15, x16, x17, x18, x19, x20, x21, x22, x23, x24, x25, x26, x27, x28, .inl (7, [.int 10, .int 1, .int 0, .ref 30, .ref 31, .ref 32, .ref 33, .int 0, .ref 34, .ref 35, .int 0, .int 0, .int 0, .int 0, .int 0, .int 0, .int 0, .ref 36, .ref 37, .ref 38, .ref 39, .ref 40, .int 0, .int 0, .int 0, .int 0, .ref 41, .ref 42, .int 0, .int 0, .int 0, .ref 43, .null, .null, .int 0]), .inr (.inl (List.replicate 5 0)), .inr (.inl (List.replicate 5 0)), .inr (.inl (List.replicate 36 0)), .inr (.inl (List.replicate 160 0)), .inr (.inl (List.replicate 1200 0)), .inr (.inl (List.replicate 24 0)), .inr (.inl (List.replicate 36 0)), .inr (.inl ([-1, -1, -1, -1])), .inr (.inl (List.replicate 4 0)), .inr (.inl (List.replicate 160 0)), .inr (.inl (ww_law)), .inr (.inl (ww_words)), .inr (.inl (List.replicate 200 0)), .inr (.inl (List.replicate 200 0)), .inr (.inl (List.replicate 6 0))]) rfl ?_
  refine e_putF (pc := 905) dX7_init_905 pX7_59 rfl rfl (Nat.le_of_ble_eq_true rfl) rfl ?_
  refine e_w (w2 := [x0, x1, x2, x3, x4, x5, x6, x7, x8, x9, x10, x11, x12, x13, x14, x15, x16, x17, x18, x19, x20, x21, x22, x23, x24, x25, x26, x27, x28, .inl (7, [.int 10, .int 1, .int 0, .ref 30, .ref 31, .ref 32, .ref 33, .int 0, .ref 34, .ref 35, .int 0, .int 0, .int 0, .int 0, .int 0, .int 0, .int 0, .ref 36, .ref 37, .ref 38, .ref 39, .ref 40, .int 0, .int 0, .int 0, .int 0, .ref 41, .ref 42, .int 0, .int 0, .int 0, .ref 43, .ref 44, .null, .int 0]), .inr (.inl (List.replicate 5 0)), .inr (.inl (List.replicate 5 0)), .inr (.inl (List.replicate 36 0)), .inr (.inl (List.replicate 160 0)), .inr (.inl (List.replicate 1200 0)), .inr (.inl (List.replicate 24 0)), .inr (.inl (List.replicate 36 0)), .inr (.inl ([-1, -1, -1, -1])), .inr (.inl (List.replicate 4 0)), .inr (.inl (List.replicate 160 0)), .inr (.inl (ww_law)), .inr (.inl (ww_words)), .inr (.inl (List.replicate 200 0)), .inr (.inl (List.replicate 200 0)), .inr (.inl (List.replicate 6 0))]) rfl ?_
  refine e_aloadn (pc := 908) dX7_init_908 rfl ?_
  refine e_bipush (v := 40) (pc := 909) dX7_init_909 (by decide) ?_
  refine e_newa (N := 40) (pc := 911) dX7_init_911 arr_int (by decide) rfl (Nat.le_of_ble_eq_true rfl) (Nat.le_of_ble_eq_true rfl) (Nat.le_of_ble_eq_true rfl) (Nat.le_of_ble_eq_true rfl) ?_
  refine e_w (w2 := [x0, x1, x2, x3, x4, x5, x6, x7, x8, x9, x10, x11, x12, x13, x14, x15, x16, x17, x18, x19, x20, x21, x22, x23, x24, x25, x26, x27, x28, .inl (7, [.int 10, .int 1, .int 0, .ref 30, .ref 31, .ref 32, .ref 33, .int 0, .ref 34, .ref 35, .int 0, .int 0, .int 0, .int 0, .int 0, .int 0, .int 0, .ref 36, .ref 37, .ref 38, .ref 39, .ref 40, .int 0, .int 0, .int 0, .int 0, .ref 41, .ref 42, .int 0, .int 0, .int 0, .ref 43, .ref 44, .null, .int 0]), .inr (.inl (List.replicate 5 0)), .inr (.inl (List.replicate 5 0)), .inr (.inl (List.replicate 36 0)), .inr (.inl (List.replicate 160 0)), .inr (.inl (List.replicate 1200 0)), .inr (.inl (List.replicate 24 0)), .inr (.inl (List.replicate 36 0)), .inr (.inl ([-1, -1, -1, -1])), .inr (.inl (List.replicate 4 0)), .inr (.inl (List.replicate 160 0)), .inr (.inl (ww_law)), .inr (.inl (ww_words)), .inr (.inl (List.replicate 200 0)), .inr (.inl (List.replicate 200 0)), .inr (.inl (List.replicate 6 0)), .inr (.inl (List.replicate 40 0))]) rfl ?_
  refine e_putF (pc := 913) dX7_init_913 pX7_62 rfl rfl (Nat.le_of_ble_eq_true rfl) rfl ?_
  refine e_w (w2 := [x0, x1, x2, x3, x4, x5, x6, x7, x8, x9, x10, x11, x12, x13, x14, x15, x16, x17, x18, x19, x20, x21, x22, x23, x24, x25, x26, x27, x28, .inl (7, [.int 10, .int 1, .int 0, .ref 30, .ref 31, .ref 32, .ref 33, .int 0, .ref 34, .ref 35, .int 0, .int 0, .int 0, .int 0, .int 0, .int 0, .int 0, .ref 36, .ref 37, .ref 38, .ref 39, .ref 40, .int 0, .int 0, .int 0, .int 0, .ref 41, .ref 42, .int 0, .int 0, .int 0, .ref 43, .ref 44, .ref 45, .int 0]), .inr (.inl (List.replicate 5 0)), .inr (.inl (List.replicate 5 0)), .inr (.inl (List.replicate 36 0)), .inr (.inl (List.replicate 160 0)), .inr (.inl (List.replicate 1200 0)), .inr (.inl (List.replicate 24 0)), .inr (.inl (List.replicate 36 0)), .inr (.inl ([-1, -1, -1, -1])), .inr (.inl (List.replicate 4 0)), .inr (.inl (List.replicate 160 0)), .inr (.inl (ww_law)), .inr (.inl (ww_words)), .inr (.inl (List.replicate 200 0)), .inr (.inl (List.replicate 200 0)), .inr (.inl (List.replicate 6 0)), .inr (.inl (List.replicate 40 0))]) rfl ?_
  skip
  exact hK
def ym0 (k : Nat) : Int32 := [10, 1].getD k 0
def yb0 (k : Nat) : List Int32 := [List.replicate 5 0, List.replicate 5 0, List.replicate 36 0, List.replicate 160 0, List.replicate 1200 0, List.replicate 24 0, List.replicate 36 0, [-1, -1, -1, -1], List.replicate 4 0, List.replicate 160 0].getD k []
def yn0 (_ : Nat) : Int32 := 0
def yd0 (k : Nat) : List Int32 := [List.replicate 200 0, List.replicate 200 0, List.replicate 6 0, List.replicate 40 0].getD k []
def yq0 (k : Nat) : List Int32 := ww_law.take k ++ List.replicate (160 - k) 0
theorem yq0_step : ∀ k, k < 32 → (yq0 k).set k (ww_law.getD k 0) = yq0 (k + 1) := by decide +kernel
theorem yq0_len : ∀ k, k ≤ 32 → (yq0 k).length = 160 := by decide +kernel
/-- the law's own text, read -/
theorem yq0_text : ytxV (fun i => (yq0 32).getD i 0) 32 = (true, 32, [100001, 100003, 3], [0, 1, 2]) := by decide +kernel
theorem lp_y_lawin {s u : Nat → Int32} {a c : Nat → List Int32} {q : List (Option Nat)} {h : Nat} {Post : Option Value → mc_W → Prop} (hK : ∀ x1, mc_E RX7 cX7_init 2 (mc_JM none true 8 16 2208 Post) 942 [some (.ref 29), x1] [] (WW s a q u c h ym0 (mc_up yb0 3 (yq0 32)) yn0 yd0 []) 16 2208) : ∀ (f k : Nat), k + f = 32 → mc_E RX7 cX7_init 2 (mc_JM none true 8 16 2208 Post) 918 [some (.ref 29), some (.int (nI k))] [] (WW s a q u c h ym0 (mc_up yb0 3 (yq0 k)) yn0 yd0 []) 16 2208 := by
  intro f
  induction f with
  | zero =>
    intro k hk
    have e : k = 32 := by omega
    subst e
    refine e_iloadn (pc := 918) dX7_init_918 rfl ?_
    refine e_bipush (v := 32) (pc := 919) dX7_init_919 (by decide) ?_
    refine e_icmp_ge (pc := 921) dX7_init_921 (t := 942) (by decide) (fun _ => ?_) (fun c_921 => absurd (by decide) c_921)
    exact hK _
  | succ f ih =>
    intro k hk
    have hk2 : k < 32 := by omega
    have hi : vp_in (nI k) ((mc_up yb0 3 (yq0 k)) 3).length := by show vp_in _ (yq0 k).length; rw [yq0_len k (by omega)]; exact vp_in_nI (by omega) (by decide)
    have hi2 : vp_in (nI k) ww_law.length := vp_in_nI hk2 (by decide)
    have hc : (nI k).toNatClampNeg = k := nIc (by omega)
    refine e_iloadn (pc := 918) dX7_init_918 rfl ?_
    refine e_bipush (v := 32) (pc := 919) dX7_init_919 (by decide) ?_
    refine e_icmp_ge (pc := 921) dX7_init_921 (t := 942) (by decide) (fun c_921 => absurd c_921 (nI_ge (a := k) (b := 32) hk2 (by decide))) (fun _ => ?_)
    refine e_aloadn (pc := 924) dX7_init_924 rfl ?_
    refine e_get (pc := 925) dX7_init_925 fX7_26 rfl rfl ?_
    refine e_iloadn (pc := 928) dX7_init_928 rfl ?_
    refine e_aloadn (pc := 929) dX7_init_929 rfl ?_
    refine e_get (pc := 930) dX7_init_930 fX7_47 rfl rfl ?_
    refine e_iloadn (pc := 933) dX7_init_933 rfl ?_
    refine ald_law (pc := 934) dX7_init_934 hi2 ?_
    refine ast_ytape (pc := 935) dX7_init_935 hi ?_
    refine e_inc1 (pc := 936) dX7_init_936 (Nat.le_of_ble_eq_true rfl) rfl ?_
    refine e_goto (pc := 939) dX7_init_939 (t := 918) (by decide) ?_
    rw [hc, show nI k + Int32.ofInt 1 = nI (k + 1) from nI_add k 1]
    refine e_w (w2 := (WW s a q u c h ym0 (mc_up yb0 3 (yq0 (k + 1))) yn0 yd0 [])) ?_ (ih (k + 1) (by omega))
    rw [show mc_up (mc_up yb0 3 (yq0 k)) 3 ((mc_up yb0 3 (yq0 k) 3).set k (ww_law.getD k 0)) = mc_up yb0 3 (yq0 (k + 1)) by rw [← yq0_step k hk2]; funext j; unfold mc_up; by_cases hj : j = 3 <;> simp [hj]]
def ym1 (k : Nat) : Int32 := [10, 1, 0, 0, 1].getD k 0
theorem ym1_of : mc_up (mc_up (mc_up ym0 3 32) 3 0) 4 (mc_up ym0 3 32 4 + 1) = ym1 := by
  funext j
  unfold mc_up ym0 ym1
  match j with
  | 0 => rfl
  | 1 => rfl
  | 2 => rfl
  | 3 => rfl
  | 4 => rfl
  | j + 5 => simp
/-- both sides made: the other side as it is made; its rows of texts say the law of the beginning -/
theorem ct_X7 {s u : Nat → Int32} {a c : Nat → List Int32} {q : List (Option Nat)} {h : Nat} : mc_S yX7_init cX7_init 2 none 8 16 2208 [.ref 29] [.inl (6, [.int (s 0), .int (s 1), .int (s 2), .ref 1, .ref 2, .ref 3, .ref 5, .int (s 3), .int (s 4), .ref 6, .ref 9, .ref 10, .ref 13, .ref 17]), .inr (.inl (a 0)), .inr (.inl (a 1)), .inl (5, [.ref 4, .int 1, .int 2]), .inr (.inl [1, 3, -4]), .inr (.inr (1, q)), .inl (4, [.ref 7, .int (s 5), .int (u 0), .int (u 1), .int (u 2), .ref 8, .int (u 3), .int (u 4), .int (u 5)]), .inr (.inl (a 2)), .inr (.inl (c 0)), .inr (.inr (2, [some 21, some 23, some 25, some 27])), .inl (0, [.ref 11, .ref 12]), .inr (.inl (a 3)), .inr (.inl (c 1)), .inl (2, [.int (s 6), .int (s 7), .int (s 8), .int (s 9), .int (s 10), .ref 14]), .inl (0, [.ref 15, .ref 16]), .inr (.inl (a 4)), .inr (.inl (c 2)), .inl (1, [.int (u 6), .ref h, .ref 18, .ref 19, .ref 20, .int (u 7)]), .inr (.inl (c 3)), .inr (.inl (c 4)), .inr (.inl (c 5)), .inl (3, [.ref 22, .int (s 11), .int (s 12)]), .inr (.inl (a 5)), .inl (3, [.ref 24, .int (s 13), .int (s 14)]), .inr (.inl (a 6)), .inl (3, [.ref 26, .int (s 15), .int (s 16)]), .inr (.inl (a 7)), .inl (3, [.ref 28, .int (s 17), .int (s 18)]), .inr (.inl (a 8)), .inl (7, [.int 0, .int 0, .int 0, .null, .null, .null, .null, .int 0, .null, .null, .int 0, .int 0, .int 0, .int 0, .int 0, .int 0, .int 0, .null, .null, .null, .null, .null, .int 0, .int 0, .int 0, .int 0, .null, .null, .int 0, .int 0, .int 0, .null, .null, .null, .int 0])] (fun r w => r = none ∧ ∃ b1 n1 d1, yTX 0 (mc_up yb0 3 (yq0 32)) b1 true [100001, 100003, 3] [0, 1, 2] ∧ yD d1 ∧ w = WW s a q u c h ym1 b1 n1 d1 []) := by
  refine mc_start (own := RX7) (ini := true) rfl (by decide +kernel) (fun _ => rfl) (Nat.le_of_ble_eq_true rfl) ?_
  show mc_E _ _ _ _ _ [some (.ref 29), none] [] _ _ _
  refine lp_y_body ?_
  refine e_w (w2 := (WW s a q u c h ym0 (mc_up yb0 3 (yq0 0)) yn0 yd0 [])) rfl ?_
  refine e_iconst (v := 0) (pc := 916) dX7_init_916 (by decide) ?_
  refine e_isn1 (pc := 917) dX7_init_917 (Nat.le_of_ble_eq_true rfl) rfl ?_
  refine lp_y_lawin (fun x1 => ?_) 32 0 rfl
  have HT := sp_y_text (s := s) (a := a) (q := q) (u := u) (c := c) (h := h) (m := mc_up ym0 3 32) (b := mc_up yb0 3 (yq0 32)) (n := yn0) (d := yd0) (z := []) (t := 0) (N := 32) (by unfold yL; decide +kernel) (by decide) (by decide) (by decide) (by decide) (by unfold yD; decide +kernel)
  rw [show ytxV (yt3 (mc_up yb0 3 (yq0 32))) 32 = (true, 32, [100001, 100003, 3], [0, 1, 2]) from yq0_text] at HT
  refine e_aloadn (pc := 942) dX7_init_942 rfl ?_
  refine e_bipush (v := 32) (pc := 943) dX7_init_943 (by decide) ?_
  refine put_y_taped (pc := 945) dX7_init_945 pX7_65 ?_
  refine e_aloadn (pc := 948) dX7_init_948 rfl ?_
  refine e_cvX (pc := 949) (HT) dX7_init_949 kX7_68 rfl rfl rfl rfl rfl (mc_CR_of (Nat.le_of_ble_eq_true rfl) (Nat.le_of_ble_eq_true rfl) (Nat.le_refl _) (Nat.le_refl _)) (Nat.le_of_ble_eq_true rfl) (fun w1 hw1 => ?_)
  obtain ⟨b1, n1, d1, X1, hD1, rfl⟩ := hw1
  refine e_pop (pc := 952) dX7_init_952 rfl ?_
  exact e_vret (pc := 953) dX7_init_953 rfl (Nat.le_refl _) (Nat.le_refl _) ⟨rfl, b1, n1, d1, X1, hD1, by rw [if_pos rfl, ym1_of]⟩
