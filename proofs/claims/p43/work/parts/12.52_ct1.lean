section Zj_52_ct1
def tw (l : List Int32) (k : Nat) : List Int32 := l.take k ++ List.replicate (l.length - k) 0
theorem e_iastL {own : String} {cc : ByteArray} {nL : Nat} {J : mc_J} {pc : Nat} {L : List (Option Value)} {st : List Value} {w w2 : mc_W} {kc ks a : Nat} {xs ys : List Int32} {i x : Int32} (hd : decode cc pc = .ok (.iastore, 1)) (hw : w[a]? = some (.inr (.inl xs))) (hi : vp_in i xs.length) (hy : xs.set i.toNatClampNeg x = ys) (hw2 : w.set a (.inr (.inl ys)) = w2) (kk : mc_E own cc nL J (pc + 1) L st w2 kc ks) : mc_E own cc nL J pc L (.int x :: .int i :: .ref a :: st) w kc ks := by
  subst hy; subst hw2; exact e_iast hd hw hi kk
theorem lp_y_law {J : mc_J} {L : List (Option Value)} {kc ks : Nat} {x0 x1 x2 x3 x4 x5 x6 x7 x8 x9 x10 x11 x12 x13 x14 x15 x16 x17 x18 x19 x20 x21 x22 x23 x24 x25 x26 x27 x28 x29 x30 x31 x32 x33 x34 x35 x36 x37 x38 x39 : mc_C} (hK : mc_E RX7 cX7_init 2 J 301 L [.ref 40, .ref 29] [x0, x1, x2, x3, x4, x5, x6, x7, x8, x9, x10, x11, x12, x13, x14, x15, x16, x17, x18, x19, x20, x21, x22, x23, x24, x25, x26, x27, x28, x29, x30, x31, x32, x33, x34, x35, x36, x37, x38, x39, .inr (.inl (ww_law))] kc ks) : mc_E RX7 cX7_init 2 J 115 L [.ref 40, .ref 29] [x0, x1, x2, x3, x4, x5, x6, x7, x8, x9, x10, x11, x12, x13, x14, x15, x16, x17, x18, x19, x20, x21, x22, x23, x24, x25, x26, x27, x28, x29, x30, x31, x32, x33, x34, x35, x36, x37, x38, x39, .inr (.inl (List.replicate 32 0))] kc ks := by
  refine e_w (w2 := [x0, x1, x2, x3, x4, x5, x6, x7, x8, x9, x10, x11, x12, x13, x14, x15, x16, x17, x18, x19, x20, x21, x22, x23, x24, x25, x26, x27, x28, x29, x30, x31, x32, x33, x34, x35, x36, x37, x38, x39, .inr (.inl (tw ww_law 0))]) rfl ?_
  refine e_dup (pc := 115) dX7_init_115 rfl ?_
  refine e_iconst (v := 0) (pc := 116) dX7_init_116 (by decide) ?_
  refine e_bipush (v := 110) (pc := 117) dX7_init_117 (by decide) ?_
  refine e_iastL (pc := 119) (ys := tw ww_law 1) (w2 := [x0, x1, x2, x3, x4, x5, x6, x7, x8, x9, x10, x11, x12, x13, x14, x15, x16, x17, x18, x19, x20, x21, x22, x23, x24, x25, x26, x27, x28, x29, x30, x31, x32, x33, x34, x35, x36, x37, x38, x39, .inr (.inl (tw ww_law 1))]) dX7_init_119 rfl (vi_of (by decide +kernel)) (by decide +kernel) rfl ?_
  refine e_dup (pc := 120) dX7_init_120 rfl ?_
  refine e_iconst (v := 1) (pc := 121) dX7_init_121 (by decide) ?_
  refine e_bipush (v := 111) (pc := 122) dX7_init_122 (by decide) ?_
  refine e_iastL (pc := 124) (ys := tw ww_law 2) (w2 := [x0, x1, x2, x3, x4, x5, x6, x7, x8, x9, x10, x11, x12, x13, x14, x15, x16, x17, x18, x19, x20, x21, x22, x23, x24, x25, x26, x27, x28, x29, x30, x31, x32, x33, x34, x35, x36, x37, x38, x39, .inr (.inl (tw ww_law 2))]) dX7_init_124 rfl (vi_of (by decide +kernel)) (by decide +kernel) rfl ?_
  refine e_dup (pc := 125) dX7_init_125 rfl ?_
  refine e_iconst (v := 2) (pc := 126) dX7_init_126 (by decide) ?_
  refine e_bipush (v := 117) (pc := 127) dX7_init_127 (by decide) ?_
  refine e_iastL (pc := 129) (ys := tw ww_law 3) (w2 := [x0, x1, x2, x3, x4, x5, x6, x7, x8, x9, x10, x11, x12, x13, x14, x15, x16, x17, x18, x19, x20, x21, x22, x23, x24, x25, x26, x27, x28, x29, x30, x31, x32, x33, x34, x35, x36, x37, x38, x39, .inr (.inl (tw ww_law 3))]) dX7_init_129 rfl (vi_of (by decide +kernel)) (by decide +kernel) rfl ?_
  refine e_dup (pc := 130) dX7_init_130 rfl ?_
  refine e_iconst (v := 3) (pc := 131) dX7_init_131 (by decide) ?_
  refine e_bipush (v := 103) (pc := 132) dX7_init_132 (by decide) ?_
  refine e_iastL (pc := 134) (ys := tw ww_law 4) (w2 := [x0, x1, x2, x3, x4, x5, x6, x7, x8, x9, x10, x11, x12, x13, x14, x15, x16, x17, x18, x19, x20, x21, x22, x23, x24, x25, x26, x27, x28, x29, x30, x31, x32, x33, x34, x35, x36, x37, x38, x39, .inr (.inl (tw ww_law 4))]) dX7_init_134 rfl (vi_of (by decide +kernel)) (by decide +kernel) rfl ?_
  refine e_dup (pc := 135) dX7_init_135 rfl ?_
  refine e_iconst (v := 4) (pc := 136) dX7_init_136 (by decide) ?_
  refine e_bipush (v := 104) (pc := 137) dX7_init_137 (by decide) ?_
  refine e_iastL (pc := 139) (ys := tw ww_law 5) (w2 := [x0, x1, x2, x3, x4, x5, x6, x7, x8, x9, x10, x11, x12, x13, x14, x15, x16, x17, x18, x19, x20, x21, x22, x23, x24, x25, x26, x27, x28, x29, x30, x31, x32, x33, x34, x35, x36, x37, x38, x39, .inr (.inl (tw ww_law 5))]) dX7_init_139 rfl (vi_of (by decide +kernel)) (by decide +kernel) rfl ?_
  refine e_dup (pc := 140) dX7_init_140 rfl ?_
  refine e_iconst (v := 5) (pc := 141) dX7_init_141 (by decide) ?_
  refine e_bipush (v := 116) (pc := 142) dX7_init_142 (by decide) ?_
  refine e_iastL (pc := 144) (ys := tw ww_law 6) (w2 := [x0, x1, x2, x3, x4, x5, x6, x7, x8, x9, x10, x11, x12, x13, x14, x15, x16, x17, x18, x19, x20, x21, x22, x23, x24, x25, x26, x27, x28, x29, x30, x31, x32, x33, x34, x35, x36, x37, x38, x39, .inr (.inl (tw ww_law 6))]) dX7_init_144 rfl (vi_of (by decide +kernel)) (by decide +kernel) rfl ?_
  refine e_dup (pc := 145) dX7_init_145 rfl ?_
  refine e_bipush (v := 6) (pc := 146) dX7_init_146 (by decide) ?_
  refine e_bipush (v := 32) (pc := 148) dX7_init_148 (by decide) ?_
  refine e_iastL (pc := 150) (ys := tw ww_law 7) (w2 := [x0, x1, x2, x3, x4, x5, x6, x7, x8, x9, x10, x11, x12, x13, x14, x15, x16, x17, x18, x19, x20, x21, x22, x23, x24, x25, x26, x27, x28, x29, x30, x31, x32, x33, x34, x35, x36, x37, x38, x39, .inr (.inl (tw ww_law 7))]) dX7_init_150 rfl (vi_of (by decide +kernel)) (by decide +kernel) rfl ?_
  refine e_dup (pc := 151) dX7_init_151 rfl ?_
  refine e_bipush (v := 7) (pc := 152) dX7_init_152 (by decide) ?_
  refine e_bipush (v := 49) (pc := 154) dX7_init_154 (by decide) ?_
  refine e_iastL (pc := 156) (ys := tw ww_law 8) (w2 := [x0, x1, x2, x3, x4, x5, x6, x7, x8, x9, x10, x11, x12, x13, x14, x15, x16, x17, x18, x19, x20, x21, x22, x23, x24, x25, x26, x27, x28, x29, x30, x31, x32, x33, x34, x35, x36, x37, x38, x39, .inr (.inl (tw ww_law 8))]) dX7_init_156 rfl (vi_of (by decide +kernel)) (by decide +kernel) rfl ?_
  refine e_dup (pc := 157) dX7_init_157 rfl ?_
  refine e_bipush (v := 8) (pc := 158) dX7_init_158 (by decide) ?_
  refine e_bipush (v := 32) (pc := 160) dX7_init_160 (by decide) ?_
  refine e_iastL (pc := 162) (ys := tw ww_law 9) (w2 := [x0, x1, x2, x3, x4, x5, x6, x7, x8, x9, x10, x11, x12, x13, x14, x15, x16, x17, x18, x19, x20, x21, x22, x23, x24, x25, x26, x27, x28, x29, x30, x31, x32, x33, x34, x35, x36, x37, x38, x39, .inr (.inl (tw ww_law 9))]) dX7_init_162 rfl (vi_of (by decide +kernel)) (by decide +kernel) rfl ?_
  refine e_dup (pc := 163) dX7_init_163 rfl ?_
  refine e_bipush (v := 9) (pc := 164) dX7_init_164 (by decide) ?_
  refine e_bipush (v := 59) (pc := 166) dX7_init_166 (by decide) ?_
  refine e_iastL (pc := 168) (ys := tw ww_law 10) (w2 := [x0, x1, x2, x3, x4, x5, x6, x7, x8, x9, x10, x11, x12, x13, x14, x15, x16, x17, x18, x19, x20, x21, x22, x23, x24, x25, x26, x27, x28, x29, x30, x31, x32, x33, x34, x35, x36, x37, x38, x39, .inr (.inl (tw ww_law 10))]) dX7_init_168 rfl (vi_of (by decide +kernel)) (by decide +kernel) rfl ?_
  refine e_dup (pc := 169) dX7_init_169 rfl ?_
  refine e_bipush (v := 10) (pc := 170) dX7_init_170 (by decide) ?_
  refine e_bipush (v := 32) (pc := 172) dX7_init_172 (by decide) ?_
  refine e_iastL (pc := 174) (ys := tw ww_law 11) (w2 := [x0, x1, x2, x3, x4, x5, x6, x7, x8, x9, x10, x11, x12, x13, x14, x15, x16, x17, x18, x19, x20, x21, x22, x23, x24, x25, x26, x27, x28, x29, x30, x31, x32, x33, x34, x35, x36, x37, x38, x39, .inr (.inl (tw ww_law 11))]) dX7_init_174 rfl (vi_of (by decide +kernel)) (by decide +kernel) rfl ?_
  refine e_dup (pc := 175) dX7_init_175 rfl ?_
  refine e_bipush (v := 11) (pc := 176) dX7_init_176 (by decide) ?_
  refine e_bipush (v := 115) (pc := 178) dX7_init_178 (by decide) ?_
  refine e_iastL (pc := 180) (ys := tw ww_law 12) (w2 := [x0, x1, x2, x3, x4, x5, x6, x7, x8, x9, x10, x11, x12, x13, x14, x15, x16, x17, x18, x19, x20, x21, x22, x23, x24, x25, x26, x27, x28, x29, x30, x31, x32, x33, x34, x35, x36, x37, x38, x39, .inr (.inl (tw ww_law 12))]) dX7_init_180 rfl (vi_of (by decide +kernel)) (by decide +kernel) rfl ?_
  refine e_dup (pc := 181) dX7_init_181 rfl ?_
  refine e_bipush (v := 12) (pc := 182) dX7_init_182 (by decide) ?_
  refine e_bipush (v := 108) (pc := 184) dX7_init_184 (by decide) ?_
  refine e_iastL (pc := 186) (ys := tw ww_law 13) (w2 := [x0, x1, x2, x3, x4, x5, x6, x7, x8, x9, x10, x11, x12, x13, x14, x15, x16, x17, x18, x19, x20, x21, x22, x23, x24, x25, x26, x27, x28, x29, x30, x31, x32, x33, x34, x35, x36, x37, x38, x39, .inr (.inl (tw ww_law 13))]) dX7_init_186 rfl (vi_of (by decide +kernel)) (by decide +kernel) rfl ?_
  refine e_dup (pc := 187) dX7_init_187 rfl ?_
  refine e_bipush (v := 13) (pc := 188) dX7_init_188 (by decide) ?_
  refine e_bipush (v := 105) (pc := 190) dX7_init_190 (by decide) ?_
  refine e_iastL (pc := 192) (ys := tw ww_law 14) (w2 := [x0, x1, x2, x3, x4, x5, x6, x7, x8, x9, x10, x11, x12, x13, x14, x15, x16, x17, x18, x19, x20, x21, x22, x23, x24, x25, x26, x27, x28, x29, x30, x31, x32, x33, x34, x35, x36, x37, x38, x39, .inr (.inl (tw ww_law 14))]) dX7_init_192 rfl (vi_of (by decide +kernel)) (by decide +kernel) rfl ?_
  refine e_dup (pc := 193) dX7_init_193 rfl ?_
  refine e_bipush (v := 14) (pc := 194) dX7_init_194 (by decide) ?_
  refine e_bipush (v := 112) (pc := 196) dX7_init_196 (by decide) ?_
  refine e_iastL (pc := 198) (ys := tw ww_law 15) (w2 := [x0, x1, x2, x3, x4, x5, x6, x7, x8, x9, x10, x11, x12, x13, x14, x15, x16, x17, x18, x19, x20, x21, x22, x23, x24, x25, x26, x27, x28, x29, x30, x31, x32, x33, x34, x35, x36, x37, x38, x39, .inr (.inl (tw ww_law 15))]) dX7_init_198 rfl (vi_of (by decide +kernel)) (by decide +kernel) rfl ?_
  refine e_dup (pc := 199) dX7_init_199 rfl ?_
  refine e_bipush (v := 15) (pc := 200) dX7_init_200 (by decide) ?_
  refine e_bipush (v := 115) (pc := 202) dX7_init_202 (by decide) ?_
  refine e_iastL (pc := 204) (ys := tw ww_law 16) (w2 := [x0, x1, x2, x3, x4, x5, x6, x7, x8, x9, x10, x11, x12, x13, x14, x15, x16, x17, x18, x19, x20, x21, x22, x23, x24, x25, x26, x27, x28, x29, x30, x31, x32, x33, x34, x35, x36, x37, x38, x39, .inr (.inl (tw ww_law 16))]) dX7_init_204 rfl (vi_of (by decide +kernel)) (by decide +kernel) rfl ?_
  refine e_dup (pc := 205) dX7_init_205 rfl ?_
  refine e_bipush (v := 16) (pc := 206) dX7_init_206 (by decide) ?_
  refine e_bipush (v := 32) (pc := 208) dX7_init_208 (by decide) ?_
  refine e_iastL (pc := 210) (ys := tw ww_law 17) (w2 := [x0, x1, x2, x3, x4, x5, x6, x7, x8, x9, x10, x11, x12, x13, x14, x15, x16, x17, x18, x19, x20, x21, x22, x23, x24, x25, x26, x27, x28, x29, x30, x31, x32, x33, x34, x35, x36, x37, x38, x39, .inr (.inl (tw ww_law 17))]) dX7_init_210 rfl (vi_of (by decide +kernel)) (by decide +kernel) rfl ?_
  refine e_dup (pc := 211) dX7_init_211 rfl ?_
  refine e_bipush (v := 17) (pc := 212) dX7_init_212 (by decide) ?_
  refine e_bipush (v := 51) (pc := 214) dX7_init_214 (by decide) ?_
  refine e_iastL (pc := 216) (ys := tw ww_law 18) (w2 := [x0, x1, x2, x3, x4, x5, x6, x7, x8, x9, x10, x11, x12, x13, x14, x15, x16, x17, x18, x19, x20, x21, x22, x23, x24, x25, x26, x27, x28, x29, x30, x31, x32, x33, x34, x35, x36, x37, x38, x39, .inr (.inl (tw ww_law 18))]) dX7_init_216 rfl (vi_of (by decide +kernel)) (by decide +kernel) rfl ?_
  refine e_dup (pc := 217) dX7_init_217 rfl ?_
  refine e_bipush (v := 18) (pc := 218) dX7_init_218 (by decide) ?_
  refine e_bipush (v := 32) (pc := 220) dX7_init_220 (by decide) ?_
  refine e_iastL (pc := 222) (ys := tw ww_law 19) (w2 := [x0, x1, x2, x3, x4, x5, x6, x7, x8, x9, x10, x11, x12, x13, x14, x15, x16, x17, x18, x19, x20, x21, x22, x23, x24, x25, x26, x27, x28, x29, x30, x31, x32, x33, x34, x35, x36, x37, x38, x39, .inr (.inl (tw ww_law 19))]) dX7_init_222 rfl (vi_of (by decide +kernel)) (by decide +kernel) rfl ?_
  refine e_dup (pc := 223) dX7_init_223 rfl ?_
  refine e_bipush (v := 19) (pc := 224) dX7_init_224 (by decide) ?_
  refine e_bipush (v := 59) (pc := 226) dX7_init_226 (by decide) ?_
  refine e_iastL (pc := 228) (ys := tw ww_law 20) (w2 := [x0, x1, x2, x3, x4, x5, x6, x7, x8, x9, x10, x11, x12, x13, x14, x15, x16, x17, x18, x19, x20, x21, x22, x23, x24, x25, x26, x27, x28, x29, x30, x31, x32, x33, x34, x35, x36, x37, x38, x39, .inr (.inl (tw ww_law 20))]) dX7_init_228 rfl (vi_of (by decide +kernel)) (by decide +kernel) rfl ?_
  refine e_dup (pc := 229) dX7_init_229 rfl ?_
  refine e_bipush (v := 20) (pc := 230) dX7_init_230 (by decide) ?_
  refine e_bipush (v := 32) (pc := 232) dX7_init_232 (by decide) ?_
  refine e_iastL (pc := 234) (ys := tw ww_law 21) (w2 := [x0, x1, x2, x3, x4, x5, x6, x7, x8, x9, x10, x11, x12, x13, x14, x15, x16, x17, x18, x19, x20, x21, x22, x23, x24, x25, x26, x27, x28, x29, x30, x31, x32, x33, x34, x35, x36, x37, x38, x39, .inr (.inl (tw ww_law 21))]) dX7_init_234 rfl (vi_of (by decide +kernel)) (by decide +kernel) rfl ?_
  refine e_dup (pc := 235) dX7_init_235 rfl ?_
  refine e_bipush (v := 21) (pc := 236) dX7_init_236 (by decide) ?_
  refine e_bipush (v := 99) (pc := 238) dX7_init_238 (by decide) ?_
  refine e_iastL (pc := 240) (ys := tw ww_law 22) (w2 := [x0, x1, x2, x3, x4, x5, x6, x7, x8, x9, x10, x11, x12, x13, x14, x15, x16, x17, x18, x19, x20, x21, x22, x23, x24, x25, x26, x27, x28, x29, x30, x31, x32, x33, x34, x35, x36, x37, x38, x39, .inr (.inl (tw ww_law 22))]) dX7_init_240 rfl (vi_of (by decide +kernel)) (by decide +kernel) rfl ?_
  refine e_dup (pc := 241) dX7_init_241 rfl ?_
  refine e_bipush (v := 22) (pc := 242) dX7_init_242 (by decide) ?_
  refine e_bipush (v := 111) (pc := 244) dX7_init_244 (by decide) ?_
  refine e_iastL (pc := 246) (ys := tw ww_law 23) (w2 := [x0, x1, x2, x3, x4, x5, x6, x7, x8, x9, x10, x11, x12, x13, x14, x15, x16, x17, x18, x19, x20, x21, x22, x23, x24, x25, x26, x27, x28, x29, x30, x31, x32, x33, x34, x35, x36, x37, x38, x39, .inr (.inl (tw ww_law 23))]) dX7_init_246 rfl (vi_of (by decide +kernel)) (by decide +kernel) rfl ?_
  refine e_dup (pc := 247) dX7_init_247 rfl ?_
  refine e_bipush (v := 23) (pc := 248) dX7_init_248 (by decide) ?_
  refine e_bipush (v := 115) (pc := 250) dX7_init_250 (by decide) ?_
  refine e_iastL (pc := 252) (ys := tw ww_law 24) (w2 := [x0, x1, x2, x3, x4, x5, x6, x7, x8, x9, x10, x11, x12, x13, x14, x15, x16, x17, x18, x19, x20, x21, x22, x23, x24, x25, x26, x27, x28, x29, x30, x31, x32, x33, x34, x35, x36, x37, x38, x39, .inr (.inl (tw ww_law 24))]) dX7_init_252 rfl (vi_of (by decide +kernel)) (by decide +kernel) rfl ?_
  refine e_dup (pc := 253) dX7_init_253 rfl ?_
  refine e_bipush (v := 24) (pc := 254) dX7_init_254 (by decide) ?_
  refine e_bipush (v := 116) (pc := 256) dX7_init_256 (by decide) ?_
  refine e_iastL (pc := 258) (ys := tw ww_law 25) (w2 := [x0, x1, x2, x3, x4, x5, x6, x7, x8, x9, x10, x11, x12, x13, x14, x15, x16, x17, x18, x19, x20, x21, x22, x23, x24, x25, x26, x27, x28, x29, x30, x31, x32, x33, x34, x35, x36, x37, x38, x39, .inr (.inl (tw ww_law 25))]) dX7_init_258 rfl (vi_of (by decide +kernel)) (by decide +kernel) rfl ?_
  refine e_dup (pc := 259) dX7_init_259 rfl ?_
  refine e_bipush (v := 25) (pc := 260) dX7_init_260 (by decide) ?_
  refine e_bipush (v := 115) (pc := 262) dX7_init_262 (by decide) ?_
  refine e_iastL (pc := 264) (ys := tw ww_law 26) (w2 := [x0, x1, x2, x3, x4, x5, x6, x7, x8, x9, x10, x11, x12, x13, x14, x15, x16, x17, x18, x19, x20, x21, x22, x23, x24, x25, x26, x27, x28, x29, x30, x31, x32, x33, x34, x35, x36, x37, x38, x39, .inr (.inl (tw ww_law 26))]) dX7_init_264 rfl (vi_of (by decide +kernel)) (by decide +kernel) rfl ?_
  refine e_dup (pc := 265) dX7_init_265 rfl ?_
  refine e_bipush (v := 26) (pc := 266) dX7_init_266 (by decide) ?_
  refine e_bipush (v := 32) (pc := 268) dX7_init_268 (by decide) ?_
  refine e_iastL (pc := 270) (ys := tw ww_law 27) (w2 := [x0, x1, x2, x3, x4, x5, x6, x7, x8, x9, x10, x11, x12, x13, x14, x15, x16, x17, x18, x19, x20, x21, x22, x23, x24, x25, x26, x27, x28, x29, x30, x31, x32, x33, x34, x35, x36, x37, x38, x39, .inr (.inl (tw ww_law 27))]) dX7_init_270 rfl (vi_of (by decide +kernel)) (by decide +kernel) rfl ?_
  refine e_dup (pc := 271) dX7_init_271 rfl ?_
  refine e_bipush (v := 27) (pc := 272) dX7_init_272 (by decide) ?_
  refine e_bipush (v := 111) (pc := 274) dX7_init_274 (by decide) ?_
  refine e_iastL (pc := 276) (ys := tw ww_law 28) (w2 := [x0, x1, x2, x3, x4, x5, x6, x7, x8, x9, x10, x11, x12, x13, x14, x15, x16, x17, x18, x19, x20, x21, x22, x23, x24, x25, x26, x27, x28, x29, x30, x31, x32, x33, x34, x35, x36, x37, x38, x39, .inr (.inl (tw ww_law 28))]) dX7_init_276 rfl (vi_of (by decide +kernel)) (by decide +kernel) rfl ?_
  refine e_dup (pc := 277) dX7_init_277 rfl ?_
  refine e_bipush (v := 28) (pc := 278) dX7_init_278 (by decide) ?_
  refine e_bipush (v := 102) (pc := 280) dX7_init_280 (by decide) ?_
  refine e_iastL (pc := 282) (ys := tw ww_law 29) (w2 := [x0, x1, x2, x3, x4, x5, x6, x7, x8, x9, x10, x11, x12, x13, x14, x15, x16, x17, x18, x19, x20, x21, x22, x23, x24, x25, x26, x27, x28, x29, x30, x31, x32, x33, x34, x35, x36, x37, x38, x39, .inr (.inl (tw ww_law 29))]) dX7_init_282 rfl (vi_of (by decide +kernel)) (by decide +kernel) rfl ?_
  refine e_dup (pc := 283) dX7_init_283 rfl ?_
  refine e_bipush (v := 29) (pc := 284) dX7_init_284 (by decide) ?_
  refine e_bipush (v := 102) (pc := 286) dX7_init_286 (by decide) ?_
  refine e_iastL (pc := 288) (ys := tw ww_law 30) (w2 := [x0, x1, x2, x3, x4, x5, x6, x7, x8, x9, x10, x11, x12, x13, x14, x15, x16, x17, x18, x19, x20, x21, x22, x23, x24, x25, x26, x27, x28, x29, x30, x31, x32, x33, x34, x35, x36, x37, x38, x39, .inr (.inl (tw ww_law 30))]) dX7_init_288 rfl (vi_of (by decide +kernel)) (by decide +kernel) rfl ?_
  refine e_dup (pc := 289) dX7_init_289 rfl ?_
  refine e_bipush (v := 30) (pc := 290) dX7_init_290 (by decide) ?_
  refine e_bipush (v := 32) (pc := 292) dX7_init_292 (by decide) ?_
  refine e_iastL (pc := 294) (ys := tw ww_law 31) (w2 := [x0, x1, x2, x3, x4, x5, x6, x7, x8, x9, x10, x11, x12, x13, x14, x15, x16, x17, x18, x19, x20, x21, x22, x23, x24, x25, x26, x27, x28, x29, x30, x31, x32, x33, x34, x35, x36, x37, x38, x39, .inr (.inl (tw ww_law 31))]) dX7_init_294 rfl (vi_of (by decide +kernel)) (by decide +kernel) rfl ?_
  refine e_dup (pc := 295) dX7_init_295 rfl ?_
  refine e_bipush (v := 31) (pc := 296) dX7_init_296 (by decide) ?_
  refine e_bipush (v := 59) (pc := 298) dX7_init_298 (by decide) ?_
  refine e_iastL (pc := 300) (ys := tw ww_law 32) (w2 := [x0, x1, x2, x3, x4, x5, x6, x7, x8, x9, x10, x11, x12, x13, x14, x15, x16, x17, x18, x19, x20, x21, x22, x23, x24, x25, x26, x27, x28, x29, x30, x31, x32, x33, x34, x35, x36, x37, x38, x39, .inr (.inl (tw ww_law 32))]) dX7_init_300 rfl (vi_of (by decide +kernel)) (by decide +kernel) rfl ?_
  refine e_w (w2 := [x0, x1, x2, x3, x4, x5, x6, x7, x8, x9, x10, x11, x12, x13, x14, x15, x16, x17, x18, x19, x20, x21, x22, x23, x24, x25, x26, x27, x28, x29, x30, x31, x32, x33, x34, x35, x36, x37, x38, x39, .inr (.inl (ww_law))]) (by rw [show tw ww_law 32 = ww_law by decide +kernel]) ?_
  exact hK
theorem lp_y_words {J : mc_J} {L : List (Option Value)} {kc ks : Nat} {x0 x1 x2 x3 x4 x5 x6 x7 x8 x9 x10 x11 x12 x13 x14 x15 x16 x17 x18 x19 x20 x21 x22 x23 x24 x25 x26 x27 x28 x29 x30 x31 x32 x33 x34 x35 x36 x37 x38 x39 x40 : mc_C} (hK : mc_E RX7 cX7_init 2 J 879 L [.ref 41, .ref 29] [x0, x1, x2, x3, x4, x5, x6, x7, x8, x9, x10, x11, x12, x13, x14, x15, x16, x17, x18, x19, x20, x21, x22, x23, x24, x25, x26, x27, x28, x29, x30, x31, x32, x33, x34, x35, x36, x37, x38, x39, x40, .inr (.inl (ww_words))] kc ks) : mc_E RX7 cX7_init 2 J 309 L [.ref 41, .ref 29] [x0, x1, x2, x3, x4, x5, x6, x7, x8, x9, x10, x11, x12, x13, x14, x15, x16, x17, x18, x19, x20, x21, x22, x23, x24, x25, x26, x27, x28, x29, x30, x31, x32, x33, x34, x35, x36, x37, x38, x39, x40, .inr (.inl (List.replicate 96 0))] kc ks := by
  refine e_w (w2 := [x0, x1, x2, x3, x4, x5, x6, x7, x8, x9, x10, x11, x12, x13, x14, x15, x16, x17, x18, x19, x20, x21, x22, x23, x24, x25, x26, x27, x28, x29, x30, x31, x32, x33, x34, x35, x36, x37, x38, x39, x40, .inr (.inl (tw ww_words 0))]) rfl ?_
  refine e_dup (pc := 309) dX7_init_309 rfl ?_
  refine e_iconst (v := 0) (pc := 310) dX7_init_310 (by decide) ?_
  refine e_bipush (v := 110) (pc := 311) dX7_init_311 (by decide) ?_
  refine e_iastL (pc := 313) (ys := tw ww_words 1) (w2 := [x0, x1, x2, x3, x4, x5, x6, x7, x8, x9, x10, x11, x12, x13, x14, x15, x16, x17, x18, x19, x20, x21, x22, x23, x24, x25, x26, x27, x28, x29, x30, x31, x32, x33, x34, x35, x36, x37, x38, x39, x40, .inr (.inl (tw ww_words 1))]) dX7_init_313 rfl (vi_of (by decide +kernel)) (by decide +kernel) rfl ?_
  refine e_dup (pc := 314) dX7_init_314 rfl ?_
  refine e_iconst (v := 1) (pc := 315) dX7_init_315 (by decide) ?_
  refine e_bipush (v := 111) (pc := 316) dX7_init_316 (by decide) ?_
  refine e_iastL (pc := 318) (ys := tw ww_words 2) (w2 := [x0, x1, x2, x3, x4, x5, x6, x7, x8, x9, x10, x11, x12, x13, x14, x15, x16, x17, x18, x19, x20, x21, x22, x23, x24, x25, x26, x27, x28, x29, x30, x31, x32, x33, x34, x35, x36, x37, x38, x39, x40, .inr (.inl (tw ww_words 2))]) dX7_init_318 rfl (vi_of (by decide +kernel)) (by decide +kernel) rfl ?_
  refine e_dup (pc := 319) dX7_init_319 rfl ?_
  refine e_iconst (v := 2) (pc := 320) dX7_init_320 (by decide) ?_
  refine e_bipush (v := 117) (pc := 321) dX7_init_321 (by decide) ?_
  refine e_iastL (pc := 323) (ys := tw ww_words 3) (w2 := [x0, x1, x2, x3, x4, x5, x6, x7, x8, x9, x10, x11, x12, x13, x14, x15, x16, x17, x18, x19, x20, x21, x22, x23, x24, x25, x26, x27, x28, x29, x30, x31, x32, x33, x34, x35, x36, x37, x38, x39, x40, .inr (.inl (tw ww_words 3))]) dX7_init_323 rfl (vi_of (by decide +kernel)) (by decide +kernel) rfl ?_
  refine e_dup (pc := 324) dX7_init_324 rfl ?_
  refine e_iconst (v := 3) (pc := 325) dX7_init_325 (by decide) ?_
  refine e_bipush (v := 103) (pc := 326) dX7_init_326 (by decide) ?_
  refine e_iastL (pc := 328) (ys := tw ww_words 4) (w2 := [x0, x1, x2, x3, x4, x5, x6, x7, x8, x9, x10, x11, x12, x13, x14, x15, x16, x17, x18, x19, x20, x21, x22, x23, x24, x25, x26, x27, x28, x29, x30, x31, x32, x33, x34, x35, x36, x37, x38, x39, x40, .inr (.inl (tw ww_words 4))]) dX7_init_328 rfl (vi_of (by decide +kernel)) (by decide +kernel) rfl ?_
  refine e_dup (pc := 329) dX7_init_329 rfl ?_
  refine e_iconst (v := 4) (pc := 330) dX7_init_330 (by decide) ?_
  refine e_bipush (v := 104) (pc := 331) dX7_init_331 (by decide) ?_
  refine e_iastL (pc := 333) (ys := tw ww_words 5) (w2 := [x0, x1, x2, x3, x4, x5, x6, x7, x8, x9, x10, x11, x12, x13, x14, x15, x16, x17, x18, x19, x20, x21, x22, x23, x24, x25, x26, x27, x28, x29, x30, x31, x32, x33, x34, x35, x36, x37, x38, x39, x40, .inr (.inl (tw ww_words 5))]) dX7_init_333 rfl (vi_of (by decide +kernel)) (by decide +kernel) rfl ?_
  refine e_dup (pc := 334) dX7_init_334 rfl ?_
  refine e_iconst (v := 5) (pc := 335) dX7_init_335 (by decide) ?_
  refine e_bipush (v := 116) (pc := 336) dX7_init_336 (by decide) ?_
  refine e_iastL (pc := 338) (ys := tw ww_words 6) (w2 := [x0, x1, x2, x3, x4, x5, x6, x7, x8, x9, x10, x11, x12, x13, x14, x15, x16, x17, x18, x19, x20, x21, x22, x23, x24, x25, x26, x27, x28, x29, x30, x31, x32, x33, x34, x35, x36, x37, x38, x39, x40, .inr (.inl (tw ww_words 6))]) dX7_init_338 rfl (vi_of (by decide +kernel)) (by decide +kernel) rfl ?_
  refine e_dup (pc := 339) dX7_init_339 rfl ?_
  refine e_bipush (v := 6) (pc := 340) dX7_init_340 (by decide) ?_
  refine e_bipush (v := 32) (pc := 342) dX7_init_342 (by decide) ?_
  refine e_iastL (pc := 344) (ys := tw ww_words 7) (w2 := [x0, x1, x2, x3, x4, x5, x6, x7, x8, x9, x10, x11, x12, x13, x14, x15, x16, x17, x18, x19, x20, x21, x22, x23, x24, x25, x26, x27, x28, x29, x30, x31, x32, x33, x34, x35, x36, x37, x38, x39, x40, .inr (.inl (tw ww_words 7))]) dX7_init_344 rfl (vi_of (by decide +kernel)) (by decide +kernel) rfl ?_
  refine e_dup (pc := 345) dX7_init_345 rfl ?_
  refine e_bipush (v := 7) (pc := 346) dX7_init_346 (by decide) ?_
  refine e_bipush (v := 32) (pc := 348) dX7_init_348 (by decide) ?_
  refine e_iastL (pc := 350) (ys := tw ww_words 8) (w2 := [x0, x1, x2, x3, x4, x5, x6, x7, x8, x9, x10, x11, x12, x13, x14, x15, x16, x17, x18, x19, x20, x21, x22, x23, x24, x25, x26, x27, x28, x29, x30, x31, x32, x33, x34, x35, x36, x37, x38, x39, x40, .inr (.inl (tw ww_words 8))]) dX7_init_350 rfl (vi_of (by decide +kernel)) (by decide +kernel) rfl ?_
  refine e_dup (pc := 351) dX7_init_351 rfl ?_
  refine e_bipush (v := 8) (pc := 352) dX7_init_352 (by decide) ?_
  refine e_bipush (v := 115) (pc := 354) dX7_init_354 (by decide) ?_
  refine e_iastL (pc := 356) (ys := tw ww_words 9) (w2 := [x0, x1, x2, x3, x4, x5, x6, x7, x8, x9, x10, x11, x12, x13, x14, x15, x16, x17, x18, x19, x20, x21, x22, x23, x24, x25, x26, x27, x28, x29, x30, x31, x32, x33, x34, x35, x36, x37, x38, x39, x40, .inr (.inl (tw ww_words 9))]) dX7_init_356 rfl (vi_of (by decide +kernel)) (by decide +kernel) rfl ?_
  refine e_dup (pc := 357) dX7_init_357 rfl ?_
  refine e_bipush (v := 9) (pc := 358) dX7_init_358 (by decide) ?_
  refine e_bipush (v := 108) (pc := 360) dX7_init_360 (by decide) ?_
  refine e_iastL (pc := 362) (ys := tw ww_words 10) (w2 := [x0, x1, x2, x3, x4, x5, x6, x7, x8, x9, x10, x11, x12, x13, x14, x15, x16, x17, x18, x19, x20, x21, x22, x23, x24, x25, x26, x27, x28, x29, x30, x31, x32, x33, x34, x35, x36, x37, x38, x39, x40, .inr (.inl (tw ww_words 10))]) dX7_init_362 rfl (vi_of (by decide +kernel)) (by decide +kernel) rfl ?_
  refine e_dup (pc := 363) dX7_init_363 rfl ?_
  refine e_bipush (v := 10) (pc := 364) dX7_init_364 (by decide) ?_
  refine e_bipush (v := 105) (pc := 366) dX7_init_366 (by decide) ?_
  refine e_iastL (pc := 368) (ys := tw ww_words 11) (w2 := [x0, x1, x2, x3, x4, x5, x6, x7, x8, x9, x10, x11, x12, x13, x14, x15, x16, x17, x18, x19, x20, x21, x22, x23, x24, x25, x26, x27, x28, x29, x30, x31, x32, x33, x34, x35, x36, x37, x38, x39, x40, .inr (.inl (tw ww_words 11))]) dX7_init_368 rfl (vi_of (by decide +kernel)) (by decide +kernel) rfl ?_
  refine e_dup (pc := 369) dX7_init_369 rfl ?_
  refine e_bipush (v := 11) (pc := 370) dX7_init_370 (by decide) ?_
  refine e_bipush (v := 112) (pc := 372) dX7_init_372 (by decide) ?_
  refine e_iastL (pc := 374) (ys := tw ww_words 12) (w2 := [x0, x1, x2, x3, x4, x5, x6, x7, x8, x9, x10, x11, x12, x13, x14, x15, x16, x17, x18, x19, x20, x21, x22, x23, x24, x25, x26, x27, x28, x29, x30, x31, x32, x33, x34, x35, x36, x37, x38, x39, x40, .inr (.inl (tw ww_words 12))]) dX7_init_374 rfl (vi_of (by decide +kernel)) (by decide +kernel) rfl ?_
  refine e_dup (pc := 375) dX7_init_375 rfl ?_
  refine e_bipush (v := 12) (pc := 376) dX7_init_376 (by decide) ?_
  refine e_bipush (v := 115) (pc := 378) dX7_init_378 (by decide) ?_
  refine e_iastL (pc := 380) (ys := tw ww_words 13) (w2 := [x0, x1, x2, x3, x4, x5, x6, x7, x8, x9, x10, x11, x12, x13, x14, x15, x16, x17, x18, x19, x20, x21, x22, x23, x24, x25, x26, x27, x28, x29, x30, x31, x32, x33, x34, x35, x36, x37, x38, x39, x40, .inr (.inl (tw ww_words 13))]) dX7_init_380 rfl (vi_of (by decide +kernel)) (by decide +kernel) rfl ?_
  refine e_dup (pc := 381) dX7_init_381 rfl ?_
  refine e_bipush (v := 13) (pc := 382) dX7_init_382 (by decide) ?_
  refine e_bipush (v := 32) (pc := 384) dX7_init_384 (by decide) ?_
  refine e_iastL (pc := 386) (ys := tw ww_words 14) (w2 := [x0, x1, x2, x3, x4, x5, x6, x7, x8, x9, x10, x11, x12, x13, x14, x15, x16, x17, x18, x19, x20, x21, x22, x23, x24, x25, x26, x27, x28, x29, x30, x31, x32, x33, x34, x35, x36, x37, x38, x39, x40, .inr (.inl (tw ww_words 14))]) dX7_init_386 rfl (vi_of (by decide +kernel)) (by decide +kernel) rfl ?_
  refine e_dup (pc := 387) dX7_init_387 rfl ?_
  refine e_bipush (v := 14) (pc := 388) dX7_init_388 (by decide) ?_
  refine e_bipush (v := 32) (pc := 390) dX7_init_390 (by decide) ?_
  refine e_iastL (pc := 392) (ys := tw ww_words 15) (w2 := [x0, x1, x2, x3, x4, x5, x6, x7, x8, x9, x10, x11, x12, x13, x14, x15, x16, x17, x18, x19, x20, x21, x22, x23, x24, x25, x26, x27, x28, x29, x30, x31, x32, x33, x34, x35, x36, x37, x38, x39, x40, .inr (.inl (tw ww_words 15))]) dX7_init_392 rfl (vi_of (by decide +kernel)) (by decide +kernel) rfl ?_
  refine e_dup (pc := 393) dX7_init_393 rfl ?_
  refine e_bipush (v := 15) (pc := 394) dX7_init_394 (by decide) ?_
  refine e_bipush (v := 32) (pc := 396) dX7_init_396 (by decide) ?_
  refine e_iastL (pc := 398) (ys := tw ww_words 16) (w2 := [x0, x1, x2, x3, x4, x5, x6, x7, x8, x9, x10, x11, x12, x13, x14, x15, x16, x17, x18, x19, x20, x21, x22, x23, x24, x25, x26, x27, x28, x29, x30, x31, x32, x33, x34, x35, x36, x37, x38, x39, x40, .inr (.inl (tw ww_words 16))]) dX7_init_398 rfl (vi_of (by decide +kernel)) (by decide +kernel) rfl ?_
  refine e_dup (pc := 399) dX7_init_399 rfl ?_
  refine e_bipush (v := 16) (pc := 400) dX7_init_400 (by decide) ?_
  refine e_bipush (v := 99) (pc := 402) dX7_init_402 (by decide) ?_
  refine e_iastL (pc := 404) (ys := tw ww_words 17) (w2 := [x0, x1, x2, x3, x4, x5, x6, x7, x8, x9, x10, x11, x12, x13, x14, x15, x16, x17, x18, x19, x20, x21, x22, x23, x24, x25, x26, x27, x28, x29, x30, x31, x32, x33, x34, x35, x36, x37, x38, x39, x40, .inr (.inl (tw ww_words 17))]) dX7_init_404 rfl (vi_of (by decide +kernel)) (by decide +kernel) rfl ?_
  refine e_dup (pc := 405) dX7_init_405 rfl ?_
  refine e_bipush (v := 17) (pc := 406) dX7_init_406 (by decide) ?_
  refine e_bipush (v := 111) (pc := 408) dX7_init_408 (by decide) ?_
  refine e_iastL (pc := 410) (ys := tw ww_words 18) (w2 := [x0, x1, x2, x3, x4, x5, x6, x7, x8, x9, x10, x11, x12, x13, x14, x15, x16, x17, x18, x19, x20, x21, x22, x23, x24, x25, x26, x27, x28, x29, x30, x31, x32, x33, x34, x35, x36, x37, x38, x39, x40, .inr (.inl (tw ww_words 18))]) dX7_init_410 rfl (vi_of (by decide +kernel)) (by decide +kernel) rfl ?_
  refine e_dup (pc := 411) dX7_init_411 rfl ?_
  refine e_bipush (v := 18) (pc := 412) dX7_init_412 (by decide) ?_
  refine e_bipush (v := 115) (pc := 414) dX7_init_414 (by decide) ?_
  refine e_iastL (pc := 416) (ys := tw ww_words 19) (w2 := [x0, x1, x2, x3, x4, x5, x6, x7, x8, x9, x10, x11, x12, x13, x14, x15, x16, x17, x18, x19, x20, x21, x22, x23, x24, x25, x26, x27, x28, x29, x30, x31, x32, x33, x34, x35, x36, x37, x38, x39, x40, .inr (.inl (tw ww_words 19))]) dX7_init_416 rfl (vi_of (by decide +kernel)) (by decide +kernel) rfl ?_
  refine e_dup (pc := 417) dX7_init_417 rfl ?_
  refine e_bipush (v := 19) (pc := 418) dX7_init_418 (by decide) ?_
  refine e_bipush (v := 116) (pc := 420) dX7_init_420 (by decide) ?_
  refine e_iastL (pc := 422) (ys := tw ww_words 20) (w2 := [x0, x1, x2, x3, x4, x5, x6, x7, x8, x9, x10, x11, x12, x13, x14, x15, x16, x17, x18, x19, x20, x21, x22, x23, x24, x25, x26, x27, x28, x29, x30, x31, x32, x33, x34, x35, x36, x37, x38, x39, x40, .inr (.inl (tw ww_words 20))]) dX7_init_422 rfl (vi_of (by decide +kernel)) (by decide +kernel) rfl ?_
  refine e_dup (pc := 423) dX7_init_423 rfl ?_
  refine e_bipush (v := 20) (pc := 424) dX7_init_424 (by decide) ?_
  refine e_bipush (v := 115) (pc := 426) dX7_init_426 (by decide) ?_
  refine e_iastL (pc := 428) (ys := tw ww_words 21) (w2 := [x0, x1, x2, x3, x4, x5, x6, x7, x8, x9, x10, x11, x12, x13, x14, x15, x16, x17, x18, x19, x20, x21, x22, x23, x24, x25, x26, x27, x28, x29, x30, x31, x32, x33, x34, x35, x36, x37, x38, x39, x40, .inr (.inl (tw ww_words 21))]) dX7_init_428 rfl (vi_of (by decide +kernel)) (by decide +kernel) rfl ?_
  refine e_dup (pc := 429) dX7_init_429 rfl ?_
  refine e_bipush (v := 21) (pc := 430) dX7_init_430 (by decide) ?_
  refine e_bipush (v := 32) (pc := 432) dX7_init_432 (by decide) ?_
  refine e_iastL (pc := 434) (ys := tw ww_words 22) (w2 := [x0, x1, x2, x3, x4, x5, x6, x7, x8, x9, x10, x11, x12, x13, x14, x15, x16, x17, x18, x19, x20, x21, x22, x23, x24, x25, x26, x27, x28, x29, x30, x31, x32, x33, x34, x35, x36, x37, x38, x39, x40, .inr (.inl (tw ww_words 22))]) dX7_init_434 rfl (vi_of (by decide +kernel)) (by decide +kernel) rfl ?_
  refine e_dup (pc := 435) dX7_init_435 rfl ?_
  refine e_bipush (v := 22) (pc := 436) dX7_init_436 (by decide) ?_
  refine e_bipush (v := 32) (pc := 438) dX7_init_438 (by decide) ?_
  refine e_iastL (pc := 440) (ys := tw ww_words 23) (w2 := [x0, x1, x2, x3, x4, x5, x6, x7, x8, x9, x10, x11, x12, x13, x14, x15, x16, x17, x18, x19, x20, x21, x22, x23, x24, x25, x26, x27, x28, x29, x30, x31, x32, x33, x34, x35, x36, x37, x38, x39, x40, .inr (.inl (tw ww_words 23))]) dX7_init_440 rfl (vi_of (by decide +kernel)) (by decide +kernel) rfl ?_
  refine e_dup (pc := 441) dX7_init_441 rfl ?_
  refine e_bipush (v := 23) (pc := 442) dX7_init_442 (by decide) ?_
  refine e_bipush (v := 32) (pc := 444) dX7_init_444 (by decide) ?_
  refine e_iastL (pc := 446) (ys := tw ww_words 24) (w2 := [x0, x1, x2, x3, x4, x5, x6, x7, x8, x9, x10, x11, x12, x13, x14, x15, x16, x17, x18, x19, x20, x21, x22, x23, x24, x25, x26, x27, x28, x29, x30, x31, x32, x33, x34, x35, x36, x37, x38, x39, x40, .inr (.inl (tw ww_words 24))]) dX7_init_446 rfl (vi_of (by decide +kernel)) (by decide +kernel) rfl ?_
  refine e_dup (pc := 447) dX7_init_447 rfl ?_
  refine e_bipush (v := 24) (pc := 448) dX7_init_448 (by decide) ?_
  refine e_bipush (v := 109) (pc := 450) dX7_init_450 (by decide) ?_
  refine e_iastL (pc := 452) (ys := tw ww_words 25) (w2 := [x0, x1, x2, x3, x4, x5, x6, x7, x8, x9, x10, x11, x12, x13, x14, x15, x16, x17, x18, x19, x20, x21, x22, x23, x24, x25, x26, x27, x28, x29, x30, x31, x32, x33, x34, x35, x36, x37, x38, x39, x40, .inr (.inl (tw ww_words 25))]) dX7_init_452 rfl (vi_of (by decide +kernel)) (by decide +kernel) rfl ?_
  refine e_dup (pc := 453) dX7_init_453 rfl ?_
  refine e_bipush (v := 25) (pc := 454) dX7_init_454 (by decide) ?_
  refine e_bipush (v := 111) (pc := 456) dX7_init_456 (by decide) ?_
  refine e_iastL (pc := 458) (ys := tw ww_words 26) (w2 := [x0, x1, x2, x3, x4, x5, x6, x7, x8, x9, x10, x11, x12, x13, x14, x15, x16, x17, x18, x19, x20, x21, x22, x23, x24, x25, x26, x27, x28, x29, x30, x31, x32, x33, x34, x35, x36, x37, x38, x39, x40, .inr (.inl (tw ww_words 26))]) dX7_init_458 rfl (vi_of (by decide +kernel)) (by decide +kernel) rfl ?_
  refine e_dup (pc := 459) dX7_init_459 rfl ?_
  refine e_bipush (v := 26) (pc := 460) dX7_init_460 (by decide) ?_
  refine e_bipush (v := 114) (pc := 462) dX7_init_462 (by decide) ?_
  refine e_iastL (pc := 464) (ys := tw ww_words 27) (w2 := [x0, x1, x2, x3, x4, x5, x6, x7, x8, x9, x10, x11, x12, x13, x14, x15, x16, x17, x18, x19, x20, x21, x22, x23, x24, x25, x26, x27, x28, x29, x30, x31, x32, x33, x34, x35, x36, x37, x38, x39, x40, .inr (.inl (tw ww_words 27))]) dX7_init_464 rfl (vi_of (by decide +kernel)) (by decide +kernel) rfl ?_
  refine e_dup (pc := 465) dX7_init_465 rfl ?_
  refine e_bipush (v := 27) (pc := 466) dX7_init_466 (by decide) ?_
  refine e_bipush (v := 101) (pc := 468) dX7_init_468 (by decide) ?_
  refine e_iastL (pc := 470) (ys := tw ww_words 28) (w2 := [x0, x1, x2, x3, x4, x5, x6, x7, x8, x9, x10, x11, x12, x13, x14, x15, x16, x17, x18, x19, x20, x21, x22, x23, x24, x25, x26, x27, x28, x29, x30, x31, x32, x33, x34, x35, x36, x37, x38, x39, x40, .inr (.inl (tw ww_words 28))]) dX7_init_470 rfl (vi_of (by decide +kernel)) (by decide +kernel) rfl ?_
  refine e_dup (pc := 471) dX7_init_471 rfl ?_
  refine e_bipush (v := 28) (pc := 472) dX7_init_472 (by decide) ?_
  refine e_bipush (v := 32) (pc := 474) dX7_init_474 (by decide) ?_
  refine e_iastL (pc := 476) (ys := tw ww_words 29) (w2 := [x0, x1, x2, x3, x4, x5, x6, x7, x8, x9, x10, x11, x12, x13, x14, x15, x16, x17, x18, x19, x20, x21, x22, x23, x24, x25, x26, x27, x28, x29, x30, x31, x32, x33, x34, x35, x36, x37, x38, x39, x40, .inr (.inl (tw ww_words 29))]) dX7_init_476 rfl (vi_of (by decide +kernel)) (by decide +kernel) rfl ?_
  refine e_dup (pc := 477) dX7_init_477 rfl ?_
  refine e_bipush (v := 29) (pc := 478) dX7_init_478 (by decide) ?_
  refine e_bipush (v := 32) (pc := 480) dX7_init_480 (by decide) ?_
  refine e_iastL (pc := 482) (ys := tw ww_words 30) (w2 := [x0, x1, x2, x3, x4, x5, x6, x7, x8, x9, x10, x11, x12, x13, x14, x15, x16, x17, x18, x19, x20, x21, x22, x23, x24, x25, x26, x27, x28, x29, x30, x31, x32, x33, x34, x35, x36, x37, x38, x39, x40, .inr (.inl (tw ww_words 30))]) dX7_init_482 rfl (vi_of (by decide +kernel)) (by decide +kernel) rfl ?_
  refine e_dup (pc := 483) dX7_init_483 rfl ?_
  refine e_bipush (v := 30) (pc := 484) dX7_init_484 (by decide) ?_
  refine e_bipush (v := 32) (pc := 486) dX7_init_486 (by decide) ?_
  refine e_iastL (pc := 488) (ys := tw ww_words 31) (w2 := [x0, x1, x2, x3, x4, x5, x6, x7, x8, x9, x10, x11, x12, x13, x14, x15, x16, x17, x18, x19, x20, x21, x22, x23, x24, x25, x26, x27, x28, x29, x30, x31, x32, x33, x34, x35, x36, x37, x38, x39, x40, .inr (.inl (tw ww_words 31))]) dX7_init_488 rfl (vi_of (by decide +kernel)) (by decide +kernel) rfl ?_
  refine e_dup (pc := 489) dX7_init_489 rfl ?_
  refine e_bipush (v := 31) (pc := 490) dX7_init_490 (by decide) ?_
  refine e_bipush (v := 32) (pc := 492) dX7_init_492 (by decide) ?_
  refine e_iastL (pc := 494) (ys := tw ww_words 32) (w2 := [x0, x1, x2, x3, x4, x5, x6, x7, x8, x9, x10, x11, x12, x13, x14, x15, x16, x17, x18, x19, x20, x21, x22, x23, x24, x25, x26, x27, x28, x29, x30, x31, x32, x33, x34, x35, x36, x37, x38, x39, x40, .inr (.inl (tw ww_words 32))]) dX7_init_494 rfl (vi_of (by decide +kernel)) (by decide +kernel) rfl ?_
  refine e_dup (pc := 495) dX7_init_495 rfl ?_
  refine e_bipush (v := 32) (pc := 496) dX7_init_496 (by decide) ?_
  refine e_bipush (v := 99) (pc := 498) dX7_init_498 (by decide) ?_
  refine e_iastL (pc := 500) (ys := tw ww_words 33) (w2 := [x0, x1, x2, x3, x4, x5, x6, x7, x8, x9, x10, x11, x12, x13, x14, x15, x16, x17, x18, x19, x20, x21, x22, x23, x24, x25, x26, x27, x28, x29, x30, x31, x32, x33, x34, x35, x36, x37, x38, x39, x40, .inr (.inl (tw ww_words 33))]) dX7_init_500 rfl (vi_of (by decide +kernel)) (by decide +kernel) rfl ?_
  refine e_dup (pc := 501) dX7_init_501 rfl ?_
  refine e_bipush (v := 33) (pc := 502) dX7_init_502 (by decide) ?_
  refine e_bipush (v := 108) (pc := 504) dX7_init_504 (by decide) ?_
  refine e_iastL (pc := 506) (ys := tw ww_words 34) (w2 := [x0, x1, x2, x3, x4, x5, x6, x7, x8, x9, x10, x11, x12, x13, x14, x15, x16, x17, x18, x19, x20, x21, x22, x23, x24, x25, x26, x27, x28, x29, x30, x31, x32, x33, x34, x35, x36, x37, x38, x39, x40, .inr (.inl (tw ww_words 34))]) dX7_init_506 rfl (vi_of (by decide +kernel)) (by decide +kernel) rfl ?_
  refine e_dup (pc := 507) dX7_init_507 rfl ?_
  refine e_bipush (v := 34) (pc := 508) dX7_init_508 (by decide) ?_
  refine e_bipush (v := 101) (pc := 510) dX7_init_510 (by decide) ?_
  refine e_iastL (pc := 512) (ys := tw ww_words 35) (w2 := [x0, x1, x2, x3, x4, x5, x6, x7, x8, x9, x10, x11, x12, x13, x14, x15, x16, x17, x18, x19, x20, x21, x22, x23, x24, x25, x26, x27, x28, x29, x30, x31, x32, x33, x34, x35, x36, x37, x38, x39, x40, .inr (.inl (tw ww_words 35))]) dX7_init_512 rfl (vi_of (by decide +kernel)) (by decide +kernel) rfl ?_
  refine e_dup (pc := 513) dX7_init_513 rfl ?_
  refine e_bipush (v := 35) (pc := 514) dX7_init_514 (by decide) ?_
  refine e_bipush (v := 114) (pc := 516) dX7_init_516 (by decide) ?_
  refine e_iastL (pc := 518) (ys := tw ww_words 36) (w2 := [x0, x1, x2, x3, x4, x5, x6, x7, x8, x9, x10, x11, x12, x13, x14, x15, x16, x17, x18, x19, x20, x21, x22, x23, x24, x25, x26, x27, x28, x29, x30, x31, x32, x33, x34, x35, x36, x37, x38, x39, x40, .inr (.inl (tw ww_words 36))]) dX7_init_518 rfl (vi_of (by decide +kernel)) (by decide +kernel) rfl ?_
  refine e_dup (pc := 519) dX7_init_519 rfl ?_
  refine e_bipush (v := 36) (pc := 520) dX7_init_520 (by decide) ?_
  refine e_bipush (v := 107) (pc := 522) dX7_init_522 (by decide) ?_
  refine e_iastL (pc := 524) (ys := tw ww_words 37) (w2 := [x0, x1, x2, x3, x4, x5, x6, x7, x8, x9, x10, x11, x12, x13, x14, x15, x16, x17, x18, x19, x20, x21, x22, x23, x24, x25, x26, x27, x28, x29, x30, x31, x32, x33, x34, x35, x36, x37, x38, x39, x40, .inr (.inl (tw ww_words 37))]) dX7_init_524 rfl (vi_of (by decide +kernel)) (by decide +kernel) rfl ?_
  refine e_dup (pc := 525) dX7_init_525 rfl ?_
  refine e_bipush (v := 37) (pc := 526) dX7_init_526 (by decide) ?_
  refine e_bipush (v := 32) (pc := 528) dX7_init_528 (by decide) ?_
  refine e_iastL (pc := 530) (ys := tw ww_words 38) (w2 := [x0, x1, x2, x3, x4, x5, x6, x7, x8, x9, x10, x11, x12, x13, x14, x15, x16, x17, x18, x19, x20, x21, x22, x23, x24, x25, x26, x27, x28, x29, x30, x31, x32, x33, x34, x35, x36, x37, x38, x39, x40, .inr (.inl (tw ww_words 38))]) dX7_init_530 rfl (vi_of (by decide +kernel)) (by decide +kernel) rfl ?_
  refine e_dup (pc := 531) dX7_init_531 rfl ?_
  refine e_bipush (v := 38) (pc := 532) dX7_init_532 (by decide) ?_
  refine e_bipush (v := 32) (pc := 534) dX7_init_534 (by decide) ?_
  refine e_iastL (pc := 536) (ys := tw ww_words 39) (w2 := [x0, x1, x2, x3, x4, x5, x6, x7, x8, x9, x10, x11, x12, x13, x14, x15, x16, x17, x18, x19, x20, x21, x22, x23, x24, x25, x26, x27, x28, x29, x30, x31, x32, x33, x34, x35, x36, x37, x38, x39, x40, .inr (.inl (tw ww_words 39))]) dX7_init_536 rfl (vi_of (by decide +kernel)) (by decide +kernel) rfl ?_
  refine e_dup (pc := 537) dX7_init_537 rfl ?_
  refine e_bipush (v := 39) (pc := 538) dX7_init_538 (by decide) ?_
  refine e_bipush (v := 32) (pc := 540) dX7_init_540 (by decide) ?_
  refine e_iastL (pc := 542) (ys := tw ww_words 40) (w2 := [x0, x1, x2, x3, x4, x5, x6, x7, x8, x9, x10, x11, x12, x13, x14, x15, x16, x17, x18, x19, x20, x21, x22, x23, x24, x25, x26, x27, x28, x29, x30, x31, x32, x33, x34, x35, x36, x37, x38, x39, x40, .inr (.inl (tw ww_words 40))]) dX7_init_542 rfl (vi_of (by decide +kernel)) (by decide +kernel) rfl ?_
  refine e_dup (pc := 543) dX7_init_543 rfl ?_
  refine e_bipush (v := 40) (pc := 544) dX7_init_544 (by decide) ?_
  refine e_bipush (v := 118) (pc := 546) dX7_init_546 (by decide) ?_
  refine e_iastL (pc := 548) (ys := tw ww_words 41) (w2 := [x0, x1, x2, x3, x4, x5, x6, x7, x8, x9, x10, x11, x12, x13, x14, x15, x16, x17, x18, x19, x20, x21, x22, x23, x24, x25, x26, x27, x28, x29, x30, x31, x32, x33, x34, x35, x36, x37, x38, x39, x40, .inr (.inl (tw ww_words 41))]) dX7_init_548 rfl (vi_of (by decide +kernel)) (by decide +kernel) rfl ?_
  refine e_dup (pc := 549) dX7_init_549 rfl ?_
  refine e_bipush (v := 41) (pc := 550) dX7_init_550 (by decide) ?_
  refine e_bipush (v := 32) (pc := 552) dX7_init_552 (by decide) ?_
  refine e_iastL (pc := 554) (ys := tw ww_words 42) (w2 := [x0, x1, x2, x3, x4, x5, x6, x7, x8, x9, x10, x11, x12, x13, x14, x15, x16, x17, x18, x19, x20, x21, x22, x23, x24, x25, x26, x27, x28, x29, x30, x31, x32, x33, x34, x35, x36, x37, x38, x39, x40, .inr (.inl (tw ww_words 42))]) dX7_init_554 rfl (vi_of (by decide +kernel)) (by decide +kernel) rfl ?_
  refine e_dup (pc := 555) dX7_init_555 rfl ?_
  refine e_bipush (v := 42) (pc := 556) dX7_init_556 (by decide) ?_
  refine e_bipush (v := 32) (pc := 558) dX7_init_558 (by decide) ?_
  refine e_iastL (pc := 560) (ys := tw ww_words 43) (w2 := [x0, x1, x2, x3, x4, x5, x6, x7, x8, x9, x10, x11, x12, x13, x14, x15, x16, x17, x18, x19, x20, x21, x22, x23, x24, x25, x26, x27, x28, x29, x30, x31, x32, x33, x34, x35, x36, x37, x38, x39, x40, .inr (.inl (tw ww_words 43))]) dX7_init_560 rfl (vi_of (by decide +kernel)) (by decide +kernel) rfl ?_
  refine e_dup (pc := 561) dX7_init_561 rfl ?_
  refine e_bipush (v := 43) (pc := 562) dX7_init_562 (by decide) ?_
  refine e_bipush (v := 32) (pc := 564) dX7_init_564 (by decide) ?_
  refine e_iastL (pc := 566) (ys := tw ww_words 44) (w2 := [x0, x1, x2, x3, x4, x5, x6, x7, x8, x9, x10, x11, x12, x13, x14, x15, x16, x17, x18, x19, x20, x21, x22, x23, x24, x25, x26, x27, x28, x29, x30, x31, x32, x33, x34, x35, x36, x37, x38, x39, x40, .inr (.inl (tw ww_words 44))]) dX7_init_566 rfl (vi_of (by decide +kernel)) (by decide +kernel) rfl ?_
  refine e_dup (pc := 567) dX7_init_567 rfl ?_
  refine e_bipush (v := 44) (pc := 568) dX7_init_568 (by decide) ?_
  refine e_bipush (v := 32) (pc := 570) dX7_init_570 (by decide) ?_
  refine e_iastL (pc := 572) (ys := tw ww_words 45) (w2 := [x0, x1, x2, x3, x4, x5, x6, x7, x8, x9, x10, x11, x12, x13, x14, x15, x16, x17, x18, x19, x20, x21, x22, x23, x24, x25, x26, x27, x28, x29, x30, x31, x32, x33, x34, x35, x36, x37, x38, x39, x40, .inr (.inl (tw ww_words 45))]) dX7_init_572 rfl (vi_of (by decide +kernel)) (by decide +kernel) rfl ?_
  refine e_dup (pc := 573) dX7_init_573 rfl ?_
  refine e_bipush (v := 45) (pc := 574) dX7_init_574 (by decide) ?_
  refine e_bipush (v := 32) (pc := 576) dX7_init_576 (by decide) ?_
  refine e_iastL (pc := 578) (ys := tw ww_words 46) (w2 := [x0, x1, x2, x3, x4, x5, x6, x7, x8, x9, x10, x11, x12, x13, x14, x15, x16, x17, x18, x19, x20, x21, x22, x23, x24, x25, x26, x27, x28, x29, x30, x31, x32, x33, x34, x35, x36, x37, x38, x39, x40, .inr (.inl (tw ww_words 46))]) dX7_init_578 rfl (vi_of (by decide +kernel)) (by decide +kernel) rfl ?_
  refine e_dup (pc := 579) dX7_init_579 rfl ?_
  refine e_bipush (v := 46) (pc := 580) dX7_init_580 (by decide) ?_
  refine e_bipush (v := 32) (pc := 582) dX7_init_582 (by decide) ?_
  refine e_iastL (pc := 584) (ys := tw ww_words 47) (w2 := [x0, x1, x2, x3, x4, x5, x6, x7, x8, x9, x10, x11, x12, x13, x14, x15, x16, x17, x18, x19, x20, x21, x22, x23, x24, x25, x26, x27, x28, x29, x30, x31, x32, x33, x34, x35, x36, x37, x38, x39, x40, .inr (.inl (tw ww_words 47))]) dX7_init_584 rfl (vi_of (by decide +kernel)) (by decide +kernel) rfl ?_
  refine e_dup (pc := 585) dX7_init_585 rfl ?_
  refine e_bipush (v := 47) (pc := 586) dX7_init_586 (by decide) ?_
  refine e_bipush (v := 32) (pc := 588) dX7_init_588 (by decide) ?_
  refine e_iastL (pc := 590) (ys := tw ww_words 48) (w2 := [x0, x1, x2, x3, x4, x5, x6, x7, x8, x9, x10, x11, x12, x13, x14, x15, x16, x17, x18, x19, x20, x21, x22, x23, x24, x25, x26, x27, x28, x29, x30, x31, x32, x33, x34, x35, x36, x37, x38, x39, x40, .inr (.inl (tw ww_words 48))]) dX7_init_590 rfl (vi_of (by decide +kernel)) (by decide +kernel) rfl ?_
  refine e_dup (pc := 591) dX7_init_591 rfl ?_
  refine e_bipush (v := 48) (pc := 592) dX7_init_592 (by decide) ?_
  refine e_bipush (v := 111) (pc := 594) dX7_init_594 (by decide) ?_
  refine e_iastL (pc := 596) (ys := tw ww_words 49) (w2 := [x0, x1, x2, x3, x4, x5, x6, x7, x8, x9, x10, x11, x12, x13, x14, x15, x16, x17, x18, x19, x20, x21, x22, x23, x24, x25, x26, x27, x28, x29, x30, x31, x32, x33, x34, x35, x36, x37, x38, x39, x40, .inr (.inl (tw ww_words 49))]) dX7_init_596 rfl (vi_of (by decide +kernel)) (by decide +kernel) rfl ?_
  refine e_dup (pc := 597) dX7_init_597 rfl ?_
  refine e_bipush (v := 49) (pc := 598) dX7_init_598 (by decide) ?_
  refine e_bipush (v := 102) (pc := 600) dX7_init_600 (by decide) ?_
  refine e_iastL (pc := 602) (ys := tw ww_words 50) (w2 := [x0, x1, x2, x3, x4, x5, x6, x7, x8, x9, x10, x11, x12, x13, x14, x15, x16, x17, x18, x19, x20, x21, x22, x23, x24, x25, x26, x27, x28, x29, x30, x31, x32, x33, x34, x35, x36, x37, x38, x39, x40, .inr (.inl (tw ww_words 50))]) dX7_init_602 rfl (vi_of (by decide +kernel)) (by decide +kernel) rfl ?_
  refine e_dup (pc := 603) dX7_init_603 rfl ?_
  refine e_bipush (v := 50) (pc := 604) dX7_init_604 (by decide) ?_
  refine e_bipush (v := 102) (pc := 606) dX7_init_606 (by decide) ?_
  refine e_iastL (pc := 608) (ys := tw ww_words 51) (w2 := [x0, x1, x2, x3, x4, x5, x6, x7, x8, x9, x10, x11, x12, x13, x14, x15, x16, x17, x18, x19, x20, x21, x22, x23, x24, x25, x26, x27, x28, x29, x30, x31, x32, x33, x34, x35, x36, x37, x38, x39, x40, .inr (.inl (tw ww_words 51))]) dX7_init_608 rfl (vi_of (by decide +kernel)) (by decide +kernel) rfl ?_
  refine e_dup (pc := 609) dX7_init_609 rfl ?_
  refine e_bipush (v := 51) (pc := 610) dX7_init_610 (by decide) ?_
  refine e_bipush (v := 32) (pc := 612) dX7_init_612 (by decide) ?_
  refine e_iastL (pc := 614) (ys := tw ww_words 52) (w2 := [x0, x1, x2, x3, x4, x5, x6, x7, x8, x9, x10, x11, x12, x13, x14, x15, x16, x17, x18, x19, x20, x21, x22, x23, x24, x25, x26, x27, x28, x29, x30, x31, x32, x33, x34, x35, x36, x37, x38, x39, x40, .inr (.inl (tw ww_words 52))]) dX7_init_614 rfl (vi_of (by decide +kernel)) (by decide +kernel) rfl ?_
  refine e_dup (pc := 615) dX7_init_615 rfl ?_
  refine e_bipush (v := 52) (pc := 616) dX7_init_616 (by decide) ?_
  refine e_bipush (v := 32) (pc := 618) dX7_init_618 (by decide) ?_
  refine e_iastL (pc := 620) (ys := tw ww_words 53) (w2 := [x0, x1, x2, x3, x4, x5, x6, x7, x8, x9, x10, x11, x12, x13, x14, x15, x16, x17, x18, x19, x20, x21, x22, x23, x24, x25, x26, x27, x28, x29, x30, x31, x32, x33, x34, x35, x36, x37, x38, x39, x40, .inr (.inl (tw ww_words 53))]) dX7_init_620 rfl (vi_of (by decide +kernel)) (by decide +kernel) rfl ?_
  refine e_dup (pc := 621) dX7_init_621 rfl ?_
  refine e_bipush (v := 53) (pc := 622) dX7_init_622 (by decide) ?_
  refine e_bipush (v := 32) (pc := 624) dX7_init_624 (by decide) ?_
  refine e_iastL (pc := 626) (ys := tw ww_words 54) (w2 := [x0, x1, x2, x3, x4, x5, x6, x7, x8, x9, x10, x11, x12, x13, x14, x15, x16, x17, x18, x19, x20, x21, x22, x23, x24, x25, x26, x27, x28, x29, x30, x31, x32, x33, x34, x35, x36, x37, x38, x39, x40, .inr (.inl (tw ww_words 54))]) dX7_init_626 rfl (vi_of (by decide +kernel)) (by decide +kernel) rfl ?_
  refine e_dup (pc := 627) dX7_init_627 rfl ?_
  refine e_bipush (v := 54) (pc := 628) dX7_init_628 (by decide) ?_
  refine e_bipush (v := 32) (pc := 630) dX7_init_630 (by decide) ?_
  refine e_iastL (pc := 632) (ys := tw ww_words 55) (w2 := [x0, x1, x2, x3, x4, x5, x6, x7, x8, x9, x10, x11, x12, x13, x14, x15, x16, x17, x18, x19, x20, x21, x22, x23, x24, x25, x26, x27, x28, x29, x30, x31, x32, x33, x34, x35, x36, x37, x38, x39, x40, .inr (.inl (tw ww_words 55))]) dX7_init_632 rfl (vi_of (by decide +kernel)) (by decide +kernel) rfl ?_
  refine e_dup (pc := 633) dX7_init_633 rfl ?_
  refine e_bipush (v := 55) (pc := 634) dX7_init_634 (by decide) ?_
  refine e_bipush (v := 32) (pc := 636) dX7_init_636 (by decide) ?_
  refine e_iastL (pc := 638) (ys := tw ww_words 56) (w2 := [x0, x1, x2, x3, x4, x5, x6, x7, x8, x9, x10, x11, x12, x13, x14, x15, x16, x17, x18, x19, x20, x21, x22, x23, x24, x25, x26, x27, x28, x29, x30, x31, x32, x33, x34, x35, x36, x37, x38, x39, x40, .inr (.inl (tw ww_words 56))]) dX7_init_638 rfl (vi_of (by decide +kernel)) (by decide +kernel) rfl ?_
  refine e_dup (pc := 639) dX7_init_639 rfl ?_
  refine e_bipush (v := 56) (pc := 640) dX7_init_640 (by decide) ?_
  refine e_bipush (v := 98) (pc := 642) dX7_init_642 (by decide) ?_
  refine e_iastL (pc := 644) (ys := tw ww_words 57) (w2 := [x0, x1, x2, x3, x4, x5, x6, x7, x8, x9, x10, x11, x12, x13, x14, x15, x16, x17, x18, x19, x20, x21, x22, x23, x24, x25, x26, x27, x28, x29, x30, x31, x32, x33, x34, x35, x36, x37, x38, x39, x40, .inr (.inl (tw ww_words 57))]) dX7_init_644 rfl (vi_of (by decide +kernel)) (by decide +kernel) rfl ?_
  refine e_dup (pc := 645) dX7_init_645 rfl ?_
  refine e_bipush (v := 57) (pc := 646) dX7_init_646 (by decide) ?_
  refine e_bipush (v := 97) (pc := 648) dX7_init_648 (by decide) ?_
  refine e_iastL (pc := 650) (ys := tw ww_words 58) (w2 := [x0, x1, x2, x3, x4, x5, x6, x7, x8, x9, x10, x11, x12, x13, x14, x15, x16, x17, x18, x19, x20, x21, x22, x23, x24, x25, x26, x27, x28, x29, x30, x31, x32, x33, x34, x35, x36, x37, x38, x39, x40, .inr (.inl (tw ww_words 58))]) dX7_init_650 rfl (vi_of (by decide +kernel)) (by decide +kernel) rfl ?_
  refine e_dup (pc := 651) dX7_init_651 rfl ?_
  refine e_bipush (v := 58) (pc := 652) dX7_init_652 (by decide) ?_
  refine e_bipush (v := 115) (pc := 654) dX7_init_654 (by decide) ?_
  refine e_iastL (pc := 656) (ys := tw ww_words 59) (w2 := [x0, x1, x2, x3, x4, x5, x6, x7, x8, x9, x10, x11, x12, x13, x14, x15, x16, x17, x18, x19, x20, x21, x22, x23, x24, x25, x26, x27, x28, x29, x30, x31, x32, x33, x34, x35, x36, x37, x38, x39, x40, .inr (.inl (tw ww_words 59))]) dX7_init_656 rfl (vi_of (by decide +kernel)) (by decide +kernel) rfl ?_
  refine e_dup (pc := 657) dX7_init_657 rfl ?_
  refine e_bipush (v := 59) (pc := 658) dX7_init_658 (by decide) ?_
  refine e_bipush (v := 101) (pc := 660) dX7_init_660 (by decide) ?_
  refine e_iastL (pc := 662) (ys := tw ww_words 60) (w2 := [x0, x1, x2, x3, x4, x5, x6, x7, x8, x9, x10, x11, x12, x13, x14, x15, x16, x17, x18, x19, x20, x21, x22, x23, x24, x25, x26, x27, x28, x29, x30, x31, x32, x33, x34, x35, x36, x37, x38, x39, x40, .inr (.inl (tw ww_words 60))]) dX7_init_662 rfl (vi_of (by decide +kernel)) (by decide +kernel) rfl ?_
  refine e_dup (pc := 663) dX7_init_663 rfl ?_
  refine e_bipush (v := 60) (pc := 664) dX7_init_664 (by decide) ?_
  refine e_bipush (v := 32) (pc := 666) dX7_init_666 (by decide) ?_
  refine e_iastL (pc := 668) (ys := tw ww_words 61) (w2 := [x0, x1, x2, x3, x4, x5, x6, x7, x8, x9, x10, x11, x12, x13, x14, x15, x16, x17, x18, x19, x20, x21, x22, x23, x24, x25, x26, x27, x28, x29, x30, x31, x32, x33, x34, x35, x36, x37, x38, x39, x40, .inr (.inl (tw ww_words 61))]) dX7_init_668 rfl (vi_of (by decide +kernel)) (by decide +kernel) rfl ?_
  refine e_dup (pc := 669) dX7_init_669 rfl ?_
  refine e_bipush (v := 61) (pc := 670) dX7_init_670 (by decide) ?_
  refine e_bipush (v := 32) (pc := 672) dX7_init_672 (by decide) ?_
  refine e_iastL (pc := 674) (ys := tw ww_words 62) (w2 := [x0, x1, x2, x3, x4, x5, x6, x7, x8, x9, x10, x11, x12, x13, x14, x15, x16, x17, x18, x19, x20, x21, x22, x23, x24, x25, x26, x27, x28, x29, x30, x31, x32, x33, x34, x35, x36, x37, x38, x39, x40, .inr (.inl (tw ww_words 62))]) dX7_init_674 rfl (vi_of (by decide +kernel)) (by decide +kernel) rfl ?_
  refine e_dup (pc := 675) dX7_init_675 rfl ?_
  refine e_bipush (v := 62) (pc := 676) dX7_init_676 (by decide) ?_
  refine e_bipush (v := 32) (pc := 678) dX7_init_678 (by decide) ?_
  refine e_iastL (pc := 680) (ys := tw ww_words 63) (w2 := [x0, x1, x2, x3, x4, x5, x6, x7, x8, x9, x10, x11, x12, x13, x14, x15, x16, x17, x18, x19, x20, x21, x22, x23, x24, x25, x26, x27, x28, x29, x30, x31, x32, x33, x34, x35, x36, x37, x38, x39, x40, .inr (.inl (tw ww_words 63))]) dX7_init_680 rfl (vi_of (by decide +kernel)) (by decide +kernel) rfl ?_
  refine e_dup (pc := 681) dX7_init_681 rfl ?_
  refine e_bipush (v := 63) (pc := 682) dX7_init_682 (by decide) ?_
  refine e_bipush (v := 32) (pc := 684) dX7_init_684 (by decide) ?_
  refine e_iastL (pc := 686) (ys := tw ww_words 64) (w2 := [x0, x1, x2, x3, x4, x5, x6, x7, x8, x9, x10, x11, x12, x13, x14, x15, x16, x17, x18, x19, x20, x21, x22, x23, x24, x25, x26, x27, x28, x29, x30, x31, x32, x33, x34, x35, x36, x37, x38, x39, x40, .inr (.inl (tw ww_words 64))]) dX7_init_686 rfl (vi_of (by decide +kernel)) (by decide +kernel) rfl ?_
  refine e_dup (pc := 687) dX7_init_687 rfl ?_
  refine e_bipush (v := 64) (pc := 688) dX7_init_688 (by decide) ?_
  refine e_bipush (v := 121) (pc := 690) dX7_init_690 (by decide) ?_
  refine e_iastL (pc := 692) (ys := tw ww_words 65) (w2 := [x0, x1, x2, x3, x4, x5, x6, x7, x8, x9, x10, x11, x12, x13, x14, x15, x16, x17, x18, x19, x20, x21, x22, x23, x24, x25, x26, x27, x28, x29, x30, x31, x32, x33, x34, x35, x36, x37, x38, x39, x40, .inr (.inl (tw ww_words 65))]) dX7_init_692 rfl (vi_of (by decide +kernel)) (by decide +kernel) rfl ?_
  refine e_dup (pc := 693) dX7_init_693 rfl ?_
  refine e_bipush (v := 65) (pc := 694) dX7_init_694 (by decide) ?_
  refine e_bipush (v := 101) (pc := 696) dX7_init_696 (by decide) ?_
  refine e_iastL (pc := 698) (ys := tw ww_words 66) (w2 := [x0, x1, x2, x3, x4, x5, x6, x7, x8, x9, x10, x11, x12, x13, x14, x15, x16, x17, x18, x19, x20, x21, x22, x23, x24, x25, x26, x27, x28, x29, x30, x31, x32, x33, x34, x35, x36, x37, x38, x39, x40, .inr (.inl (tw ww_words 66))]) dX7_init_698 rfl (vi_of (by decide +kernel)) (by decide +kernel) rfl ?_
  refine e_dup (pc := 699) dX7_init_699 rfl ?_
  refine e_bipush (v := 66) (pc := 700) dX7_init_700 (by decide) ?_
  refine e_bipush (v := 97) (pc := 702) dX7_init_702 (by decide) ?_
  refine e_iastL (pc := 704) (ys := tw ww_words 67) (w2 := [x0, x1, x2, x3, x4, x5, x6, x7, x8, x9, x10, x11, x12, x13, x14, x15, x16, x17, x18, x19, x20, x21, x22, x23, x24, x25, x26, x27, x28, x29, x30, x31, x32, x33, x34, x35, x36, x37, x38, x39, x40, .inr (.inl (tw ww_words 67))]) dX7_init_704 rfl (vi_of (by decide +kernel)) (by decide +kernel) rfl ?_
  refine e_dup (pc := 705) dX7_init_705 rfl ?_
  refine e_bipush (v := 67) (pc := 706) dX7_init_706 (by decide) ?_
  refine e_bipush (v := 114) (pc := 708) dX7_init_708 (by decide) ?_
  refine e_iastL (pc := 710) (ys := tw ww_words 68) (w2 := [x0, x1, x2, x3, x4, x5, x6, x7, x8, x9, x10, x11, x12, x13, x14, x15, x16, x17, x18, x19, x20, x21, x22, x23, x24, x25, x26, x27, x28, x29, x30, x31, x32, x33, x34, x35, x36, x37, x38, x39, x40, .inr (.inl (tw ww_words 68))]) dX7_init_710 rfl (vi_of (by decide +kernel)) (by decide +kernel) rfl ?_
  refine e_dup (pc := 711) dX7_init_711 rfl ?_
  refine e_bipush (v := 68) (pc := 712) dX7_init_712 (by decide) ?_
  refine e_bipush (v := 32) (pc := 714) dX7_init_714 (by decide) ?_
  refine e_iastL (pc := 716) (ys := tw ww_words 69) (w2 := [x0, x1, x2, x3, x4, x5, x6, x7, x8, x9, x10, x11, x12, x13, x14, x15, x16, x17, x18, x19, x20, x21, x22, x23, x24, x25, x26, x27, x28, x29, x30, x31, x32, x33, x34, x35, x36, x37, x38, x39, x40, .inr (.inl (tw ww_words 69))]) dX7_init_716 rfl (vi_of (by decide +kernel)) (by decide +kernel) rfl ?_
  refine e_dup (pc := 717) dX7_init_717 rfl ?_
  refine e_bipush (v := 69) (pc := 718) dX7_init_718 (by decide) ?_
  refine e_bipush (v := 32) (pc := 720) dX7_init_720 (by decide) ?_
  refine e_iastL (pc := 722) (ys := tw ww_words 70) (w2 := [x0, x1, x2, x3, x4, x5, x6, x7, x8, x9, x10, x11, x12, x13, x14, x15, x16, x17, x18, x19, x20, x21, x22, x23, x24, x25, x26, x27, x28, x29, x30, x31, x32, x33, x34, x35, x36, x37, x38, x39, x40, .inr (.inl (tw ww_words 70))]) dX7_init_722 rfl (vi_of (by decide +kernel)) (by decide +kernel) rfl ?_
  refine e_dup (pc := 723) dX7_init_723 rfl ?_
  refine e_bipush (v := 70) (pc := 724) dX7_init_724 (by decide) ?_
  refine e_bipush (v := 32) (pc := 726) dX7_init_726 (by decide) ?_
  refine e_iastL (pc := 728) (ys := tw ww_words 71) (w2 := [x0, x1, x2, x3, x4, x5, x6, x7, x8, x9, x10, x11, x12, x13, x14, x15, x16, x17, x18, x19, x20, x21, x22, x23, x24, x25, x26, x27, x28, x29, x30, x31, x32, x33, x34, x35, x36, x37, x38, x39, x40, .inr (.inl (tw ww_words 71))]) dX7_init_728 rfl (vi_of (by decide +kernel)) (by decide +kernel) rfl ?_
  refine e_dup (pc := 729) dX7_init_729 rfl ?_
  refine e_bipush (v := 71) (pc := 730) dX7_init_730 (by decide) ?_
  refine e_bipush (v := 32) (pc := 732) dX7_init_732 (by decide) ?_
  refine e_iastL (pc := 734) (ys := tw ww_words 72) (w2 := [x0, x1, x2, x3, x4, x5, x6, x7, x8, x9, x10, x11, x12, x13, x14, x15, x16, x17, x18, x19, x20, x21, x22, x23, x24, x25, x26, x27, x28, x29, x30, x31, x32, x33, x34, x35, x36, x37, x38, x39, x40, .inr (.inl (tw ww_words 72))]) dX7_init_734 rfl (vi_of (by decide +kernel)) (by decide +kernel) rfl ?_
  refine e_dup (pc := 735) dX7_init_735 rfl ?_
  refine e_bipush (v := 72) (pc := 736) dX7_init_736 (by decide) ?_
  refine e_bipush (v := 111) (pc := 738) dX7_init_738 (by decide) ?_
  refine e_iastL (pc := 740) (ys := tw ww_words 73) (w2 := [x0, x1, x2, x3, x4, x5, x6, x7, x8, x9, x10, x11, x12, x13, x14, x15, x16, x17, x18, x19, x20, x21, x22, x23, x24, x25, x26, x27, x28, x29, x30, x31, x32, x33, x34, x35, x36, x37, x38, x39, x40, .inr (.inl (tw ww_words 73))]) dX7_init_740 rfl (vi_of (by decide +kernel)) (by decide +kernel) rfl ?_
  refine e_dup (pc := 741) dX7_init_741 rfl ?_
  refine e_bipush (v := 73) (pc := 742) dX7_init_742 (by decide) ?_
  refine e_bipush (v := 114) (pc := 744) dX7_init_744 (by decide) ?_
  refine e_iastL (pc := 746) (ys := tw ww_words 74) (w2 := [x0, x1, x2, x3, x4, x5, x6, x7, x8, x9, x10, x11, x12, x13, x14, x15, x16, x17, x18, x19, x20, x21, x22, x23, x24, x25, x26, x27, x28, x29, x30, x31, x32, x33, x34, x35, x36, x37, x38, x39, x40, .inr (.inl (tw ww_words 74))]) dX7_init_746 rfl (vi_of (by decide +kernel)) (by decide +kernel) rfl ?_
  refine e_dup (pc := 747) dX7_init_747 rfl ?_
  refine e_bipush (v := 74) (pc := 748) dX7_init_748 (by decide) ?_
  refine e_bipush (v := 32) (pc := 750) dX7_init_750 (by decide) ?_
  refine e_iastL (pc := 752) (ys := tw ww_words 75) (w2 := [x0, x1, x2, x3, x4, x5, x6, x7, x8, x9, x10, x11, x12, x13, x14, x15, x16, x17, x18, x19, x20, x21, x22, x23, x24, x25, x26, x27, x28, x29, x30, x31, x32, x33, x34, x35, x36, x37, x38, x39, x40, .inr (.inl (tw ww_words 75))]) dX7_init_752 rfl (vi_of (by decide +kernel)) (by decide +kernel) rfl ?_
  refine e_dup (pc := 753) dX7_init_753 rfl ?_
  refine e_bipush (v := 75) (pc := 754) dX7_init_754 (by decide) ?_
  refine e_bipush (v := 32) (pc := 756) dX7_init_756 (by decide) ?_
  refine e_iastL (pc := 758) (ys := tw ww_words 76) (w2 := [x0, x1, x2, x3, x4, x5, x6, x7, x8, x9, x10, x11, x12, x13, x14, x15, x16, x17, x18, x19, x20, x21, x22, x23, x24, x25, x26, x27, x28, x29, x30, x31, x32, x33, x34, x35, x36, x37, x38, x39, x40, .inr (.inl (tw ww_words 76))]) dX7_init_758 rfl (vi_of (by decide +kernel)) (by decide +kernel) rfl ?_
  refine e_dup (pc := 759) dX7_init_759 rfl ?_
  refine e_bipush (v := 76) (pc := 760) dX7_init_760 (by decide) ?_
  refine e_bipush (v := 32) (pc := 762) dX7_init_762 (by decide) ?_
  refine e_iastL (pc := 764) (ys := tw ww_words 77) (w2 := [x0, x1, x2, x3, x4, x5, x6, x7, x8, x9, x10, x11, x12, x13, x14, x15, x16, x17, x18, x19, x20, x21, x22, x23, x24, x25, x26, x27, x28, x29, x30, x31, x32, x33, x34, x35, x36, x37, x38, x39, x40, .inr (.inl (tw ww_words 77))]) dX7_init_764 rfl (vi_of (by decide +kernel)) (by decide +kernel) rfl ?_
  refine e_dup (pc := 765) dX7_init_765 rfl ?_
  refine e_bipush (v := 77) (pc := 766) dX7_init_766 (by decide) ?_
  refine e_bipush (v := 32) (pc := 768) dX7_init_768 (by decide) ?_
  refine e_iastL (pc := 770) (ys := tw ww_words 78) (w2 := [x0, x1, x2, x3, x4, x5, x6, x7, x8, x9, x10, x11, x12, x13, x14, x15, x16, x17, x18, x19, x20, x21, x22, x23, x24, x25, x26, x27, x28, x29, x30, x31, x32, x33, x34, x35, x36, x37, x38, x39, x40, .inr (.inl (tw ww_words 78))]) dX7_init_770 rfl (vi_of (by decide +kernel)) (by decide +kernel) rfl ?_
  refine e_dup (pc := 771) dX7_init_771 rfl ?_
  refine e_bipush (v := 78) (pc := 772) dX7_init_772 (by decide) ?_
  refine e_bipush (v := 32) (pc := 774) dX7_init_774 (by decide) ?_
  refine e_iastL (pc := 776) (ys := tw ww_words 79) (w2 := [x0, x1, x2, x3, x4, x5, x6, x7, x8, x9, x10, x11, x12, x13, x14, x15, x16, x17, x18, x19, x20, x21, x22, x23, x24, x25, x26, x27, x28, x29, x30, x31, x32, x33, x34, x35, x36, x37, x38, x39, x40, .inr (.inl (tw ww_words 79))]) dX7_init_776 rfl (vi_of (by decide +kernel)) (by decide +kernel) rfl ?_
  refine e_dup (pc := 777) dX7_init_777 rfl ?_
  refine e_bipush (v := 79) (pc := 778) dX7_init_778 (by decide) ?_
  refine e_bipush (v := 32) (pc := 780) dX7_init_780 (by decide) ?_
  refine e_iastL (pc := 782) (ys := tw ww_words 80) (w2 := [x0, x1, x2, x3, x4, x5, x6, x7, x8, x9, x10, x11, x12, x13, x14, x15, x16, x17, x18, x19, x20, x21, x22, x23, x24, x25, x26, x27, x28, x29, x30, x31, x32, x33, x34, x35, x36, x37, x38, x39, x40, .inr (.inl (tw ww_words 80))]) dX7_init_782 rfl (vi_of (by decide +kernel)) (by decide +kernel) rfl ?_
  refine e_dup (pc := 783) dX7_init_783 rfl ?_
  refine e_bipush (v := 80) (pc := 784) dX7_init_784 (by decide) ?_
  refine e_bipush (v := 97) (pc := 786) dX7_init_786 (by decide) ?_
  refine e_iastL (pc := 788) (ys := tw ww_words 81) (w2 := [x0, x1, x2, x3, x4, x5, x6, x7, x8, x9, x10, x11, x12, x13, x14, x15, x16, x17, x18, x19, x20, x21, x22, x23, x24, x25, x26, x27, x28, x29, x30, x31, x32, x33, x34, x35, x36, x37, x38, x39, x40, .inr (.inl (tw ww_words 81))]) dX7_init_788 rfl (vi_of (by decide +kernel)) (by decide +kernel) rfl ?_
  refine e_dup (pc := 789) dX7_init_789 rfl ?_
  refine e_bipush (v := 81) (pc := 790) dX7_init_790 (by decide) ?_
  refine e_bipush (v := 110) (pc := 792) dX7_init_792 (by decide) ?_
  refine e_iastL (pc := 794) (ys := tw ww_words 82) (w2 := [x0, x1, x2, x3, x4, x5, x6, x7, x8, x9, x10, x11, x12, x13, x14, x15, x16, x17, x18, x19, x20, x21, x22, x23, x24, x25, x26, x27, x28, x29, x30, x31, x32, x33, x34, x35, x36, x37, x38, x39, x40, .inr (.inl (tw ww_words 82))]) dX7_init_794 rfl (vi_of (by decide +kernel)) (by decide +kernel) rfl ?_
  refine e_dup (pc := 795) dX7_init_795 rfl ?_
  refine e_bipush (v := 82) (pc := 796) dX7_init_796 (by decide) ?_
  refine e_bipush (v := 100) (pc := 798) dX7_init_798 (by decide) ?_
  refine e_iastL (pc := 800) (ys := tw ww_words 83) (w2 := [x0, x1, x2, x3, x4, x5, x6, x7, x8, x9, x10, x11, x12, x13, x14, x15, x16, x17, x18, x19, x20, x21, x22, x23, x24, x25, x26, x27, x28, x29, x30, x31, x32, x33, x34, x35, x36, x37, x38, x39, x40, .inr (.inl (tw ww_words 83))]) dX7_init_800 rfl (vi_of (by decide +kernel)) (by decide +kernel) rfl ?_
  refine e_dup (pc := 801) dX7_init_801 rfl ?_
  refine e_bipush (v := 83) (pc := 802) dX7_init_802 (by decide) ?_
  refine e_bipush (v := 32) (pc := 804) dX7_init_804 (by decide) ?_
  refine e_iastL (pc := 806) (ys := tw ww_words 84) (w2 := [x0, x1, x2, x3, x4, x5, x6, x7, x8, x9, x10, x11, x12, x13, x14, x15, x16, x17, x18, x19, x20, x21, x22, x23, x24, x25, x26, x27, x28, x29, x30, x31, x32, x33, x34, x35, x36, x37, x38, x39, x40, .inr (.inl (tw ww_words 84))]) dX7_init_806 rfl (vi_of (by decide +kernel)) (by decide +kernel) rfl ?_
  refine e_dup (pc := 807) dX7_init_807 rfl ?_
  refine e_bipush (v := 84) (pc := 808) dX7_init_808 (by decide) ?_
  refine e_bipush (v := 32) (pc := 810) dX7_init_810 (by decide) ?_
  refine e_iastL (pc := 812) (ys := tw ww_words 85) (w2 := [x0, x1, x2, x3, x4, x5, x6, x7, x8, x9, x10, x11, x12, x13, x14, x15, x16, x17, x18, x19, x20, x21, x22, x23, x24, x25, x26, x27, x28, x29, x30, x31, x32, x33, x34, x35, x36, x37, x38, x39, x40, .inr (.inl (tw ww_words 85))]) dX7_init_812 rfl (vi_of (by decide +kernel)) (by decide +kernel) rfl ?_
  refine e_dup (pc := 813) dX7_init_813 rfl ?_
  refine e_bipush (v := 85) (pc := 814) dX7_init_814 (by decide) ?_
  refine e_bipush (v := 32) (pc := 816) dX7_init_816 (by decide) ?_
  refine e_iastL (pc := 818) (ys := tw ww_words 86) (w2 := [x0, x1, x2, x3, x4, x5, x6, x7, x8, x9, x10, x11, x12, x13, x14, x15, x16, x17, x18, x19, x20, x21, x22, x23, x24, x25, x26, x27, x28, x29, x30, x31, x32, x33, x34, x35, x36, x37, x38, x39, x40, .inr (.inl (tw ww_words 86))]) dX7_init_818 rfl (vi_of (by decide +kernel)) (by decide +kernel) rfl ?_
  refine e_dup (pc := 819) dX7_init_819 rfl ?_
  refine e_bipush (v := 86) (pc := 820) dX7_init_820 (by decide) ?_
  refine e_bipush (v := 32) (pc := 822) dX7_init_822 (by decide) ?_
  refine e_iastL (pc := 824) (ys := tw ww_words 87) (w2 := [x0, x1, x2, x3, x4, x5, x6, x7, x8, x9, x10, x11, x12, x13, x14, x15, x16, x17, x18, x19, x20, x21, x22, x23, x24, x25, x26, x27, x28, x29, x30, x31, x32, x33, x34, x35, x36, x37, x38, x39, x40, .inr (.inl (tw ww_words 87))]) dX7_init_824 rfl (vi_of (by decide +kernel)) (by decide +kernel) rfl ?_
  refine e_dup (pc := 825) dX7_init_825 rfl ?_
  refine e_bipush (v := 87) (pc := 826) dX7_init_826 (by decide) ?_
  refine e_bipush (v := 32) (pc := 828) dX7_init_828 (by decide) ?_
  refine e_iastL (pc := 830) (ys := tw ww_words 88) (w2 := [x0, x1, x2, x3, x4, x5, x6, x7, x8, x9, x10, x11, x12, x13, x14, x15, x16, x17, x18, x19, x20, x21, x22, x23, x24, x25, x26, x27, x28, x29, x30, x31, x32, x33, x34, x35, x36, x37, x38, x39, x40, .inr (.inl (tw ww_words 88))]) dX7_init_830 rfl (vi_of (by decide +kernel)) (by decide +kernel) rfl ?_
  refine e_dup (pc := 831) dX7_init_831 rfl ?_
  refine e_bipush (v := 88) (pc := 832) dX7_init_832 (by decide) ?_
  refine e_bipush (v := 110) (pc := 834) dX7_init_834 (by decide) ?_
  refine e_iastL (pc := 836) (ys := tw ww_words 89) (w2 := [x0, x1, x2, x3, x4, x5, x6, x7, x8, x9, x10, x11, x12, x13, x14, x15, x16, x17, x18, x19, x20, x21, x22, x23, x24, x25, x26, x27, x28, x29, x30, x31, x32, x33, x34, x35, x36, x37, x38, x39, x40, .inr (.inl (tw ww_words 89))]) dX7_init_836 rfl (vi_of (by decide +kernel)) (by decide +kernel) rfl ?_
  refine e_dup (pc := 837) dX7_init_837 rfl ?_
  refine e_bipush (v := 89) (pc := 838) dX7_init_838 (by decide) ?_
  refine e_bipush (v := 111) (pc := 840) dX7_init_840 (by decide) ?_
  refine e_iastL (pc := 842) (ys := tw ww_words 90) (w2 := [x0, x1, x2, x3, x4, x5, x6, x7, x8, x9, x10, x11, x12, x13, x14, x15, x16, x17, x18, x19, x20, x21, x22, x23, x24, x25, x26, x27, x28, x29, x30, x31, x32, x33, x34, x35, x36, x37, x38, x39, x40, .inr (.inl (tw ww_words 90))]) dX7_init_842 rfl (vi_of (by decide +kernel)) (by decide +kernel) rfl ?_
  refine e_dup (pc := 843) dX7_init_843 rfl ?_
  refine e_bipush (v := 90) (pc := 844) dX7_init_844 (by decide) ?_
  refine e_bipush (v := 116) (pc := 846) dX7_init_846 (by decide) ?_
  refine e_iastL (pc := 848) (ys := tw ww_words 91) (w2 := [x0, x1, x2, x3, x4, x5, x6, x7, x8, x9, x10, x11, x12, x13, x14, x15, x16, x17, x18, x19, x20, x21, x22, x23, x24, x25, x26, x27, x28, x29, x30, x31, x32, x33, x34, x35, x36, x37, x38, x39, x40, .inr (.inl (tw ww_words 91))]) dX7_init_848 rfl (vi_of (by decide +kernel)) (by decide +kernel) rfl ?_
  refine e_dup (pc := 849) dX7_init_849 rfl ?_
  refine e_bipush (v := 91) (pc := 850) dX7_init_850 (by decide) ?_
  refine e_bipush (v := 32) (pc := 852) dX7_init_852 (by decide) ?_
  refine e_iastL (pc := 854) (ys := tw ww_words 92) (w2 := [x0, x1, x2, x3, x4, x5, x6, x7, x8, x9, x10, x11, x12, x13, x14, x15, x16, x17, x18, x19, x20, x21, x22, x23, x24, x25, x26, x27, x28, x29, x30, x31, x32, x33, x34, x35, x36, x37, x38, x39, x40, .inr (.inl (tw ww_words 92))]) dX7_init_854 rfl (vi_of (by decide +kernel)) (by decide +kernel) rfl ?_
  refine e_dup (pc := 855) dX7_init_855 rfl ?_
  refine e_bipush (v := 92) (pc := 856) dX7_init_856 (by decide) ?_
  refine e_bipush (v := 32) (pc := 858) dX7_init_858 (by decide) ?_
  refine e_iastL (pc := 860) (ys := tw ww_words 93) (w2 := [x0, x1, x2, x3, x4, x5, x6, x7, x8, x9, x10, x11, x12, x13, x14, x15, x16, x17, x18, x19, x20, x21, x22, x23, x24, x25, x26, x27, x28, x29, x30, x31, x32, x33, x34, x35, x36, x37, x38, x39, x40, .inr (.inl (tw ww_words 93))]) dX7_init_860 rfl (vi_of (by decide +kernel)) (by decide +kernel) rfl ?_
  refine e_dup (pc := 861) dX7_init_861 rfl ?_
  refine e_bipush (v := 93) (pc := 862) dX7_init_862 (by decide) ?_
  refine e_bipush (v := 32) (pc := 864) dX7_init_864 (by decide) ?_
  refine e_iastL (pc := 866) (ys := tw ww_words 94) (w2 := [x0, x1, x2, x3, x4, x5, x6, x7, x8, x9, x10, x11, x12, x13, x14, x15, x16, x17, x18, x19, x20, x21, x22, x23, x24, x25, x26, x27, x28, x29, x30, x31, x32, x33, x34, x35, x36, x37, x38, x39, x40, .inr (.inl (tw ww_words 94))]) dX7_init_866 rfl (vi_of (by decide +kernel)) (by decide +kernel) rfl ?_
  refine e_dup (pc := 867) dX7_init_867 rfl ?_
  refine e_bipush (v := 94) (pc := 868) dX7_init_868 (by decide) ?_
  refine e_bipush (v := 32) (pc := 870) dX7_init_870 (by decide) ?_
  refine e_iastL (pc := 872) (ys := tw ww_words 95) (w2 := [x0, x1, x2, x3, x4, x5, x6, x7, x8, x9, x10, x11, x12, x13, x14, x15, x16, x17, x18, x19, x20, x21, x22, x23, x24, x25, x26, x27, x28, x29, x30, x31, x32, x33, x34, x35, x36, x37, x38, x39, x40, .inr (.inl (tw ww_words 95))]) dX7_init_872 rfl (vi_of (by decide +kernel)) (by decide +kernel) rfl ?_
  refine e_dup (pc := 873) dX7_init_873 rfl ?_
  refine e_bipush (v := 95) (pc := 874) dX7_init_874 (by decide) ?_
  refine e_bipush (v := 32) (pc := 876) dX7_init_876 (by decide) ?_
  refine e_iastL (pc := 878) (ys := tw ww_words 96) (w2 := [x0, x1, x2, x3, x4, x5, x6, x7, x8, x9, x10, x11, x12, x13, x14, x15, x16, x17, x18, x19, x20, x21, x22, x23, x24, x25, x26, x27, x28, x29, x30, x31, x32, x33, x34, x35, x36, x37, x38, x39, x40, .inr (.inl (tw ww_words 96))]) dX7_init_878 rfl (vi_of (by decide +kernel)) (by decide +kernel) rfl ?_
  refine e_w (w2 := [x0, x1, x2, x3, x4, x5, x6, x7, x8, x9, x10, x11, x12, x13, x14, x15, x16, x17, x18, x19, x20, x21, x22, x23, x24, x25, x26, x27, x28, x29, x30, x31, x32, x33, x34, x35, x36, x37, x38, x39, x40, .inr (.inl (ww_words))]) (by rw [show tw ww_words 96 = ww_words by decide +kernel]) ?_
  exact hK
theorem lp_y_body {P : Option Value → mc_W → Prop} {x0 x1 x2 x3 x4 x5 x6 x7 x8 x9 x10 x11 x12 x13 x14 x15 x16 x17 x18 x19 x20 x21 x22 x23 x24 x25 x26 x27 x28 : mc_C} (hK : mc_E RX7 cX7_init 2 (mc_JM none true 8 16 2208 P) 916 [some (.ref 29), none] [] [x0, x1, x2, x3, x4, x5, x6, x7, x8, x9, x10, x11, x12, x13, x14, x15, x16, x17, x18, x19, x20, x21, x22, x23, x24, x25, x26, x27, x28, .inl (7, [.int 10, .int 1, .int 0, .ref 30, .ref 31, .ref 32, .ref 33, .int 0, .ref 34, .ref 35, .int 0, .int 0, .int 0, .int 0, .int 0, .int 0, .int 0, .ref 36, .ref 37, .ref 38, .ref 39, .ref 40, .int 0, .int 0, .int 0, .int 0, .ref 41, .ref 42, .int 0, .int 0, .int 0, .ref 43, .ref 44, .ref 45, .int 0]), .inr (.inl (List.replicate 5 0)), .inr (.inl (List.replicate 5 0)), .inr (.inl (List.replicate 36 0)), .inr (.inl (List.replicate 160 0)), .inr (.inl (List.replicate 1200 0)), .inr (.inl (List.replicate 24 0)), .inr (.inl (List.replicate 36 0)), .inr (.inl ([-1, -1, -1, -1])), .inr (.inl (List.replicate 4 0)), .inr (.inl (List.replicate 160 0)), .inr (.inl (ww_law)), .inr (.inl (ww_words)), .inr (.inl (List.replicate 200 0)), .inr (.inl (List.replicate 200 0)), .inr (.inl (List.replicate 6 0)), .inr (.inl (List.replicate 40 0))] 16 2208) : mc_E RX7 cX7_init 2 (mc_JM none true 8 16 2208 P) 0 [some (.ref 29), none] [] [x0, x1, x2, x3, x4, x5, x6, x7, x8, x9, x10, x11, x12, x13, x14, x15, x16, x17, x18, x19, x20, x21, x22, x23, x24, x25, x26, x27, x28, .inl (7, [.int 0, .int 0, .int 0, .null, .null, .null, .null, .int 0, .null, .null, .int 0, .int 0, .int 0, .int 0, .int 0, .int 0, .int 0, .null, .null, .null, .null, .null, .int 0, .int 0, .int 0, .int 0, .null, .null, .int 0, .int 0, .int 0, .null, .null, .null, .int 0])] 0 0 := by
  refine e_aloadn (pc := 0) dX7_init_0 rfl ?_
  refine e_objInit (pc := 1) dX7_init_1 oX7_1 obj_inst obj_code (mc_JR_of (Nat.le_of_ble_eq_true rfl) (Nat.le_of_ble_eq_true rfl) (Nat.le_of_ble_eq_true rfl) (Nat.le_of_ble_eq_true rfl)) ?_
  refine e_aloadn (pc := 4) dX7_init_4 rfl ?_
  refine e_bipush (v := 10) (pc := 5) dX7_init_5 (by decide) ?_
  refine e_put (pc := 7) dX7_init_7 pX7_7 rfl (Nat.le_of_ble_eq_true rfl) rfl ?_
  refine e_w (w2 := [x0, x1, x2, x3, x4, x5, x6, x7, x8, x9, x10, x11, x12, x13, x14, x15, x16, x17, x18, x19, x20, x21, x22, x23, x24, x25, x26, x27, x28, .inl (7, [.int 10, .int 0, .int 0, .null, .null, .null, .null, .int 0, .null, .null, .int 0, .int 0, .int 0, .int 0, .int 0, .int 0, .int 0, .null, .null, .null, .null, .null, .int 0, .int 0, .int 0, .int 0, .null, .null, .int 0, .int 0, .int 0, .null, .null, .null, .int 0])]) rfl ?_
  refine e_aloadn (pc := 10) dX7_init_10 rfl ?_
  refine e_iconst (v := 1) (pc := 11) dX7_init_11 (by decide) ?_
  refine e_put (pc := 12) dX7_init_12 pX7_13 rfl (Nat.le_of_ble_eq_true rfl) rfl ?_
  refine e_w (w2 := [x0, x1, x2, x3, x4, x5, x6, x7, x8, x9, x10, x11, x12, x13, x14, x15, x16, x17, x18, x19, x20, x21, x22, x23, x24, x25, x26, x27, x28, .inl (7, [.int 10, .int 1, .int 0, .null, .null, .null, .null, .int 0, .null, .null, .int 0, .int 0, .int 0, .int 0, .int 0, .int 0, .int 0, .null, .null, .null, .null, .null, .int 0, .int 0, .int 0, .int 0, .null, .null, .int 0, .int 0, .int 0, .null, .null, .null, .int 0])]) rfl ?_
  refine e_aloadn (pc := 15) dX7_init_15 rfl ?_
  refine e_iconst (v := 5) (pc := 16) dX7_init_16 (by decide) ?_
  refine e_newa (N := 5) (pc := 17) dX7_init_17 arr_int (by decide) rfl (Nat.le_of_ble_eq_true rfl) (Nat.le_of_ble_eq_true rfl) (Nat.le_of_ble_eq_true rfl) (Nat.le_of_ble_eq_true rfl) ?_
  refine e_w (w2 := [x0, x1, x2, x3, x4, x5, x6, x7, x8, x9, x10, x11, x12, x13, x14, x15, x16, x17, x18, x19, x20, x21, x22, x23, x24, x25, x26, x27, x28, .inl (7, [.int 10, .int 1, .int 0, .null, .null, .null, .null, .int 0, .null, .null, .int 0, .int 0, .int 0, .int 0, .int 0, .int 0, .int 0, .null, .null, .null, .null, .null, .int 0, .int 0, .int 0, .int 0, .null, .null, .int 0, .int 0, .int 0, .null, .null, .null, .int 0]), .inr (.inl (List.replicate 5 0))]) rfl ?_
  refine e_putF (pc := 19) dX7_init_19 pX7_16 rfl rfl (Nat.le_of_ble_eq_true rfl) rfl ?_
  refine e_w (w2 := [x0, x1, x2, x3, x4, x5, x6, x7, x8, x9, x10, x11, x12, x13, x14, x15, x16, x17, x18, x19, x20, x21, x22, x23, x24, x25, x26, x27, x28, .inl (7, [.int 10, .int 1, .int 0, .ref 30, .null, .null, .null, .int 0, .null, .null, .int 0, .int 0, .int 0, .int 0, .int 0, .int 0, .int 0, .null, .null, .null, .null, .null, .int 0, .int 0, .int 0, .int 0, .null, .null, .int 0, .int 0, .int 0, .null, .null, .null, .int 0]), .inr (.inl (List.replicate 5 0))]) rfl ?_
  refine e_aloadn (pc := 22) dX7_init_22 rfl ?_
  refine e_iconst (v := 5) (pc := 23) dX7_init_23 (by decide) ?_
  refine e_newa (N := 5) (pc := 24) dX7_init_24 arr_int (by decide) rfl (Nat.le_of_ble_eq_true rfl) (Nat.le_of_ble_eq_true rfl) (Nat.le_of_ble_eq_true rfl) (Nat.le_of_ble_eq_true rfl) ?_
  refine e_w (w2 := [x0, x1, x2, x3, x4, x5, x6, x7, x8, x9, x10, x11, x12, x13, x14, x15, x16, x17, x18, x19, x20, x21, x22, x23, x24, x25, x26, x27, x28, .inl (7, [.int 10, .int 1, .int 0, .ref 30, .null, .null, .null, .int 0, .null, .null, .int 0, .int 0, .int 0, .int 0, .int 0, .int 0, .int 0, .null, .null, .null, .null, .null, .int 0, .int 0, .int 0, .int 0, .null, .null, .int 0, .int 0, .int 0, .null, .null, .null, .int 0]), .inr (.inl (List.replicate 5 0)), .inr (.inl (List.replicate 5 0))]) rfl ?_
  refine e_putF (pc := 26) dX7_init_26 pX7_20 rfl rfl (Nat.le_of_ble_eq_true rfl) rfl ?_
  refine e_w (w2 := [x0, x1, x2, x3, x4, x5, x6, x7, x8, x9, x10, x11, x12, x13, x14, x15, x16, x17, x18, x19, x20, x21, x22, x23, x24, x25, x26, x27, x28, .inl (7, [.int 10, .int 1, .int 0, .ref 30, .ref 31, .null, .null, .int 0, .null, .null, .int 0, .int 0, .int 0, .int 0, .int 0, .int 0, .int 0, .null, .null, .null, .null, .null, .int 0, .int 0, .int 0, .int 0, .null, .null, .int 0, .int 0, .int 0, .null, .null, .null, .int 0]), .inr (.inl (List.replicate 5 0)), .inr (.inl (List.replicate 5 0))]) rfl ?_
  refine e_aloadn (pc := 29) dX7_init_29 rfl ?_
  refine e_bipush (v := 36) (pc := 30) dX7_init_30 (by decide) ?_
  refine e_newa (N := 36) (pc := 32) dX7_init_32 arr_int (by decide) rfl (Nat.le_of_ble_eq_true rfl) (Nat.le_of_ble_eq_true rfl) (Nat.le_of_ble_eq_true rfl) (Nat.le_of_ble_eq_true rfl) ?_
  refine e_w (w2 := [x0, x1, x2, x3, x4, x5, x6, x7, x8, x9, x10, x11, x12, x13, x14, x15, x16, x17, x18, x19, x20, x21, x22, x23, x24, x25, x26, x27, x28, .inl (7, [.int 10, .int 1, .int 0, .ref 30, .ref 31, .null, .null, .int 0, .null, .null, .int 0, .int 0, .int 0, .int 0, .int 0, .int 0, .int 0, .null, .null, .null, .null, .null, .int 0, .int 0, .int 0, .int 0, .null, .null, .int 0, .int 0, .int 0, .null, .null, .null, .int 0]), .inr (.inl (List.replicate 5 0)), .inr (.inl (List.replicate 5 0)), .inr (.inl (List.replicate 36 0))]) rfl ?_
  refine e_putF (pc := 34) dX7_init_34 pX7_23 rfl rfl (Nat.le_of_ble_eq_true rfl) rfl ?_
  refine e_w (w2 := [x0, x1, x2, x3, x4, x5, x6, x7, x8, x9, x10, x11, x12, x13, x14, x15, x16, x17, x18, x19, x20, x21, x22, x23, x24, x25, x26, x27, x28, .inl (7, [.int 10, .int 1, .int 0, .ref 30, .ref 31, .ref 32, .null, .int 0, .null, .null, .int 0, .int 0, .int 0, .int 0, .int 0, .int 0, .int 0, .null, .null, .null, .null, .null, .int 0, .int 0, .int 0, .int 0, .null, .null, .int 0, .int 0, .int 0, .null, .null, .null, .int 0]), .inr (.inl (List.replicate 5 0)), .inr (.inl (List.replicate 5 0)), .inr (.inl (List.replicate 36 0))]) rfl ?_
  refine e_aloadn (pc := 37) dX7_init_37 rfl ?_
  refine e_sipush (v := 160) (pc := 38) dX7_init_38 (by decide) ?_
  refine e_newa (N := 160) (pc := 41) dX7_init_41 arr_int (by decide) rfl (Nat.le_of_ble_eq_true rfl) (Nat.le_of_ble_eq_true rfl) (Nat.le_of_ble_eq_true rfl) (Nat.le_of_ble_eq_true rfl) ?_
  refine e_w (w2 := [x0, x1, x2, x3, x4, x5, x6, x7, x8, x9, x10, x11, x12, x13, x14, x15, x16, x17, x18, x19, x20, x21, x22, x23, x24, x25, x26, x27, x28, .inl (7, [.int 10, .int 1, .int 0, .ref 30, .ref 31, .ref 32, .null, .int 0, .null, .null, .int 0, .int 0, .int 0, .int 0, .int 0, .int 0, .int 0, .null, .null, .null, .null, .null, .int 0, .int 0, .int 0, .int 0, .null, .null, .int 0, .int 0, .int 0, .null, .null, .null, .int 0]), .inr (.inl (List.replicate 5 0)), .inr (.inl (List.replicate 5 0)), .inr (.inl (List.replicate 36 0)), .inr (.inl (List.replicate 160 0))]) rfl ?_
  refine e_putF (pc := 43) dX7_init_43 pX7_26 rfl rfl (Nat.le_of_ble_eq_true rfl) rfl ?_
  refine e_w (w2 := [x0, x1, x2, x3, x4, x5, x6, x7, x8, x9, x10, x11, x12, x13, x14, x15, x16, x17, x18, x19, x20, x21, x22, x23, x24, x25, x26, x27, x28, .inl (7, [.int 10, .int 1, .int 0, .ref 30, .ref 31, .ref 32, .ref 33, .int 0, .null, .null, .int 0, .int 0, .int 0, .int 0, .int 0, .int 0, .int 0, .null, .null, .null, .null, .null, .int 0, .int 0, .int 0, .int 0, .null, .null, .int 0, .int 0, .int 0, .null, .null, .null, .int 0]), .inr (.inl (List.replicate 5 0)), .inr (.inl (List.replicate 5 0)), .inr (.inl (List.replicate 36 0)), .inr (.inl (List.replicate 160 0))]) rfl ?_
  refine e_aloadn (pc := 46) dX7_init_46 rfl ?_
  refine e_sipush (v := 1200) (pc := 47) dX7_init_47 (by decide) ?_
  refine e_newa (N := 1200) (pc := 50) dX7_init_50 arr_int (by decide) rfl (Nat.le_of_ble_eq_true rfl) (Nat.le_of_ble_eq_true rfl) (Nat.le_of_ble_eq_true rfl) (Nat.le_of_ble_eq_true rfl) ?_
  refine e_w (w2 := [x0, x1, x2, x3, x4, x5, x6, x7, x8, x9, x10, x11, x12, x13, x14, x15, x16, x17, x18, x19, x20, x21, x22, x23, x24, x25, x26, x27, x28, .inl (7, [.int 10, .int 1, .int 0, .ref 30, .ref 31, .ref 32, .ref 33, .int 0, .null, .null, .int 0, .int 0, .int 0, .int 0, .int 0, .int 0, .int 0, .null, .null, .null, .null, .null, .int 0, .int 0, .int 0, .int 0, .null, .null, .int 0, .int 0, .int 0, .null, .null, .null, .int 0]), .inr (.inl (List.replicate 5 0)), .inr (.inl (List.replicate 5 0)), .inr (.inl (List.replicate 36 0)), .inr (.inl (List.replicate 160 0)), .inr (.inl (List.replicate 1200 0))]) rfl ?_
  refine e_putF (pc := 52) dX7_init_52 pX7_29 rfl rfl (Nat.le_of_ble_eq_true rfl) rfl ?_
  refine e_w (w2 := [x0, x1, x2, x3, x4, x5, x6, x7, x8, x9, x10, x11, x12, x13, x14, x15, x16, x17, x18, x19, x20, x21, x22, x23, x24, x25, x26, x27, x28, .inl (7, [.int 10, .int 1, .int 0, .ref 30, .ref 31, .ref 32, .ref 33, .int 0, .ref 34, .null, .int 0, .int 0, .int 0, .int 0, .int 0, .int 0, .int 0, .null, .null, .null, .null, .null, .int 0, .int 0, .int 0, .int 0, .null, .null, .int 0, .int 0, .int 0, .null, .null, .null, .int 0]), .inr (.inl (List.replicate 5 0)), .inr (.inl (List.replicate 5 0)), .inr (.inl (List.replicate 36 0)), .inr (.inl (List.replicate 160 0)), .inr (.inl (List.replicate 1200 0))]) rfl ?_
  refine e_aloadn (pc := 55) dX7_init_55 rfl ?_
  refine e_bipush (v := 24) (pc := 56) dX7_init_56 (by decide) ?_
  refine e_newa (N := 24) (pc := 58) dX7_init_58 arr_int (by decide) rfl (Nat.le_of_ble_eq_true rfl) (Nat.le_of_ble_eq_true rfl) (Nat.le_of_ble_eq_true rfl) (Nat.le_of_ble_eq_true rfl) ?_
  refine e_w (w2 := [x0, x1, x2, x3, x4, x5, x6, x7, x8, x9, x10, x11, x12, x13, x14, x15, x16, x17, x18, x19, x20, x21, x22, x23, x24, x25, x26, x27, x28, .inl (7, [.int 10, .int 1, .int 0, .ref 30, .ref 31, .ref 32, .ref 33, .int 0, .ref 34, .null, .int 0, .int 0, .int 0, .int 0, .int 0, .int 0, .int 0, .null, .null, .null, .null, .null, .int 0, .int 0, .int 0, .int 0, .null, .null, .int 0, .int 0, .int 0, .null, .null, .null, .int 0]), .inr (.inl (List.replicate 5 0)), .inr (.inl (List.replicate 5 0)), .inr (.inl (List.replicate 36 0)), .inr (.inl (List.replicate 160 0)), .inr (.inl (List.replicate 1200 0)), .inr (.inl (List.replicate 24 0))]) rfl ?_
  refine e_putF (pc := 60) dX7_init_60 pX7_32 rfl rfl (Nat.le_of_ble_eq_true rfl) rfl ?_
  refine e_w (w2 := [x0, x1, x2, x3, x4, x5, x6, x7, x8, x9, x10, x11, x12, x13, x14, x15, x16, x17, x18, x19, x20, x21, x22, x23, x24, x25, x26, x27, x28, .inl (7, [.int 10, .int 1, .int 0, .ref 30, .ref 31, .ref 32, .ref 33, .int 0, .ref 34, .ref 35, .int 0, .int 0, .int 0, .int 0, .int 0, .int 0, .int 0, .null, .null, .null, .null, .null, .int 0, .int 0, .int 0, .int 0, .null, .null, .int 0, .int 0, .int 0, .null, .null, .null, .int 0]), .inr (.inl (List.replicate 5 0)), .inr (.inl (List.replicate 5 0)), .inr (.inl (List.replicate 36 0)), .inr (.inl (List.replicate 160 0)), .inr (.inl (List.replicate 1200 0)), .inr (.inl (List.replicate 24 0))]) rfl ?_
  refine e_aloadn (pc := 63) dX7_init_63 rfl ?_
  refine e_bipush (v := 36) (pc := 64) dX7_init_64 (by decide) ?_
  refine e_newa (N := 36) (pc := 66) dX7_init_66 arr_int (by decide) rfl (Nat.le_of_ble_eq_true rfl) (Nat.le_of_ble_eq_true rfl) (Nat.le_of_ble_eq_true rfl) (Nat.le_of_ble_eq_true rfl) ?_
  refine e_w (w2 := [x0, x1, x2, x3, x4, x5, x6, x7, x8, x9, x10, x11, x12, x13, x14, x15, x16, x17, x18, x19, x20, x21, x22, x23, x24, x25, x26, x27, x28, .inl (7, [.int 10, .int 1, .int 0, .ref 30, .ref 31, .ref 32, .ref 33, .int 0, .ref 34, .ref 35, .int 0, .int 0, .int 0, .int 0, .int 0, .int 0, .int 0, .null, .null, .null, .null, .null, .int 0, .int 0, .int 0, .int 0, .null, .null, .int 0, .int 0, .int 0, .null, .null, .null, .int 0]), .inr (.inl (List.replicate 5 0)), .inr (.inl (List.replicate 5 0)), .inr (.inl (List.replicate 36 0)), .inr (.inl (List.replicate 160 0)), .inr (.inl (List.replicate 1200 0)), .inr (.inl (List.replicate 24 0)), .inr (.inl (List.replicate 36 0))]) rfl ?_
  refine e_putF (pc := 68) dX7_init_68 pX7_35 rfl rfl (Nat.le_of_ble_eq_true rfl) rfl ?_
  refine e_w (w2 := [x0, x1, x2, x3, x4, x5, x6, x7, x8, x9, x10, x11, x12, x13, x14, x15, x16, x17, x18, x19, x20, x21, x22, x23, x24, x25, x26, x27, x28, .inl (7, [.int 10, .int 1, .int 0, .ref 30, .ref 31, .ref 32, .ref 33, .int 0, .ref 34, .ref 35, .int 0, .int 0, .int 0, .int 0, .int 0, .int 0, .int 0, .ref 36, .null, .null, .null, .null, .int 0, .int 0, .int 0, .int 0, .null, .null, .int 0, .int 0, .int 0, .null, .null, .null, .int 0]), .inr (.inl (List.replicate 5 0)), .inr (.inl (List.replicate 5 0)), .inr (.inl (List.replicate 36 0)), .inr (.inl (List.replicate 160 0)), .inr (.inl (List.replicate 1200 0)), .inr (.inl (List.replicate 24 0)), .inr (.inl (List.replicate 36 0))]) rfl ?_
  refine e_aloadn (pc := 71) dX7_init_71 rfl ?_
  refine e_iconst (v := 4) (pc := 72) dX7_init_72 (by decide) ?_
  refine e_newa (N := 4) (pc := 73) dX7_init_73 arr_int (by decide) rfl (Nat.le_of_ble_eq_true rfl) (Nat.le_of_ble_eq_true rfl) (Nat.le_of_ble_eq_true rfl) (Nat.le_of_ble_eq_true rfl) ?_
  refine e_w (w2 := [x0, x1, x2, x3, x4, x5, x6, x7, x8, x9, x10, x11, x12, x13, x14, x15, x16, x17, x18, x19, x20, x21, x22, x23, x24, x25, x26, x27, x28, .inl (7, [.int 10, .int 1, .int 0, .ref 30, .ref 31, .ref 32, .ref 33, .int 0, .ref 34, .ref 35, .int 0, .int 0, .int 0, .int 0, .int 0, .int 0, .int 0, .ref 36, .null, .null, .null, .null, .int 0, .int 0, .int 0, .int 0, .null, .null, .int 0, .int 0, .int 0, .null, .null, .null, .int 0]), .inr (.inl (List.replicate 5 0)), .inr (.inl (List.replicate 5 0)), .inr (.inl (List.replicate 36 0)), .inr (.inl (List.replicate 160 0)), .inr (.inl (List.replicate 1200 0)), .inr (.inl (List.replicate 24 0)), .inr (.inl (List.replicate 36 0)), .inr (.inl (List.replicate 4 0))]) rfl ?_
  refine e_dup (pc := 75) dX7_init_75 rfl ?_
  refine e_iconst (v := 0) (pc := 76) dX7_init_76 (by decide) ?_
  refine e_iconst (v := (-1)) (pc := 77) dX7_init_77 (by decide) ?_
  refine e_iast (pc := 78) dX7_init_78 rfl (vi_of (by decide +kernel)) ?_
  refine e_w (w2 := [x0, x1, x2, x3, x4, x5, x6, x7, x8, x9, x10, x11, x12, x13, x14, x15, x16, x17, x18, x19, x20, x21, x22, x23, x24, x25, x26, x27, x28, .inl (7, [.int 10, .int 1, .int 0, .ref 30, .ref 31, .ref 32, .ref 33, .int 0, .ref 34, .ref 35, .int 0, .int 0, .int 0, .int 0, .int 0, .int 0, .int 0, .ref 36, .null, .null, .null, .null, .int 0, .int 0, .int 0, .int 0, .null, .null, .int 0, .int 0, .int 0, .null, .null, .null, .int 0]), .inr (.inl (List.replicate 5 0)), .inr (.inl (List.replicate 5 0)), .inr (.inl (List.replicate 36 0)), .inr (.inl (List.replicate 160 0)), .inr (.inl (List.replicate 1200 0)), .inr (.inl (List.replicate 24 0)), .inr (.inl (List.replicate 36 0)), .inr (.inl ([-1, 0, 0, 0]))]) rfl ?_
  refine e_dup (pc := 79) dX7_init_79 rfl ?_
  refine e_iconst (v := 1) (pc := 80) dX7_init_80 (by decide) ?_
  refine e_iconst (v := (-1)) (pc := 81) dX7_init_81 (by decide) ?_
  refine e_iast (pc := 82) dX7_init_82 rfl (vi_of (by decide +kernel)) ?_
  refine e_w (w2 := [x0, x1, x2, x3, x4, x5, x6, x7, x8, x9, x10, x11, x12, x13, x14, x15, x16, x17, x18, x19, x20, x21, x22, x23, x24, x25, x26, x27, x28, .inl (7, [.int 10, .int 1, .int 0, .ref 30, .ref 31, .ref 32, .ref 33, .int 0, .ref 34, .ref 35, .int 0, .int 0, .int 0, .int 0, .int 0, .int 0, .int 0, .ref 36, .null, .null, .null, .null, .int 0, .int 0, .int 0, .int 0, .null, .null, .int 0, .int 0, .int 0, .null, .null, .null, .int 0]), .inr (.inl (List.replicate 5 0)), .inr (.inl (List.replicate 5 0)), .inr (.inl (List.replicate 36 0)), .inr (.inl (List.replicate 160 0)), .inr (.inl (List.replicate 1200 0)), .inr (.inl (List.replicate 24 0)), .inr (.inl (List.replicate 36 0)), .inr (.inl ([-1, -1, 0, 0]))]) rfl ?_
  refine e_dup (pc := 83) dX7_init_83 rfl ?_
  refine e_iconst (v := 2) (pc := 84) dX7_init_84 (by decide) ?_
  refine e_iconst (v := (-1)) (pc := 85) dX7_init_85 (by decide) ?_
  refine e_iast (pc := 86) dX7_init_86 rfl (vi_of (by decide +kernel)) ?_
  refine e_w (w2 := [x0, x1, x2, x3, x4, x5, x6, x7, x8, x9, x10, x11, x12, x13, x14, x15, x16, x17, x18, x19, x20, x21, x22, x23, x24, x25, x26, x27, x28, .inl (7, [.int 10, .int 1, .int 0, .ref 30, .ref 31, .ref 32, .ref 33, .int 0, .ref 34, .ref 35, .int 0, .int 0, .int 0, .int 0, .int 0, .int 0, .int 0, .ref 36, .null, .null, .null, .null, .int 0, .int 0, .int 0, .int 0, .null, .null, .int 0, .int 0, .int 0, .null, .null, .null, .int 0]), .inr (.inl (List.replicate 5 0)), .inr (.inl (List.replicate 5 0)), .inr (.inl (List.replicate 36 0)), .inr (.inl (List.replicate 160 0)), .inr (.inl (List.replicate 1200 0)), .inr (.inl (List.replicate 24 0)), .inr (.inl (List.replicate 36 0)), .inr (.inl ([-1, -1, -1, 0]))]) rfl ?_
  refine e_dup (pc := 87) dX7_init_87 rfl ?_
  refine e_iconst (v := 3) (pc := 88) dX7_init_88 (by decide) ?_
  refine e_iconst (v := (-1)) (pc := 89) dX7_init_89 (by decide) ?_
  refine e_iast (pc := 90) dX7_init_90 rfl (vi_of (by decide +kernel)) ?_
  refine e_w (w2 := [x0, x1, x2, x3, x4, x5, x6, x7, x8, x9, x10, x11, x12, x13, x14, x15, x16, x17, x18, x19, x20, x21, x22, x23, x24, x25, x26, x27, x28, .inl (7, [.int 10, .int 1, .int 0, .ref 30, .ref 31, .ref 32, .ref 33, .int 0, .ref 34, .ref 35, .int 0, .int 0, .int 0, .int 0, .int 0, .int 0, .int 0, .ref 36, .null, .null, .null, .null, .int 0, .int 0, .int 0, .int 0, .null, .null, .int 0, .int 0, .int 0, .null, .null, .null, .int 0]), .inr (.inl (List.replicate 5 0)), .inr (.inl (List.replicate 5 0)), .inr (.inl (List.replicate 36 0)), .inr (.inl (List.replicate 160 0)), .inr (.inl (List.replicate 1200 0)), .inr (.inl (List.replicate 24 0)), .inr (.inl (List.replicate 36 0)), .inr (.inl ([-1, -1, -1, -1]))]) rfl ?_
  refine e_putF (pc := 91) dX7_init_91 pX7_38 rfl rfl (Nat.le_of_ble_eq_true rfl) rfl ?_
  refine e_w (w2 := [x0, x1, x2, x3, x4, x5, x6, x7, x8, x9, x10, x11, x12, x13, x14, x15, x16, x17, x18, x19, x20, x21, x22, x23, x24, x25, x26, x27, x28, .inl (7, [.int 10, .int 1, .int 0, .ref 30, .ref 31, .ref 32, .ref 33, .int 0, .ref 34, .ref 35, .int 0, .int 0, .int 0, .int 0, .int 0, .int 0, .int 0, .ref 36, .ref 37, .null, .null, .null, .int 0, .int 0, .int 0, .int 0, .null, .null, .int 0, .int 0, .int 0, .null, .null, .null, .int 0]), .inr (.inl (List.replicate 5 0)), .inr (.inl (List.replicate 5 0)), .inr (.inl (List.replicate 36 0)), .inr (.inl (List.replicate 160 0)), .inr (.inl (List.replicate 1200 0)), .inr (.inl (List.replicate 24 0)), .inr (.inl (List.replicate 36 0)), .inr (.inl ([-1, -1, -1, -1]))]) rfl ?_
  refine e_aloadn (pc := 94) dX7_init_94 rfl ?_
  refine e_iconst (v := 4) (pc := 95) dX7_init_95 (by decide) ?_
  refine e_newa (N := 4) (pc := 96) dX7_init_96 arr_int (by decide) rfl (Nat.le_of_ble_eq_true rfl) (Nat.le_of_ble_eq_true rfl) (Nat.le_of_ble_eq_true rfl) (Nat.le_of_ble_eq_true rfl) ?_
  refine e_w (w2 := [x0, x1, x2, x3, x4, x5, x6, x7, x8, x9, x10, x11, x12, x13, x14, x15, x16, x17, x18, x19, x20, x21, x22, x23, x24, x25, x26, x27, x28, .inl (7, [.int 10, .int 1, .int 0, .ref 30, .ref 31, .ref 32, .ref 33, .int 0, .ref 34, .ref 35, .int 0, .int 0, .int 0, .int 0, .int 0, .int 0, .int 0, .ref 36, .ref 37, .null, .null, .null, .int 0, .int 0, .int 0, .int 0, .null, .null, .int 0, .int 0, .int 0, .null, .null, .null, .int 0]), .inr (.inl (List.replicate 5 0)), .inr (.inl (List.replicate 5 0)), .inr (.inl (List.replicate 36 0)), .inr (.inl (List.replicate 160 0)), .inr (.inl (List.replicate 1200 0)), .inr (.inl (List.replicate 24 0)), .inr (.inl (List.replicate 36 0)), .inr (.inl ([-1, -1, -1, -1])), .inr (.inl (List.replicate 4 0))]) rfl ?_
  refine e_putF (pc := 98) dX7_init_98 pX7_41 rfl rfl (Nat.le_of_ble_eq_true rfl) rfl ?_
  refine e_w (w2 := [x0, x1, x2, x3, x4, x5, x6, x7, x8, x9, x10, x11, x12, x13, x14, x15, x16, x17, x18, x19, x20, x21, x22, x23, x24, x25, x26, x27, x28, .inl (7, [.int 10, .int 1, .int 0, .ref 30, .ref 31, .ref 32, .ref 33, .int 0, .ref 34, .ref 35, .int 0, .int 0, .int 0, .int 0, .int 0, .int 0, .int 0, .ref 36, .ref 37, .ref 38, .null, .null, .int 0, .int 0, .int 0, .int 0, .null, .null, .int 0, .int 0, .int 0, .null, .null, .null, .int 0]), .inr (.inl (List.replicate 5 0)), .inr (.inl (List.replicate 5 0)), .inr (.inl (List.replicate 36 0)), .inr (.inl (List.replicate 160 0)), .inr (.inl (List.replicate 1200 0)), .inr (.inl (List.replicate 24 0)), .inr (.inl (List.replicate 36 0)), .inr (.inl ([-1, -1, -1, -1])), .inr (.inl (List.replicate 4 0))]) rfl ?_
  refine e_aloadn (pc := 101) dX7_init_101 rfl ?_
  refine e_sipush (v := 160) (pc := 102) dX7_init_102 (by decide) ?_
  refine e_newa (N := 160) (pc := 105) dX7_init_105 arr_int (by decide) rfl (Nat.le_of_ble_eq_true rfl) (Nat.le_of_ble_eq_true rfl) (Nat.le_of_ble_eq_true rfl) (Nat.le_of_ble_eq_true rfl) ?_
  refine e_w (w2 := [x0, x1, x2, x3, x4, x5, x6, x7, x8, x9, x10, x11, x12, x13, x14, x15, x16, x17, x18, x19, x20, x21, x22, x23, x24, x25, x26, x27, x28, .inl (7, [.int 10, .int 1, .int 0, .ref 30, .ref 31, .ref 32, .ref 33, .int 0, .ref 34, .ref 35, .int 0, .int 0, .int 0, .int 0, .int 0, .int 0, .int 0, .ref 36, .ref 37, .ref 38, .null, .null, .int 0, .int 0, .int 0, .int 0, .null, .null, .int 0, .int 0, .int 0, .null, .null, .null, .int 0]), .inr (.inl (List.replicate 5 0)), .inr (.inl (List.replicate 5 0)), .inr (.inl (List.replicate 36 0)), .inr (.inl (List.replicate 160 0)), .inr (.inl (List.replicate 1200 0)), .inr (.inl (List.replicate 24 0)), .inr (.inl (List.replicate 36 0)), .inr (.inl ([-1, -1, -1, -1])), .inr (.inl (List.replicate 4 0)), .inr (.inl (List.replicate 160 0))]) rfl ?_
  refine e_putF (pc := 107) dX7_init_107 pX7_44 rfl rfl (Nat.le_of_ble_eq_true rfl) rfl ?_
  refine e_w (w2 := [x0, x1, x2, x3, x4, x5, x6, x7, x8, x9, x10, x11, x12, x13, x14, x15, x16, x17, x18, x19, x20, x21, x22, x23, x24, x25, x26, x27, x28, .inl (7, [.int 10, .int 1, .int 0, .ref 30, .ref 31, .ref 32, .ref 33, .int 0, .ref 34, .ref 35, .int 0, .int 0, .int 0, .int 0, .int 0, .int 0, .int 0, .ref 36, .ref 37, .ref 38, .ref 39, .null, .int 0, .int 0, .int 0, .int 0, .null, .null, .int 0, .int 0, .int 0, .null, .null, .null, .int 0]), .inr (.inl (List.replicate 5 0)), .inr (.inl (List.replicate 5 0)), .inr (.inl (List.replicate 36 0)), .inr (.inl (List.replicate 160 0)), .inr (.inl (List.replicate 1200 0)), .inr (.inl (List.replicate 24 0)), .inr (.inl (List.replicate 36 0)), .inr (.inl ([-1, -1, -1, -1])), .inr (.inl (List.replicate 4 0)), .inr (.inl (List.replicate 160 0))]) rfl ?_
  refine e_aloadn (pc := 110) dX7_init_110 rfl ?_
  refine e_bipush (v := 32) (pc := 111) dX7_init_111 (by decide) ?_
  refine e_newa (N := 32) (pc := 113) dX7_init_113 arr_int (by decide) rfl (Nat.le_of_ble_eq_true rfl) (Nat.le_of_ble_eq_true rfl) (Nat.le_of_ble_eq_true rfl) (Nat.le_of_ble_eq_true rfl) ?_
  refine e_w (w2 := [x0, x1, x2, x3, x4, x5, x6, x7, x8, x9, x10, x11, x12, x13, x14, x15, x16, x17, x18, x19, x20, x21, x22, x23, x24, x25, x26, x27, x28, .inl (7, [.int 10, .int 1, .int 0, .ref 30, .ref 31, .ref 32, .ref 33, .int 0, .ref 34, .ref 35, .int 0, .int 0, .int 0, .int 0, .int 0, .int 0, .int 0, .ref 36, .ref 37, .ref 38, .ref 39, .null, .int 0, .int 0, .int 0, .int 0, .null, .null, .int 0, .int 0, .int 0, .null, .null, .null, .int 0]), .inr (.inl (List.replicate 5 0)), .inr (.inl (List.replicate 5 0)), .inr (.inl (List.replicate 36 0)), .inr (.inl (List.replicate 160 0)), .inr (.inl (List.replicate 1200 0)), .inr (.inl (List.replicate 24 0)), .inr (.inl (List.replicate 36 0)), .inr (.inl ([-1, -1, -1, -1])), .inr (.inl (List.replicate 4 0)), .inr (.inl (List.replicate 160 0)), .inr (.inl (List.replicate 32 0))]) rfl ?_
  skip
  refine lp_y_law ?_
  refine e_putF (pc := 301) dX7_init_301 pX7_47 rfl rfl (Nat.le_of_ble_eq_true rfl) rfl ?_
  refine e_w (w2 := [x0, x1, x2, x3, x4, x5, x6, x7, x8, x9, x10, x11, x12, x13, x14, x15, x16, x17, x18, x19, x20, x21, x22, x23, x24, x25, x26, x27, x28, .inl (7, [.int 10, .int 1, .int 0, .ref 30, .ref 31, .ref 32, .ref 33, .int 0, .ref 34, .ref 35, .int 0, .int 0, .int 0, .int 0, .int 0, .int 0, .int 0, .ref 36, .ref 37, .ref 38, .ref 39, .ref 40, .int 0, .int 0, .int 0, .int 0, .null, .null, .int 0, .int 0, .int 0, .null, .null, .null, .int 0]), .inr (.inl (List.replicate 5 0)), .inr (.inl (List.replicate 5 0)), .inr (.inl (List.replicate 36 0)), .inr (.inl (List.replicate 160 0)), .inr (.inl (List.replicate 1200 0)), .inr (.inl (List.replicate 24 0)), .inr (.inl (List.replicate 36 0)), .inr (.inl ([-1, -1, -1, -1])), .inr (.inl (List.replicate 4 0)), .inr (.inl (List.replicate 160 0)), .inr (.inl (ww_law))]) rfl ?_
  refine e_aloadn (pc := 304) dX7_init_304 rfl ?_
  refine e_bipush (v := 96) (pc := 305) dX7_init_305 (by decide) ?_
  refine e_newa (N := 96) (pc := 307) dX7_init_307 arr_int (by decide) rfl (Nat.le_of_ble_eq_true rfl) (Nat.le_of_ble_eq_true rfl) (Nat.le_of_ble_eq_true rfl) (Nat.le_of_ble_eq_true rfl) ?_
  refine e_w (w2 := [x0, x1, x2, x3, x4, x5, x6, x7, x8, x9, x10, x11, x12, x13, x14, x15, x16, x17, x18, x19, x20, x21, x22, x23, x24, x25, x26, x27, x28, .inl (7, [.int 10, .int 1, .int 0, .ref 30, .ref 31, .ref 32, .ref 33, .int 0, .ref 34, .ref 35, .int 0, .int 0, .int 0, .int 0, .int 0, .int 0, .int 0, .ref 36, .ref 37, .ref 38, .ref 39, .ref 40, .int 0, .int 0, .int 0, .int 0, .null, .null, .int 0, .int 0, .int 0, .null, .null, .null, .int 0]), .inr (.inl (List.replicate 5 0)), .inr (.inl (List.replicate 5 0)), .inr (.inl (List.replicate 36 0)), .inr (.inl (List.replicate 160 0)), .inr (.inl (List.replicate 1200 0)), .inr (.inl (List.replicate 24 0)), .inr (.inl (List.replicate 36 0)), .inr (.inl ([-1, -1, -1, -1])), .inr (.inl (List.replicate 4 0)), .inr (.inl (List.replicate 160 0)), .inr (.inl (ww_law)), .inr (.inl (List.replicate 96 0))]) rfl ?_
  skip
  refine lp_y_words ?_
  refine e_putF (pc := 879) dX7_init_879 pX7_50 rfl rfl (Nat.le_of_ble_eq_true rfl) rfl ?_
  refine e_w (w2 := [x0, x1, x2, x3, x4, x5, x6, x7, x8, x9, x10, x11, x12, x13, x14, x15, x16, x17, x18, x19, x20, x21, x22, x23, x24, x25, x26, x27, x28, .inl (7, [.int 10, .int 1, .int 0, .ref 30, .ref 31, .ref 32, .ref 33, .int 0, .ref 34, .ref 35, .int 0, .int 0, .int 0, .int 0, .int 0, .int 0, .int 0, .ref 36, .ref 37, .ref 38, .ref 39, .ref 40, .int 0, .int 0, .int 0, .int 0, .ref 41, .null, .int 0, .int 0, .int 0, .null, .null, .null, .int 0]), .inr (.inl (List.replicate 5 0)), .inr (.inl (List.replicate 5 0)), .inr (.inl (List.replicate 36 0)), .inr (.inl (List.replicate 160 0)), .inr (.inl (List.replicate 1200 0)), .inr (.inl (List.replicate 24 0)), .inr (.inl (List.replicate 36 0)), .inr (.inl ([-1, -1, -1, -1])), .inr (.inl (List.replicate 4 0)), .inr (.inl (List.replicate 160 0)), .inr (.inl (ww_law)), .inr (.inl (ww_words))]) rfl ?_
  refine e_aloadn (pc := 882) dX7_init_882 rfl ?_
  refine e_sipush (v := 200) (pc := 883) dX7_init_883 (by decide) ?_
  refine e_newa (N := 200) (pc := 886) dX7_init_886 arr_int (by decide) rfl (Nat.le_of_ble_eq_true rfl) (Nat.le_of_ble_eq_true rfl) (Nat.le_of_ble_eq_true rfl) (Nat.le_of_ble_eq_true rfl) ?_
  refine e_w (w2 := [x0, x1, x2, x3, x4, x5, x6, x7, x8, x9, x10, x11, x12, x13, x14, x15, x16, x17, x18, x19, x20, x21, x22, x23, x24, x25, x26, x27, x28, .inl (7, [.int 10, .int 1, .int 0, .ref 30, .ref 31, .ref 32, .ref 33, .int 0, .ref 34, .ref 35, .int 0, .int 0, .int 0, .int 0, .int 0, .int 0, .int 0, .ref 36, .ref 37, .ref 38, .ref 39, .ref 40, .int 0, .int 0, .int 0, .int 0, .ref 41, .null, .int 0, .int 0, .int 0, .null, .null, .null, .int 0]), .inr (.inl (List.replicate 5 0)), .inr (.inl (List.replicate 5 0)), .inr (.inl (List.replicate 36 0)), .inr (.inl (List.replicate 160 0)), .inr (.inl (List.replicate 1200 0)), .inr (.inl (List.replicate 24 0)), .inr (.inl (List.replicate 36 0)), .inr (.inl ([-1, -1, -1, -1])), .inr (.inl (List.replicate 4 0)), .inr (.inl (List.replicate 160 0)), .inr (.inl (ww_law)), .inr (.inl (ww_words)), .inr (.inl (List.replicate 200 0))]) rfl ?_
  refine e_putF (pc := 888) dX7_init_888 pX7_53 rfl rfl (Nat.le_of_ble_eq_true rfl) rfl ?_
  refine e_w (w2 := [x0, x1, x2, x3, x4, x5, x6, x7, x8, x9, x10, x11, x12, x13, x14, x15, x16, x17, x18, x19, x20, x21, x22, x23, x24, x25, x26, x27, x28, .inl (7, [.int 10, .int 1, .int 0, .ref 30, .ref 31, .ref 32, .ref 33, .int 0, .ref 34, .ref 35, .int 0, .int 0, .int 0, .int 0, .int 0, .int 0, .int 0, .ref 36, .ref 37, .ref 38, .ref 39, .ref 40, .int 0, .int 0, .int 0, .int 0, .ref 41, .ref 42, .int 0, .int 0, .int 0, .null, .null, .null, .int 0]), .inr (.inl (List.replicate 5 0)), .inr (.inl (List.replicate 5 0)), .inr (.inl (List.replicate 36 0)), .inr (.inl (List.replicate 160 0)), .inr (.inl (List.replicate 1200 0)), .inr (.inl (List.replicate 24 0)), .inr (.inl (List.replicate 36 0)), .inr (.inl ([-1, -1, -1, -1])), .inr (.inl (List.replicate 4 0)), .inr (.inl (List.replicate 160 0)), .inr (.inl (ww_law)), .inr (.inl (ww_words)), .inr (.inl (List.replicate 200 0))]) rfl ?_
  refine e_aloadn (pc := 891) dX7_init_891 rfl ?_
  refine e_sipush (v := 200) (pc := 892) dX7_init_892 (by decide) ?_
  refine e_newa (N := 200) (pc := 895) dX7_init_895 arr_int (by decide) rfl (Nat.le_of_ble_eq_true rfl) (Nat.le_of_ble_eq_true rfl) (Nat.le_of_ble_eq_true rfl) (Nat.le_of_ble_eq_true rfl) ?_
  refine e_w (w2 := [x0, x1, x2, x3, x4, x5, x6, x7, x8, x9, x10, x11, x12, x13, x14, x15, x16, x17, x18, x19, x20, x21, x22, x23, x24, x25, x26, x27, x28, .inl (7, [.int 10, .int 1, .int 0, .ref 30, .ref 31, .ref 32, .ref 33, .int 0, .ref 34, .ref 35, .int 0, .int 0, .int 0, .int 0, .int 0, .int 0, .int 0, .ref 36, .ref 37, .ref 38, .ref 39, .ref 40, .int 0, .int 0, .int 0, .int 0, .ref 41, .ref 42, .int 0, .int 0, .int 0, .null, .null, .null, .int 0]), .inr (.inl (List.replicate 5 0)), .inr (.inl (List.replicate 5 0)), .inr (.inl (List.replicate 36 0)), .inr (.inl (List.replicate 160 0)), .inr (.inl (List.replicate 1200 0)), .inr (.inl (List.replicate 24 0)), .inr (.inl (List.replicate 36 0)), .inr (.inl ([-1, -1, -1, -1])), .inr (.inl (List.replicate 4 0)), .inr (.inl (List.replicate 160 0)), .inr (.inl (ww_law)), .inr (.inl (ww_words)), .inr (.inl (List.replicate 200 0)), .inr (.inl (List.replicate 200 0))]) rfl ?_
  refine e_putF (pc := 897) dX7_init_897 pX7_56 rfl rfl (Nat.le_of_ble_eq_true rfl) rfl ?_
  refine e_w (w2 := [x0, x1, x2, x3, x4, x5, x6, x7, x8, x9, x10, x11, x12, x13, x14, x15, x16, x17, x18, x19, x20, x21, x22, x23, x24, x25, x26, x27, x28, .inl (7, [.int 10, .int 1, .int 0, .ref 30, .ref 31, .ref 32, .ref 33, .int 0, .ref 34, .ref 35, .int 0, .int 0, .int 0, .int 0, .int 0, .int 0, .int 0, .ref 36, .ref 37, .ref 38, .ref 39, .ref 40, .int 0, .int 0, .int 0, .int 0, .ref 41, .ref 42, .int 0, .int 0, .int 0, .ref 43, .null, .null, .int 0]), .inr (.inl (List.replicate 5 0)), .inr (.inl (List.replicate 5 0)), .inr (.inl (List.replicate 36 0)), .inr (.inl (List.replicate 160 0)), .inr (.inl (List.replicate 1200 0)), .inr (.inl (List.replicate 24 0)), .inr (.inl (List.replicate 36 0)), .inr (.inl ([-1, -1, -1, -1])), .inr (.inl (List.replicate 4 0)), .inr (.inl (List.replicate 160 0)), .inr (.inl (ww_law)), .inr (.inl (ww_words)), .inr (.inl (List.replicate 200 0)), .inr (.inl (List.replicate 200 0))]) rfl ?_
  refine e_aloadn (pc := 900) dX7_init_900 rfl ?_
  refine e_bipush (v := 6) (pc := 901) dX7_init_901 (by decide) ?_
  refine e_newa (N := 6) (pc := 903) dX7_init_903 arr_int (by decide) rfl (Nat.le_of_ble_eq_true rfl) (Nat.le_of_ble_eq_true rfl) (Nat.le_of_ble_eq_true rfl) (Nat.le_of_ble_eq_true rfl) ?_
  refine e_w (w2 := [x0, x1, x2, x3, x4, x5, x6, x7, x8, x9, x10, x11, x12, x13, x14, x15, x16, x17, x18, x19, x20, x21, x22, x23, x24, x25, x26, x27, x28, .inl (7, [.int 10, .int 1, .int 0, .ref 30, .ref 31, .ref 32, .ref 33, .int 0, .ref 34, .ref 35, .int 0, .int 0, .int 0, .int 0, .int 0, .int 0, .int 0, .ref 36, .ref 37, .ref 38, .ref 39, .ref 40, .int 0, .int 0, .int 0, .int 0, .ref 41, .ref 42, .int 0, .int 0, .int 0, .ref 43, .null, .null, .int 0]), .inr (.inl (List.replicate 5 0)), .inr (.inl (List.replicate 5 0)), .inr (.inl (List.replicate 36 0)), .inr (.inl (List.replicate 160 0)), .inr (.inl (List.replicate 1200 0)), .inr (.inl (List.replicate 24 0)), .inr (.inl (List.replicate 36 0)), .inr (.inl ([-1, -1, -1, -1])), .inr (.inl (List.replicate 4 0)), .inr (.inl (List.replicate 160 0)), .inr (.inl (ww_law)), .inr (.inl (ww_words)), .inr (.inl (List.replicate 200 0)), .inr (.inl (List.replicate 200 0)), .inr (.inl (List.replicate 6 0))]) rfl ?_
  refine e_putF (pc := 905) dX7_init_905 pX7_59 rfl rfl (Nat.le_of_ble_eq_true rfl) rfl ?_
  refine e_w (w2 := [x0, x1, x2, x3, x4, x5, x6, x7, x8, x9, x10, x11, x12, x13, x14, x15, x16, x17, x18, x19, x20, x21, x22, x23, x24, x25, x26, x27, x28, .inl (7, [.int 10, .int 1, .int 0, .ref 30, .ref 31, .ref 32, .ref 33, .int 0, .ref 34, .ref 35, .int 0, .int 0, .int 0, .int 0, .int 0, .int 0, .int 0, .ref 36, .ref 37, .ref 38, .ref 39, .ref 40, .int 0, .int 0, .int 0, .int 0, .ref 41, .ref 42, .int 0, .int 0, .int 0, .ref 43, .ref 44, .null, .int 0]), .inr (.inl (List.replicate 5 0)), .inr (.inl (List.replicate 5 0)), .inr (.inl (List.replicate 36 0)), .inr (.inl (List.replicate 160 0)), .inr (.inl (List.replicate 1200 0)), .inr (.inl (List.replicate 24 0)), .inr (.inl (List.replicate 36 0)), .inr (.inl ([-1, -1, -1, -1])), .inr (.inl (List.replicate 4 0)), .inr (.inl (List.replicate 160 0)), .inr (.inl (ww_law)), .inr (.inl (ww_words)), .inr (.inl (List.replicate 200 0)), .inr (.inl (List.replicate 200 0)), .inr (.inl (List.replicate 6 0))]) rfl ?_
  refine e_aloadn (pc := 908) dX7_init_908 rfl ?_
  refine e_bipush (v := 40) (pc := 909) dX7_init_909 (by decide) ?_
  refine e_newa (N := 40) (pc := 911) dX7_init_911 arr_int (by decide) rfl (Nat.le_of_ble_eq_true rfl) (Nat.le_of_ble_eq_true rfl) (Nat.le_of_ble_eq_true rfl) (Nat.le_of_ble_eq_true rfl) ?_
  refine e_w (w2 := [x0, x1, x2, x3, x4, x5, x6, x7, x8, x9, x10, x11, x12, x13, x14, x15, x16, x17, x18, x19, x20, x21, x22, x23, x24, x25, x26, x27, x28, .inl (7, [.int 10, .int 1, .int 0, .ref 30, .ref 31, .ref 32, .ref 33, .int 0, .ref 34, .ref 35, .int 0, .int 0, .int 0, .int 0, .int 0, .int 0, .int 0, .ref 36, .ref 37, .ref 38, .ref 39, .ref 40, .int 0, .int 0, .int 0, .int 0, .ref 41, .ref 42, .int 0, .int 0, .int 0, .ref 43, .ref 44, .null, .int 0]), .inr (.inl (List.replicate 5 0)), .inr (.inl (List.replicate 5 0)), .inr (.inl (List.replicate 36 0)), .inr (.inl (List.replicate 160 0)), .inr (.inl (List.replicate 1200 0)), .inr (.inl (List.replicate 24 0)), .inr (.inl (List.replicate 36 0)), .inr (.inl ([-1, -1, -1, -1])), .inr (.inl (List.replicate 4 0)), .inr (.inl (List.replicate 160 0)), .inr (.inl (ww_law)), .inr (.inl (ww_words)), .inr (.inl (List.replicate 200 0)), .inr (.inl (List.replicate 200 0)), .inr (.inl (List.replicate 6 0)), .inr (.inl (List.replicate 40 0))]) rfl ?_
  refine e_putF (pc := 913) dX7_init_913 pX7_62 rfl rfl (Nat.le_of_ble_eq_true rfl) rfl ?_
  refine e_w (w2 := [x0, x1, x2, x3, x4, x5, x6, x7, x8, x9, x10, x11, x12, x13, x14, x15, x16, x17, x18, x19, x20, x21, x22, x23, x24, x25, x26, x27, x28, .inl (7, [.int 10, .int 1, .int 0, .ref 30, .ref 31, .ref 32, .ref 33, .int 0, .ref 34, .ref 35, .int 0, .int 0, .int 0, .int 0, .int 0, .int 0, .int 0, .ref 36, .ref 37, .ref 38, .ref 39, .ref 40, .int 0, .int 0, .int 0, .int 0, .ref 41, .ref 42, .int 0, .int 0, .int 0, .ref 43, .ref 44, .ref 45, .int 0]), .inr (.inl (List.replicate 5 0)), .inr (.inl (List.replicate 5 0)), .inr (.inl (List.replicate 36 0)), .inr (.inl (List.replicate 160 0)), .inr (.inl (List.replicate 1200 0)), .inr (.inl (List.replicate 24 0)), .inr (.inl (List.replicate 36 0)), .inr (.inl ([-1, -1, -1, -1])), .inr (.inl (List.replicate 4 0)), .inr (.inl (List.replicate 160 0)), .inr (.inl (ww_law)), .inr (.inl (ww_words)), .inr (.inl (List.replicate 200 0)), .inr (.inl (List.replicate 200 0)), .inr (.inl (List.replicate 6 0)), .inr (.inl (List.replicate 40 0))]) rfl ?_
  skip
  exact hK
def ym0 (k : Nat) : Int32 := [10, 1].getD k 0
def yb0 (k : Nat) : List Int32 := [List.replicate 5 0, List.replicate 5 0, List.replicate 36 0, List.replicate 160 0, List.replicate 1200 0, List.replicate 24 0, List.replicate 36 0, [-1, -1, -1, -1], List.replicate 4 0, List.replicate 160 0].getD k []
def yn0 (_ : Nat) : Int32 := 0
def yd0 (k : Nat) : List Int32 := [List.replicate 200 0, List.replicate 200 0, List.replicate 6 0, List.replicate 40 0].getD k []
def yq0 (k : Nat) : List Int32 := ww_law.take k ++ List.replicate (160 - k) 0
theorem yq0_step : ∀ k, k < 32 → (yq0 k).set k (ww_law.getD k 0) = yq0 (k + 1) := by decide +kernel
theorem yq0_len : ∀ k, k ≤ 32 → (yq0 k).length = 160 := by decide +kernel
/-- the law's own text, read -/
theorem yq0_text : ytxV (fun i => (yq0 32).getD i 0) 32 = (true, 32, [100001, 100003, 3], [0, 1, 2]) := by decide +kernel
theorem lp_y_lawin {s u : Nat → Int32} {a c : Nat → List Int32} {q : List (Option Nat)} {h : Nat} {Post : Option Value → mc_W → Prop} (hK : ∀ x1, mc_E RX7 cX7_init 2 (mc_JM none true 8 16 2208 Post) 942 [some (.ref 29), x1] [] (WW s a q u c h ym0 (mc_up yb0 3 (yq0 32)) yn0 yd0 []) 16 2208) : ∀ (f k : Nat), k + f = 32 → mc_E RX7 cX7_init 2 (mc_JM none true 8 16 2208 Post) 918 [some (.ref 29), some (.int (nI k))] [] (WW s a q u c h ym0 (mc_up yb0 3 (yq0 k)) yn0 yd0 []) 16 2208 := by
  intro f
  induction f with
  | zero =>
    intro k hk
    have e : k = 32 := by omega
    subst e
    refine e_iloadn (pc := 918) dX7_init_918 rfl ?_
    refine e_bipush (v := 32) (pc := 919) dX7_init_919 (by decide) ?_
    refine e_icmp_ge (pc := 921) dX7_init_921 (t := 942) (by decide) (fun _ => ?_) (fun c_921 => absurd (by decide) c_921)
    exact hK _
  | succ f ih =>
    intro k hk
    have hk2 : k < 32 := by omega
    have hi : vp_in (nI k) ((mc_up yb0 3 (yq0 k)) 3).length := by show vp_in _ (yq0 k).length; rw [yq0_len k (by omega)]; exact vp_in_nI (by omega) (by decide)
    have hi2 : vp_in (nI k) ww_law.length := vp_in_nI hk2 (by decide)
    have hc : (nI k).toNatClampNeg = k := nIc (by omega)
    refine e_iloadn (pc := 918) dX7_init_918 rfl ?_
    refine e_bipush (v := 32) (pc := 919) dX7_init_919 (by decide) ?_
    refine e_icmp_ge (pc := 921) dX7_init_921 (t := 942) (by decide) (fun c_921 => absurd c_921 (nI_ge (a := k) (b := 32) hk2 (by decide))) (fun _ => ?_)
    refine e_aloadn (pc := 924) dX7_init_924 rfl ?_
    refine e_get (pc := 925) dX7_init_925 fX7_26 rfl rfl ?_
    refine e_iloadn (pc := 928) dX7_init_928 rfl ?_
    refine e_aloadn (pc := 929) dX7_init_929 rfl ?_
    refine e_get (pc := 930) dX7_init_930 fX7_47 rfl rfl ?_
    refine e_iloadn (pc := 933) dX7_init_933 rfl ?_
    refine ald_law (pc := 934) dX7_init_934 hi2 ?_
    refine ast_ytape (pc := 935) dX7_init_935 hi ?_
    refine e_inc1 (pc := 936) dX7_init_936 (Nat.le_of_ble_eq_true rfl) rfl ?_
    refine e_goto (pc := 939) dX7_init_939 (t := 918) (by decide) ?_
    rw [hc, show nI k + Int32.ofInt 1 = nI (k + 1) from nI_add k 1]
    refine e_w (w2 := (WW s a q u c h ym0 (mc_up yb0 3 (yq0 (k + 1))) yn0 yd0 [])) ?_ (ih (k + 1) (by omega))
    rw [show mc_up (mc_up yb0 3 (yq0 k)) 3 ((mc_up yb0 3 (yq0 k) 3).set k (ww_law.getD k 0)) = mc_up yb0 3 (yq0 (k + 1)) by rw [← yq0_step k hk2]; funext j; unfold mc_up; by_cases hj : j = 3 <;> simp [hj]]
def ym1 (k : Nat) : Int32 := [10, 1, 0, 0, 1].getD k 0
theorem ym1_of : mc_up (mc_up (mc_up ym0 3 32) 3 0) 4 (mc_up ym0 3 32 4 + 1) = ym1 := by
  funext j
  unfold mc_up ym0 ym1
  match j with
  | 0 => rfl
  | 1 => rfl
  | 2 => rfl
  | 3 => rfl
  | 4 => rfl
  | j + 5 => simp
/-- both sides made: the other side as it is made; its rows of texts say the law of the beginning -/
theorem ct_X7 {s u : Nat → Int32} {a c : Nat → List Int32} {q : List (Option Nat)} {h : Nat} : mc_S yX7_init cX7_init 2 none 8 16 2208 [.ref 29] [.inl (6, [.int (s 0), .int (s 1), .int (s 2), .ref 1, .ref 2, .ref 3, .ref 5, .int (s 3), .int (s 4), .ref 6, .ref 9, .ref 10, .ref 13, .ref 17]), .inr (.inl (a 0)), .inr (.inl (a 1)), .inl (5, [.ref 4, .int 1, .int 2]), .inr (.inl [1, 3, -4]), .inr (.inr (1, q)), .inl (4, [.ref 7, .int (s 5), .int (u 0), .int (u 1), .int (u 2), .ref 8, .int (u 3), .int (u 4), .int (u 5)]), .inr (.inl (a 2)), .inr (.inl (c 0)), .inr (.inr (2, [some 21, some 23, some 25, some 27])), .inl (0, [.ref 11, .ref 12]), .inr (.inl (a 3)), .inr (.inl (c 1)), .inl (2, [.int (s 6), .int (s 7), .int (s 8), .int (s 9), .int (s 10), .ref 14]), .inl (0, [.ref 15, .ref 16]), .inr (.inl (a 4)), .inr (.inl (c 2)), .inl (1, [.int (u 6), .ref h, .ref 18, .ref 19, .ref 20, .int (u 7)]), .inr (.inl (c 3)), .inr (.inl (c 4)), .inr (.inl (c 5)), .inl (3, [.ref 22, .int (s 11), .int (s 12)]), .inr (.inl (a 5)), .inl (3, [.ref 24, .int (s 13), .int (s 14)]), .inr (.inl (a 6)), .inl (3, [.ref 26, .int (s 15), .int (s 16)]), .inr (.inl (a 7)), .inl (3, [.ref 28, .int (s 17), .int (s 18)]), .inr (.inl (a 8)), .inl (7, [.int 0, .int 0, .int 0, .null, .null, .null, .null, .int 0, .null, .null, .int 0, .int 0, .int 0, .int 0, .int 0, .int 0, .int 0, .null, .null, .null, .null, .null, .int 0, .int 0, .int 0, .int 0, .null, .null, .int 0, .int 0, .int 0, .null, .null, .null, .int 0])] (fun r w => r = none ∧ ∃ b1 n1 d1, yTX 0 (mc_up yb0 3 (yq0 32)) b1 true [100001, 100003, 3] [0, 1, 2] ∧ yD d1 ∧ w = WW s a q u c h ym1 b1 n1 d1 []) := by
  refine mc_start (own := RX7) (ini := true) rfl (by decide +kernel) (fun _ => rfl) (Nat.le_of_ble_eq_true rfl) ?_
  show mc_E _ _ _ _ _ [some (.ref 29), none] [] _ _ _
  refine lp_y_body ?_
  refine e_w (w2 := (WW s a q u c h ym0 (mc_up yb0 3 (yq0 0)) yn0 yd0 [])) rfl ?_
  refine e_iconst (v := 0) (pc := 916) dX7_init_916 (by decide) ?_
  refine e_isn1 (pc := 917) dX7_init_917 (Nat.le_of_ble_eq_true rfl) rfl ?_
  refine lp_y_lawin (fun x1 => ?_) 32 0 rfl
  have HT := sp_y_text (s := s) (a := a) (q := q) (u := u) (c := c) (h := h) (m := mc_up ym0 3 32) (b := mc_up yb0 3 (yq0 32)) (n := yn0) (d := yd0) (z := []) (t := 0) (N := 32) (by unfold yL; decide +kernel) (by decide) (by decide) (by decide) (by decide) (by unfold yD; decide +kernel)
  rw [show ytxV (yt3 (mc_up yb0 3 (yq0 32))) 32 = (true, 32, [100001, 100003, 3], [0, 1, 2]) from yq0_text] at HT
  refine e_aloadn (pc := 942) dX7_init_942 rfl ?_
  refine e_bipush (v := 32) (pc := 943) dX7_init_943 (by decide) ?_
  refine put_y_taped (pc := 945) dX7_init_945 pX7_65 ?_
  refine e_aloadn (pc := 948) dX7_init_948 rfl ?_
  refine e_cvX (pc := 949) (HT) dX7_init_949 kX7_68 rfl rfl rfl rfl rfl (mc_CR_of (Nat.le_of_ble_eq_true rfl) (Nat.le_of_ble_eq_true rfl) (Nat.le_refl _) (Nat.le_refl _)) (Nat.le_of_ble_eq_true rfl) (fun w1 hw1 => ?_)
  obtain ⟨b1, n1, d1, X1, hD1, rfl⟩ := hw1
  refine e_pop (pc := 952) dX7_init_952 rfl ?_
  exact e_vret (pc := 953) dX7_init_953 rfl (Nat.le_refl _) (Nat.le_refl _) ⟨rfl, b1, n1, d1, X1, hD1, by rw [if_pos rfl, ym1_of]⟩
end Zj_52_ct1
section Zj_53_law
/-! THE CLAIM OUT OF ONE WALK OF THE LAW'S BODY. Your part is whole_start (and what it stands on); all else here is the same for every law, but numbers. -/
def R_law : String := "NoZeroWithinLaw"
def lw_P (b : Addr) (xs : List Int32) (args : Array Value) (s : State) : Prop := args = #[.ref b] ∧ s.IntsAt b xs ∧ xs.length ≤ 3584 ∧ (Jvm.Cond.and given_1 narrow_1).before args s = true
def lw_Q (_ : Array Value) (s : State) (o : Outcome) (t : State) : Prop := o = .returned (some (.int 1)) ∧ Framed s o t [] 600000 7302250
def lw_Z (below : List Frame) (a : Array Value) (s : State) : State → Prop := fun t => ∃ o, t.status = .running ∧ Ended t below o ∧ lw_Q a s o t
/-- the law's own end, with 1 on the stack, nothing written that was there before, its room as the claim has it -/
theorem lw_ret {p : Program} {l : Launch} {e : Env} {s : State} {m : MethodId} {below : List Frame} {meth : Method} {c : Code} {b : Nat} (hx : p.tables.exec = Jvm.exec) (hb : c.code = code) (hr : meth.sig.returnType = ret) (hlocks : meth.locks = false) {pc : Nat} {H : Heap} {ls : Array Slot} (hdg : decode code pc = .ok (.ireturn, 1)) : W p l e room_1 s m #[Value.ref b] below meth c H [] 600000 7302250 (lw_Z below #[Value.ref b] s) (F0 m pc ls [.int 1]) := by
  intro T hT X
  obtain ⟨fs, hret, hrun, hended, hW, hframe⟩ := X.leave (v := some (.int 1)) (hlocks := hlocks) (fun h => by rw [hr] at h; cases h)
  have hmeth' : T.vm.method? m = some meth := X.method'
  refine ⟨T.setFrames fs, ?_, .returned (some (.int 1)), hrun, hended, rfl, ⟨_, rfl⟩, hW, hframe⟩
  jvm_step X.here [X.here.top, hx, hb, hdg, hmeth', hr, ret, narrow_b1]
  (try refine ⟨rfl, ?_⟩); (try refine ⟨rfl, ?_⟩)
  first | (intro acts; rw [hret _ acts rfl rfl rfl]) | rw [hret _ _ rfl rfl rfl]
  exact Steps.refl _
/-- what holds at the law's entry: the machine, the code, the tables' words (any of lw_tbl by 'hts w (by decide +kernel)'), the script of L ints xs at the cell b, what the Statement gives of the start (any of its parts by flat_of_before) -/
def lw_At (p : Program) (s : State) (m : MethodId) (meth : Method) (c : Code) (b L : Nat) (xs : Nat → Int32) : Prop :=
  p.tables.exec = Jvm.exec ∧ c.code = code ∧ meth.sig.returnType = ret ∧ c.maxLocals = 4 ∧ s.vm.findClass R_law = some m.cls ∧ (∀ w ∈ lw_tbl, w.before #[Value.ref b] s = true) ∧ va_X b L xs s s.heap ∧ b < s.heap.size ∧ meth.locks = false ∧ (Jvm.Cond.and given_1 narrow_1).before #[Value.ref b] s = true

set_option maxRecDepth 20000 in
theorem tw_ao5 : Cond.arrayOver (.object "NoZeroWithin$Text") ∈ lw_tbl := List.mem_append_right _ (List.mem_append_left _ (List.mem_of_getElem? (i := 42) rfl))
set_option maxRecDepth 20000 in
theorem tw_ao3 : Cond.arrayOver (.object "NoZeroWithin$Sheet") ∈ lw_tbl := List.mem_append_right _ (List.mem_append_left _ (List.mem_of_getElem? (i := 78) rfl))
set_option maxRecDepth 20000 in
theorem tw_lsK : Cond.laysStatic "NoZeroWithin" "KIND_ABOVE" "[I" ∈ lw_tbl := List.mem_append_right _ (List.mem_append_right _ (List.mem_append_left _ (List.mem_of_getElem? (i := 232) rfl)))
set_option maxRecDepth 20000 in
theorem tw_lsC : Cond.laysStatic "java/lang/String" "COMPACT_STRINGS" "Z" ∈ lw_tbl := List.mem_append_right _ (List.mem_append_right _ (List.mem_append_left _ (List.mem_of_getElem? (i := 31) rfl)))
set_option maxRecDepth 20000 in
theorem tw_lsF : Cond.laysStatic "jdk/internal/util/Preconditions" "SIOOBE_FORMATTER" "Ljava/util/function/BiFunction;" ∈ lw_tbl := List.mem_append_right _ (List.mem_append_right _ (List.mem_append_left _ (List.mem_of_getElem? (i := 47) rfl)))
set_option maxRecDepth 20000 in
theorem tw_inC : Cond.initialized "java/lang/String" ∈ lw_tbl := List.mem_append_right _ (List.mem_append_left _ (List.mem_of_getElem? (i := 9) rfl))
set_option maxRecDepth 20000 in
theorem tw_inF : Cond.initialized "jdk/internal/util/Preconditions" ∈ lw_tbl := List.mem_append_right _ (List.mem_append_left _ (List.mem_of_getElem? (i := 11) rfl))
set_option maxRecDepth 20000 in
theorem tw_inK : Cond.initialized "NoZeroWithin" ∈ lw_tbl := List.mem_append_right _ (List.mem_append_left _ (List.mem_of_getElem? (i := 1) rfl))
set_option maxRecDepth 20000 in
theorem tw_acI : Cond.arrayClass .int ∈ lw_tbl := List.mem_append_right _ (List.mem_append_left _ (List.mem_of_getElem? (i := 41) rfl))
set_option maxRecDepth 20000 in
theorem tw_st0 : Cond.stringRef "NoZeroWithin$Tape" 115 "more" ∈ lw_tbl := List.mem_append_right _ (List.mem_append_right _ (List.mem_append_left _ (List.mem_of_getElem? (i := 17) rfl)))
set_option maxRecDepth 20000 in
theorem tw_st1 : Cond.stringRef "NoZeroWithin$Tape" 121 "clerk" ∈ lw_tbl := List.mem_append_right _ (List.mem_append_right _ (List.mem_append_left _ (List.mem_of_getElem? (i := 70) rfl)))
set_option maxRecDepth 20000 in
theorem tw_st2 : Cond.stringRef "NoZeroWithin$Tape" 123 "v" ∈ lw_tbl := List.mem_append_right _ (List.mem_append_right _ (List.mem_append_left _ (List.mem_of_getElem? (i := 71) rfl)))
set_option maxRecDepth 20000 in
theorem tw_st3 : Cond.stringRef "NoZeroWithin$Tape" 125 "off" ∈ lw_tbl := List.mem_append_right _ (List.mem_append_right _ (List.mem_append_left _ (List.mem_of_getElem? (i := 72) rfl)))
set_option maxRecDepth 20000 in
theorem tw_st4 : Cond.stringRef "NoZeroWithin$Tape" 127 "base" ∈ lw_tbl := List.mem_append_right _ (List.mem_append_right _ (List.mem_append_left _ (List.mem_of_getElem? (i := 73) rfl)))
set_option maxRecDepth 20000 in
theorem tw_st5 : Cond.stringRef "NoZeroWithin$Tape" 129 "year" ∈ lw_tbl := List.mem_append_right _ (List.mem_append_right _ (List.mem_append_left _ (List.mem_of_getElem? (i := 74) rfl)))
set_option maxRecDepth 20000 in
theorem tw_st6 : Cond.stringRef "NoZeroWithin$Tape" 131 "nought" ∈ lw_tbl := List.mem_append_right _ (List.mem_append_right _ (List.mem_append_left _ (List.mem_of_getElem? (i := 75) rfl)))
set_option maxRecDepth 20000 in
theorem tw_st7 : Cond.stringRef "NoZeroWithin$Tape" 133 "slips" ∈ lw_tbl := List.mem_append_right _ (List.mem_append_right _ (List.mem_append_left _ (List.mem_of_getElem? (i := 76) rfl)))
set_option maxRecDepth 20000 in
theorem tw_st8 : Cond.stringRef "NoZeroWithin$Tape" 135 "costs" ∈ lw_tbl := List.mem_append_right _ (List.mem_append_right _ (List.mem_append_left _ (List.mem_of_getElem? (i := 77) rfl)))
set_option maxRecDepth 20000 in
theorem tw_st9 : Cond.stringRef "NoZeroWithin$Tape" 137 "or" ∈ lw_tbl := List.mem_append_right _ (List.mem_append_right _ (List.mem_append_left _ (List.mem_of_getElem? (i := 78) rfl)))
set_option maxRecDepth 20000 in
theorem tw_st10 : Cond.stringRef "NoZeroWithin$Tape" 139 "and" ∈ lw_tbl := List.mem_append_right _ (List.mem_append_right _ (List.mem_append_left _ (List.mem_of_getElem? (i := 79) rfl)))
set_option maxRecDepth 20000 in
theorem tw_st11 : Cond.stringRef "NoZeroWithin$Tape" 141 "not" ∈ lw_tbl := List.mem_append_right _ (List.mem_append_right _ (List.mem_append_left _ (List.mem_of_getElem? (i := 80) rfl)))
set_option maxRecDepth 20000 in
theorem tw_ne0 : Cond.methodLinkNest RX1 35 yX6_isOfKind "NoZeroWithin" ∈ lw_tbl := List.mem_append_right _ (List.mem_append_right _ (List.mem_append_left _ (List.mem_of_getElem? (i := 228) rfl)))
set_option maxRecDepth 20000 in
theorem tw_ne1 : Cond.methodLinkNest RX0 18 yX6_isFolk "NoZeroWithin" ∈ lw_tbl := List.mem_append_right _ (List.mem_append_right _ (List.mem_append_right _ (List.mem_append_left _ (List.mem_of_getElem? (i := 162) rfl))))
set_option maxRecDepth 20000 in
theorem tw_ne2 : Cond.methodLinkNest RX0 22 yX6_areTwoFolk "NoZeroWithin" ∈ lw_tbl := List.mem_append_right _ (List.mem_append_right _ (List.mem_append_right _ (List.mem_append_left _ (List.mem_of_getElem? (i := 167) rfl))))
def tw_b : List Nat := [34, 42, 52, 59, 69, 81, 94, 110, 126, 143, 158, 175]
def tw_tm (i : Nat) : Term := .string "NoZeroWithin$Tape" ((mc_tx.getD i (0, "")).1)
theorem tw_arr {s : State} {cA : ClassId} {k : Class} {comp : ClassId} {ty : FieldType} (hk : s.vm.classes[cA]? = some k) (hkind : k.kind = .array comp ty) : ArrOfT s cA ty := fun n z => ⟨fun j h => (by cases h), k, hk, comp, hkind⟩
theorem tw_wIn {b : Nat} {s : State} (hgv : (Jvm.Cond.and given_1 narrow_1).before #[Value.ref b] s = true) {w : Cond} (h : w ∈ flatC (Jvm.Cond.and given_1 narrow_1)) : w.before #[Value.ref b] s = true := flat_of_before _ hgv w h
theorem tw_str {args : Array Value} {s : State} (h : ∀ w ∈ flatC (Jvm.Cond.and given_1 narrow_1), w.before args s = true) {A : Nat → Prop} (hA : ∀ a : Nat, a < s.heap.size → ¬ A a) : ∃ adK adV : Nat → Nat, vk_S 12 mc_len mc_byt adK adV A s s.heap ∧ ∀ i : Nat, i < 12 → (tw_tm i).eval args s none [] s = some (.ref (adK i)) := by
  have G1 : ∀ i, i < 12 → (flatC (Jvm.Cond.and given_1 narrow_1))[tw_b.getD i 0]? = some (Cond.exactly (tw_tm i) "java/lang/String") := by decide +kernel
  have G2 : ∀ i, i < 12 → (flatC (Jvm.Cond.and given_1 narrow_1))[tw_b.getD i 0 + 1]? = some (Cond.eq (.field (tw_tm i) "java/lang/String" "coder" "B") (.int 0)) := by decide +kernel
  have G3 : ∀ i, i < 12 → (flatC (Jvm.Cond.and given_1 narrow_1))[tw_b.getD i 0 + 2]? = some (Cond.arrayOf (.field (tw_tm i) "java/lang/String" "value" "[B") .byte) := by decide +kernel
  have G4 : ∀ i, i < 12 → (flatC (Jvm.Cond.and given_1 narrow_1))[tw_b.getD i 0 + 3]? = some (Cond.eq (.length (.field (tw_tm i) "java/lang/String" "value" "[B")) (.int (Int32.ofNat (mc_len.getD i 0)))) := by decide +kernel
  have G5 : ∀ i, i < 12 → ∀ j, j < mc_len.getD i 0 → (flatC (Jvm.Cond.and given_1 narrow_1))[tw_b.getD i 0 + 4 + j]? = some (Cond.eq (.elem (.field (tw_tm i) "java/lang/String" "value" "[B") (.int (Int32.ofNat j))) (.int ((mc_byt.getD i []).getD j 0))) := by decide +kernel
  have G6 : ∀ i, i < 12 → ∀ j, j < i → (flatC (Jvm.Cond.and given_1 narrow_1))[tw_b.getD i 0 + 4 + mc_len.getD i 0 + j]? = some (Cond.not (Cond.eq (tw_tm j) (tw_tm i))) := by decide +kernel
  have D1 := fun i hi => List.mem_of_getElem? (G1 i hi)
  have D2 := fun i hi => List.mem_of_getElem? (G2 i hi)
  have D3 := fun i hi => List.mem_of_getElem? (G3 i hi)
  have D4 := fun i hi => List.mem_of_getElem? (G4 i hi)
  have D5 := fun i hi j hj => List.mem_of_getElem? (G5 i hi j hj)
  have D6 : ∀ i, i < 12 → ∀ j, j < 12 → i ≠ j → (Cond.not (Cond.eq (tw_tm i) (tw_tm j))) ∈ (flatC (Jvm.Cond.and given_1 narrow_1)) ∨ (Cond.not (Cond.eq (tw_tm j) (tw_tm i))) ∈ (flatC (Jvm.Cond.and given_1 narrow_1)) := fun i hi j hj hne => by
    rcases Nat.lt_or_ge i j with q | q
    · exact Or.inl (List.mem_of_getElem? (G6 j hj i q))
    · exact Or.inr (List.mem_of_getElem? (G6 i hi j (by omega)))
  exact vk_Sof (tm := tw_tm) (len := mc_len) (byt := mc_byt) (by decide +kernel) (fun i hi => h _ (D1 i hi)) (fun i hi => h _ (D2 i hi)) (fun i hi => h _ (D3 i hi)) (fun i hi => h _ (D4 i hi)) (fun i hi j hj => h _ (D5 i hi j hj)) (fun i j hi hj hne => (D6 i hi j hj hne).imp (fun q => h _ q) (fun q => h _ q)) hA
/-- at the law's entry: a frame for the worlds -/
theorem mc_enter {s : State} {b : Nat} (hts : ∀ w ∈ lw_tbl, w.before #[Value.ref b] s = true) (hgv : (Jvm.Cond.and given_1 narrow_1).before #[Value.ref b] s = true) : ∃ g : mc_G, g.1 = s.heap.size ∧ g.2.2.2 300 = b ∧ mc_GG g s := by
  have hfl : ∀ w ∈ flatC (Jvm.Cond.and given_1 narrow_1), w.before #[Value.ref b] s = true := flat_of_before _ hgv
  have hT : ∀ w ∈ mc_WS, w.before #[Value.ref b] s = true := fun w hw => hts w (mc_WS_ok w hw).1
  obtain ⟨c0, j0, K0⟩ := u_known (C := RX0) (T := TX0) hT mcf0.2.1 (hT _ insX0)
  obtain ⟨c1, j1, K1⟩ := u_known (C := RX1) (T := TX1) hT mcf1.2.1 (hT _ insX1)
  obtain ⟨c2, j2, K2⟩ := u_known (C := RX2) (T := TX2) hT mcf2.2.1 (hT _ insX2)
  obtain ⟨c3, j3, K3⟩ := u_known (C := RX3) (T := TX3) hT mcf3.2.1 (hT _ insX3)
  obtain ⟨c4, j4, K4⟩ := u_known (C := RX4) (T := TX4) hT mcf4.2.1 (hT _ insX4)
  obtain ⟨c5, j5, K5⟩ := u_known (C := RX5) (T := TX5) hT mcf5.2.1 (hT _ insX5)
  obtain ⟨c6, j6, K6⟩ := u_known (C := RX6) (T := TX6) hT mcf6.2.1 (hT _ insX6)
  obtain ⟨c7, j7, K7⟩ := u_known (C := RX7) (T := TX7) hT mcf7.2.1 (hT _ insX7)
  obtain ⟨dC, dI, hKc⟩ : ∃ (dC : Nat → ClassId) (dI : Nat → Nat → Nat), ∀ (k : Nat) (q : vw_C), mc_cl[k]? = some q → u_Kn s q.1 q.2.1 q.2.2 (dC k) (dI k) := by
    refine ⟨fun k => match k with | 0 => c0 | 1 => c1 | 2 => c2 | 3 => c3 | 4 => c4 | 5 => c5 | 6 => c6 | _ => c7, fun k => match k with | 0 => j0 | 1 => j1 | 2 => j2 | 3 => j3 | 4 => j4 | 5 => j5 | 6 => j6 | _ => j7, ?_⟩
    intro k q hq
    match k, hq with
    | 0, hq => cases hq; exact K0
    | 1, hq => cases hq; exact K1
    | 2, hq => cases hq; exact K2
    | 3, hq => cases hq; exact K3
    | 4, hq => cases hq; exact K4
    | 5, hq => cases hq; exact K5
    | 6, hq => cases hq; exact K6
    | 7, hq => cases hq; exact K7
    | k + 8, hq => simp [mc_cl] at hq
  obtain ⟨aI, kI, pI, hI1, hI2, hI3⟩ := Cond.arrayClass_spec (hts _ tw_acI)
  obtain ⟨p5, a5, k5, h51, -, h53, h54, h55⟩ := Cond.arrayOver_spec (hts _ tw_ao5)
  obtain ⟨p3, a3, k3, h31, -, h33, h34, h35⟩ := Cond.arrayOver_spec (hts _ tw_ao3)
  have hA : ∀ a : Nat, a < s.heap.size → ¬ (s.heap.size ≤ a) := fun a h => by omega
  obtain ⟨adK, adV, hS, hSe⟩ := tw_str hfl (A := fun q => s.heap.size ≤ q) hA
  have hZC := va_Zof (A := fun q => s.heap.size ≤ q) (hts _ tw_lsC) (hts _ tw_inC) (va_eqi (hfl (Cond.eq (.static "java/lang/String" "COMPACT_STRINGS" "Z") (.int 1)) (by decide +kernel))) hA
  have hZF := va_Zqof (A := fun q => s.heap.size ≤ q) (hts _ tw_lsF) (hts _ tw_inF) (hfl (Cond.isRef (.static "jdk/internal/util/Preconditions" "SIOOBE_FORMATTER" "Ljava/util/function/BiFunction;")) (by decide +kernel)) hA
  obtain ⟨kK, hkK, hTK⟩ := va_Tof (A := fun q => s.heap.size ≤ q) (N := 6) (f := fun j => .int (mc_ka.getD j 0)) (by decide) (hfl (Cond.arrayOf (.static "NoZeroWithin" "KIND_ABOVE" "[I") .int) (by decide +kernel)) (va_eqt (hfl (Cond.eq (.length (.static "NoZeroWithin" "KIND_ABOVE" "[I")) (.int (Int32.ofNat 6))) (by decide +kernel)))
    (fun j hj => va_eqt (hfl (Cond.eq (.elem (.static "NoZeroWithin" "KIND_ABOVE" "[I") (.int (Int32.ofNat j))) (.int (mc_ka.getD j 0))) ((show ∀ j, j < 6 → (Cond.eq (.elem (.static "NoZeroWithin" "KIND_ABOVE" "[I") (.int (Int32.ofNat j))) (.int (mc_ka.getD j 0))) ∈ flatC (Jvm.Cond.and given_1 narrow_1) by decide +kernel) j hj))) hA
  have hZK := va_Zof (A := fun q => s.heap.size ≤ q) (hts _ tw_lsK) (hts _ tw_inK) hkK hA
  obtain ⟨fF, hF⟩ : ∃ t : Nat, va_Z "jdk/internal/util/Preconditions" "SIOOBE_FORMATTER" "Ljava/util/function/BiFunction;" .null (fun q => s.heap.size ≤ q) s s.heap ∨ va_Z "jdk/internal/util/Preconditions" "SIOOBE_FORMATTER" "Ljava/util/function/BiFunction;" (.ref t) (fun q => s.heap.size ≤ q) s s.heap := by
    rcases hZF with h | ⟨t, h⟩
    · exact ⟨0, Or.inl h⟩
    · exact ⟨t, Or.inr h⟩
  let old : Nat → Nat := fun i => if i = 0 then kK else if i = 200 then fF else if i = 300 then b else if i < 101 then adK (i - 1) else adV (i - 101)
  have o0 : old 0 = kK := rfl
  have o2 : old 200 = fF := rfl
  have o3 : old 300 = b := rfl
  have oK : ∀ i, i < 12 → old (1 + i) = adK i := fun i hi => by
    show (if 1 + i = 0 then _ else if 1 + i = 200 then _ else if 1 + i = 300 then _ else if 1 + i < 101 then adK (1 + i - 1) else _) = _
    rw [if_neg (by omega), if_neg (by omega), if_neg (by omega), if_pos (by omega), Nat.add_sub_cancel_left]
  have oV : ∀ i, i < 12 → old (101 + i) = adV i := fun i hi => by
    show (if 101 + i = 0 then _ else if 101 + i = 200 then _ else if 101 + i = 300 then _ else if 101 + i < 101 then _ else adV (101 + i - 101)) = _
    rw [if_neg (by omega), if_neg (by omega), if_neg (by omega), if_neg (by omega), Nat.add_sub_cancel_left]
  refine ⟨(s.heap.size, (dC, dI), fun k => match k with | 0 => aI | 1 => a5 | _ => a3, old), rfl, rfl, ⟨hKc, fun k q hq => ?_⟩, Nat.le_refl _, hZK, hTK, hZC, ?_, ?_, fun i hi q hq => ?_, fun q hq => ?_, hts _ tw_ao5, hts _ tw_ao3⟩
  · match k, hq with
    | 0, hq => cases hq; exact ⟨tw_arr hI2 hI3, hI1⟩
    | 1, hq => cases hq; exact ⟨tw_arr h53 h54, k5, p5, h53, h54, h51, h55⟩
    | 2, hq => cases hq; exact ⟨tw_arr h33 h34, k3, p3, h33, h34, h31, h35⟩
    | k + 3, hq => simp [mc_tys] at hq
  · exact hF
  · refine ⟨fun i hi => ?_, fun i j hi hj e => ?_⟩
    · show va_O "java/lang/String" (old (1 + i)) _ _ _ ∧ va_OF "java/lang/String" "coder" "B" (.int 0) (old (1 + i)) _ _ _ ∧ va_OF "java/lang/String" "value" "[B" (.ref (old (101 + i))) (old (1 + i)) _ _ _ ∧ va_T .byte (old (101 + i)) _ _ _ _ _
      rw [oK i hi, oV i hi]
      exact hS.1 i hi
    · have e : old (1 + i) = old (1 + j) := e
      rw [oK i hi, oK j hj] at e
      exact hS.2 i j hi hj e
  · show vk_R "NoZeroWithin$Tape" q.1 q.2 (old (1 + i)) s
    rw [oK i hi]
    have he := hSe i hi
    have hst : (Cond.stringRef "NoZeroWithin$Tape" q.1 q.2).before #[Value.ref b] s = true := by
      match i, hi, hq with
      | 0, _, hq => cases hq; exact hts _ tw_st0
      | 1, _, hq => cases hq; exact hts _ tw_st1
      | 2, _, hq => cases hq; exact hts _ tw_st2
      | 3, _, hq => cases hq; exact hts _ tw_st3
      | 4, _, hq => cases hq; exact hts _ tw_st4
      | 5, _, hq => cases hq; exact hts _ tw_st5
      | 6, _, hq => cases hq; exact hts _ tw_st6
      | 7, _, hq => cases hq; exact hts _ tw_st7
      | 8, _, hq => cases hq; exact hts _ tw_st8
      | 9, _, hq => cases hq; exact hts _ tw_st9
      | 10, _, hq => cases hq; exact hts _ tw_st10
      | 11, _, hq => cases hq; exact hts _ tw_st11
      | i + 12, hi, _ => omega
    have hev : (Term.string "NoZeroWithin$Tape" q.1).eval #[Value.ref b] s none [] s = some (.ref (adK i)) := by
      have e : tw_tm i = .string "NoZeroWithin$Tape" q.1 := by
        unfold tw_tm
        rw [List.getD_eq_getElem?_getD, hq]
        rfl
      rw [← e]; exact he
    exact vk_R.of hst hev
  · rcases List.mem_cons.mp hq with rfl | hq
    · exact va_Nw.of rfl (hts _ tw_ne1)
    · rcases List.mem_cons.mp hq with rfl | hq
      · exact va_Nw.of rfl (hts _ tw_ne2)
      · rcases List.mem_cons.mp hq with rfl | hq
        · exact va_Nw.of rfl (hts _ tw_ne0)
        · cases hq
/-- what is known of the script at the start; the end that the law owes -/
def mc_TL (L : Nat) (xs : Nat → Int32) (g : mc_G) (s : State) (args : Array Value) : Prop := g.1 = s.heap.size ∧ args = #[Value.ref (g.2.2.2 300)] ∧ va_X (g.2.2.2 300) L xs s s.heap ∧ g.2.2.2 300 < s.heap.size
def mc_JL (L : Nat) (xs : Nat → Int32) : mc_J := (ret, false, room_1, fun _ s below args => lw_Z below args s, mc_TL L xs)
section LawRules
variable {pc : Nat} {Ls : List (Option Value)} {st : List Value} {w : mc_W} {kc ks N : Nat} {xs : Nat → Int32}
theorem e_lawret (hd : decode code pc = .ok (.ireturn, 1)) (hk : kc ≤ 600000) (hs : ks ≤ 7302250) : mc_E R_law code 4 (mc_JL N xs) pc Ls [.int 1] w kc ks := by
  intro p l e s m args below meth c H locs ls g X G R T hl
  obtain ⟨h1, rfl, -, -⟩ := T
  refine W.widen hk hs (va_forget (fun q hq => ?_) ?_)
  · have := R.2.2.1.2.2 q hq
    have : g.1 ≤ q.base := this
    omega
  · exact lw_ret X.1 X.2.1 X.2.2.2.2.2.1 X.2.2.2.2.2.2.1 hd
theorem e_slen (hd : decode code pc = .ok (.arraylength, 1)) (kk : mc_E R_law code 4 (mc_JL N xs) (pc + 1) Ls (.int (nI N) :: st) w kc ks) : mc_E R_law code 4 (mc_JL N xs) pc Ls (.ref 1000300 :: st) w kc ks := by
  intro p l e s m args below meth c H locs ls g X G R T hl
  have K := kk p l e s m args below meth c H locs ls g X G R T hl
  obtain ⟨h1, h2, h3, h4⟩ := T
  show W _ _ _ _ _ _ _ _ _ _ _ _ _ _ _ (F0 m pc ls (.ref (mc_ra g (1000000 + 300)) :: st.map (mc_vm g)))
  rw [mc_ra_old]
  exact va_slen X.1 X.2.1 h3 h4 (by unfold mc_A; omega) R.2.2.1 hd K
theorem e_sld {i x : Int32} (hd : decode code pc = .ok (.iaload, 1)) (hi : vp_in i N) (hx : xs i.toNatClampNeg = x) (kk : mc_E R_law code 4 (mc_JL N xs) (pc + 1) Ls (.int x :: st) w kc ks) : mc_E R_law code 4 (mc_JL N xs) pc Ls (.int i :: .ref 1000300 :: st) w kc ks := by
  intro p l e s m args below meth c H locs ls g X G R T hl
  subst hx
  have K := kk p l e s m args below meth c H locs ls g X G R T hl
  obtain ⟨h1, h2, h3, h4⟩ := T
  show W _ _ _ _ _ _ _ _ _ _ _ _ _ _ _ (F0 m pc ls (.int i :: .ref (mc_ra g (1000000 + 300)) :: st.map (mc_vm g)))
  rw [mc_ra_old]
  exact va_sld X.1 X.2.1 h3 h4 (by unfold mc_A; omega) R.2.2.1 hi hd K
end LawRules
theorem law_of {p : Program} {e : Env} {s : State} {m : MethodId} {below : List Frame} {meth : Method} {c : Code} (l : Launch) {b L : Nat} {xs : Nat → Int32} (C0 : lw_At p s m meth c b L xs) (k : mc_E R_law code 4 (mc_JL L xs) 0 [some (.ref 1000300), none, none, none] [] [] 0 0) : W p l e room_1 s m #[Value.ref b] below meth c s.heap [] 0 0 (lw_Z below #[Value.ref b] s) (entryFrame m ([Value.ref b] : List Value).toArray 4) := by
  obtain ⟨hx, hb, hr, hml, hown, hts, hX, hbl, hlocks, hgv⟩ := id C0
  obtain ⟨g, g1, g2, G⟩ := mc_enter hts hgv
  have hl := lv_entry ([.ref b]) (n := 4) (Nat.le_of_ble_eq_true rfl)
  rw [lg_entry_eq]
  generalize (lg_sl ([.ref b]) ++ List.replicate (4 - (lg_sl ([.ref b])).length) Slot.unset).toArray = ls at hl ⊢
  have hl : lv_has ls 4 [(0, .ref b)] := hl
  have hra : mc_ra g 1000300 = b := (mc_ra_old g 300).trans g2
  refine k p l e s m #[Value.ref b] below meth c s.heap [] ls g ⟨hx, hb, hml, hown, fun w hw => hts w (mc_WS_ok w hw).1, hr, hlocks, fun h => by cases h⟩ G ⟨?_, fun k q h => by simp [mc_rl] at h, va_S.rf, Nat.zero_le _⟩ ⟨g1, by rw [g2], by rw [g2]; exact hX, by rw [g2]; exact hbl⟩ ?_
  · rw [g1]; rfl
  · show lv_has ls 4 [(0, mc_vm g (.ref 1000300))]
    show lv_has ls 4 [(0, .ref (mc_ra g 1000300))]
    rw [hra]; exact hl
end Zj_53_law
section Zj_53a_dL_0
abbrev cL_law : ByteArray := code
def zw_cL_law_0 : List UInt8 := [187, 0, 7, 89, 183, 0, 9, 76, 187, 0, 10, 89, 183, 0, 12, 77, 3, 62, 29, 42]
def zw_cL_law_1 : List UInt8 := [3, 62, 29, 42, 190, 16, 7, 100, 163, 6, 210, 42, 29, 46, 16, 63, 126, 170, 0, 0]
def zw_cL_law_2 : List UInt8 := [126, 170, 0, 0, 0, 0, 6, 195, 0, 0, 0, 0, 0, 0, 0, 41, 0, 0, 0, 183]
def zw_cL_law_3 : List UInt8 := [0, 0, 0, 183, 0, 0, 0, 206, 0, 0, 0, 239, 0, 0, 1, 58, 0, 0, 1, 71]
def zw_cL_law_4 : List UInt8 := [0, 0, 1, 71, 0, 0, 1, 94, 0, 0, 1, 147, 0, 0, 1, 180, 0, 0, 1, 213]
def zw_cL_law_5 : List UInt8 := [0, 0, 1, 213, 0, 0, 2, 0, 0, 0, 2, 33, 0, 0, 2, 66, 0, 0, 2, 109]
def zw_cL_law_6 : List UInt8 := [0, 0, 2, 109, 0, 0, 2, 152, 0, 0, 2, 195, 0, 0, 2, 228, 0, 0, 3, 15]
def zw_cL_law_7 : List UInt8 := [0, 0, 3, 15, 0, 0, 3, 58, 0, 0, 3, 91, 0, 0, 3, 134, 0, 0, 3, 177]
def zw_cL_law_8 : List UInt8 := [0, 0, 3, 177, 0, 0, 3, 210, 0, 0, 3, 253, 0, 0, 4, 10, 0, 0, 4, 23]
def zw_cL_law_9 : List UInt8 := [0, 0, 4, 23, 0, 0, 4, 46, 0, 0, 4, 79, 0, 0, 4, 112, 0, 0, 4, 155]
def zw_cL_law_10 : List UInt8 := [0, 0, 4, 155, 0, 0, 4, 188, 0, 0, 4, 231, 0, 0, 4, 254, 0, 0, 5, 31]
def zw_cL_law_11 : List UInt8 := [0, 0, 5, 31, 0, 0, 5, 84, 0, 0, 5, 127, 0, 0, 5, 190, 0, 0, 5, 203]
def zw_cL_law_12 : List UInt8 := [0, 0, 5, 203, 0, 0, 5, 216, 0, 0, 6, 3, 0, 0, 6, 46, 0, 0, 6, 109]
def zw_cL_law_13 : List UInt8 := [0, 0, 6, 109, 0, 0, 6, 162, 43, 42, 29, 4, 96, 46, 182, 0, 13, 87, 44, 42]
def zw_cL_law_14 : List UInt8 := [13, 87, 44, 42, 29, 4, 96, 46, 182, 0, 17, 87, 167, 5, 248, 43, 42, 29, 4, 96]
def zw_cL_law_15 : List UInt8 := [42, 29, 4, 96, 46, 42, 29, 5, 96, 46, 182, 0, 18, 87, 44, 42, 29, 4, 96, 46]
def zw_cL_law_16 : List UInt8 := [29, 4, 96, 46, 42, 29, 5, 96, 46, 182, 0, 22, 87, 167, 5, 215, 43, 42, 29, 4]
def zw_cL_law_17 : List UInt8 := [43, 42, 29, 4, 96, 46, 42, 29, 5, 96, 46, 42, 29, 6, 96, 46, 42, 29, 7, 96]
def zw_cL_law_18 : List UInt8 := [42, 29, 7, 96, 46, 42, 29, 8, 96, 46, 42, 29, 16, 6, 96, 46, 182, 0, 23, 87]
def zw_cL_law_19 : List UInt8 := [182, 0, 23, 87, 44, 42, 29, 4, 96, 46, 42, 29, 5, 96, 46, 42, 29, 6, 96, 46]
def zw_cL_law_20 : List UInt8 := [29, 6, 96, 46, 42, 29, 7, 96, 46, 42, 29, 8, 96, 46, 42, 29, 16, 6, 96, 46]
def zw_cL_law_21 : List UInt8 := [16, 6, 96, 46, 182, 0, 27, 87, 167, 5, 140, 43, 182, 0, 28, 87, 44, 182, 0, 32]
def zw_cL_law_22 : List UInt8 := [44, 182, 0, 32, 87, 167, 5, 127, 43, 42, 29, 4, 96, 46, 182, 0, 33, 87, 44, 42]
def zw_cL_law_23 : List UInt8 := [33, 87, 44, 42, 29, 4, 96, 46, 182, 0, 36, 87, 167, 5, 104, 43, 42, 29, 4, 96]
def zw_cL_law_24 : List UInt8 := [42, 29, 4, 96, 46, 42, 29, 5, 96, 46, 42, 29, 6, 96, 46, 42, 29, 7, 96, 46]
def zw_cL_law_25 : List UInt8 := [29, 7, 96, 46, 182, 0, 37, 87, 44, 42, 29, 4, 96, 46, 42, 29, 5, 96, 46, 42]
def zw_cL_law_26 : List UInt8 := [5, 96, 46, 42, 29, 6, 96, 46, 42, 29, 7, 96, 46, 182, 0, 41, 87, 167, 5, 51]
def zw_cL_law_27 : List UInt8 := [87, 167, 5, 51, 43, 42, 29, 4, 96, 46, 42, 29, 5, 96, 46, 182, 0, 42, 87, 44]
def zw_cL_law_28 : List UInt8 := [0, 42, 87, 44, 42, 29, 4, 96, 46, 42, 29, 5, 96, 46, 182, 0, 45, 87, 167, 5]
def zw_cL_law_29 : List UInt8 := [45, 87, 167, 5, 18, 43, 42, 29, 4, 96, 46, 42, 29, 5, 96, 46, 182, 0, 46, 87]
def zw_cL_law_30 : List UInt8 := [182, 0, 46, 87, 44, 42, 29, 4, 96, 46, 42, 29, 5, 96, 46, 182, 0, 49, 87, 167]
def zw_cL_law_31 : List UInt8 := [0, 49, 87, 167, 4, 241, 43, 42, 29, 4, 96, 46, 42, 29, 5, 96, 46, 42, 29, 6]
def zw_cL_law_32 : List UInt8 := [46, 42, 29, 6, 96, 46, 182, 0, 50, 87, 44, 42, 29, 4, 96, 46, 42, 29, 5, 96]
def zw_cL_law_33 : List UInt8 := [42, 29, 5, 96, 46, 42, 29, 6, 96, 46, 182, 0, 54, 87, 167, 4, 198, 43, 42, 29]
def zw_cL_law_34 : List UInt8 := [198, 43, 42, 29, 4, 96, 46, 42, 29, 5, 96, 46, 182, 0, 55, 88, 44, 42, 29, 4]
def zw_cL_law_35 : List UInt8 := [44, 42, 29, 4, 96, 46, 42, 29, 5, 96, 46, 182, 0, 59, 88, 167, 4, 165, 43, 42]
def zw_cL_law_36 : List UInt8 := [4, 165, 43, 42, 29, 4, 96, 46, 42, 29, 5, 96, 46, 182, 0, 60, 88, 44, 42, 29]
def zw_cL_law_37 : List UInt8 := [88, 44, 42, 29, 4, 96, 46, 42, 29, 5, 96, 46, 182, 0, 63, 88, 167, 4, 132, 43]
def zw_cL_law_38 : List UInt8 := [167, 4, 132, 43, 42, 29, 4, 96, 46, 42, 29, 5, 96, 46, 42, 29, 6, 96, 46, 182]
def zw_cL_law_39 : List UInt8 := [6, 96, 46, 182, 0, 64, 88, 44, 42, 29, 4, 96, 46, 42, 29, 5, 96, 46, 42, 29]
def zw_cL_law_40 : List UInt8 := [96, 46, 42, 29, 6, 96, 46, 182, 0, 68, 88, 167, 4, 89, 43, 42, 29, 4, 96, 46]
def zw_cL_law_41 : List UInt8 := [29, 4, 96, 46, 42, 29, 5, 96, 46, 42, 29, 6, 96, 46, 182, 0, 69, 87, 44, 42]
def zw_cL_law_42 : List UInt8 := [69, 87, 44, 42, 29, 4, 96, 46, 42, 29, 5, 96, 46, 42, 29, 6, 96, 46, 182, 0]
def zw_cL_law_43 : List UInt8 := [96, 46, 182, 0, 72, 87, 167, 4, 46, 43, 42, 29, 4, 96, 46, 42, 29, 5, 96, 46]
def zw_cL_law_44 : List UInt8 := [29, 5, 96, 46, 42, 29, 6, 96, 46, 182, 0, 73, 88, 44, 42, 29, 4, 96, 46, 42]
def zw_cL_law_45 : List UInt8 := [4, 96, 46, 42, 29, 5, 96, 46, 42, 29, 6, 96, 46, 182, 0, 76, 88, 167, 4, 3]
def zw_cL_law_46 : List UInt8 := [88, 167, 4, 3, 43, 42, 29, 4, 96, 46, 42, 29, 5, 96, 46, 182, 0, 77, 88, 44]
def zw_cL_law_47 : List UInt8 := [0, 77, 88, 44, 42, 29, 4, 96, 46, 42, 29, 5, 96, 46, 182, 0, 80, 88, 167, 3]
def zw_cL_law_48 : List UInt8 := [80, 88, 167, 3, 226, 43, 42, 29, 4, 96, 46, 42, 29, 5, 96, 46, 42, 29, 6, 96]
def zw_cL_law_49 : List UInt8 := [42, 29, 6, 96, 46, 182, 0, 81, 88, 44, 42, 29, 4, 96, 46, 42, 29, 5, 96, 46]
def zw_cL_law_50 : List UInt8 := [29, 5, 96, 46, 42, 29, 6, 96, 46, 182, 0, 84, 88, 167, 3, 183, 43, 42, 29, 4]
def zw_cL_law_51 : List UInt8 := [43, 42, 29, 4, 96, 46, 42, 29, 5, 96, 46, 42, 29, 6, 96, 46, 182, 0, 85, 88]
def zw_cL_law_52 : List UInt8 := [182, 0, 85, 88, 44, 42, 29, 4, 96, 46, 42, 29, 5, 96, 46, 42, 29, 6, 96, 46]
def zw_cL_law_53 : List UInt8 := [29, 6, 96, 46, 182, 0, 88, 88, 167, 3, 140, 43, 42, 29, 4, 96, 46, 42, 29, 5]
def zw_cL_law_54 : List UInt8 := [46, 42, 29, 5, 96, 46, 182, 0, 89, 88, 44, 42, 29, 4, 96, 46, 42, 29, 5, 96]
def zw_cL_law_55 : List UInt8 := [42, 29, 5, 96, 46, 182, 0, 92, 88, 167, 3, 107, 43, 42, 29, 4, 96, 46, 42, 29]
def zw_cL_law_56 : List UInt8 := [96, 46, 42, 29, 5, 96, 46, 42, 29, 6, 96, 46, 182, 0, 93, 87, 44, 42, 29, 4]
def zw_cL_law_57 : List UInt8 := [44, 42, 29, 4, 96, 46, 42, 29, 5, 96, 46, 42, 29, 6, 96, 46, 182, 0, 96, 87]
def zw_cL_law_58 : List UInt8 := [182, 0, 96, 87, 167, 3, 64, 43, 42, 29, 4, 96, 46, 42, 29, 5, 96, 46, 42, 29]
def zw_cL_law_59 : List UInt8 := [96, 46, 42, 29, 6, 96, 46, 182, 0, 97, 87, 44, 42, 29, 4, 96, 46, 42, 29, 5]
def zw_cL_law_60 : List UInt8 := [46, 42, 29, 5, 96, 46, 42, 29, 6, 96, 46, 182, 0, 100, 87, 167, 3, 21, 43, 42]
def zw_cL_law_61 : List UInt8 := [3, 21, 43, 42, 29, 4, 96, 46, 42, 29, 5, 96, 46, 182, 0, 101, 87, 44, 42, 29]
def zw_cL_law_62 : List UInt8 := [87, 44, 42, 29, 4, 96, 46, 42, 29, 5, 96, 46, 182, 0, 104, 87, 167, 2, 244, 43]
def zw_cL_law_63 : List UInt8 := [167, 2, 244, 43, 42, 29, 4, 96, 46, 42, 29, 5, 96, 46, 42, 29, 6, 96, 46, 182]
def zw_cL_law_64 : List UInt8 := [6, 96, 46, 182, 0, 105, 87, 44, 42, 29, 4, 96, 46, 42, 29, 5, 96, 46, 42, 29]
def zw_cL_law_65 : List UInt8 := [96, 46, 42, 29, 6, 96, 46, 182, 0, 108, 87, 167, 2, 201, 43, 182, 0, 109, 87, 44]
def zw_cL_law_66 : List UInt8 := [0, 109, 87, 44, 182, 0, 112, 87, 167, 2, 188, 43, 182, 0, 113, 87, 44, 182, 0, 116]
def zw_cL_law_67 : List UInt8 := [44, 182, 0, 116, 87, 167, 2, 175, 43, 42, 29, 4, 96, 46, 182, 0, 117, 87, 44, 42]
def zw_cL_law_68 : List UInt8 := [117, 87, 44, 42, 29, 4, 96, 46, 182, 0, 120, 87, 167, 2, 152, 43, 42, 29, 4, 96]
def zw_cL_law_69 : List UInt8 := [42, 29, 4, 96, 46, 42, 29, 5, 96, 46, 182, 0, 121, 87, 44, 42, 29, 4, 96, 46]
def zw_cL_law_70 : List UInt8 := [29, 4, 96, 46, 42, 29, 5, 96, 46, 182, 0, 124, 87, 167, 2, 119, 43, 42, 29, 4]
def zw_cL_law_71 : List UInt8 := [43, 42, 29, 4, 96, 46, 42, 29, 5, 96, 46, 182, 0, 125, 87, 44, 42, 29, 4, 96]
def zw_cL_law_72 : List UInt8 := [42, 29, 4, 96, 46, 42, 29, 5, 96, 46, 182, 0, 128, 87, 167, 2, 86, 43, 42, 29]
def zw_cL_law_73 : List UInt8 := [86, 43, 42, 29, 4, 96, 46, 42, 29, 5, 96, 46, 42, 29, 6, 96, 46, 182, 0, 129]
def zw_cL_law_74 : List UInt8 := [46, 182, 0, 129, 87, 44, 42, 29, 4, 96, 46, 42, 29, 5, 96, 46, 42, 29, 6, 96]
def zw_cL_law_75 : List UInt8 := [42, 29, 6, 96, 46, 182, 0, 132, 87, 167, 2, 43, 43, 42, 29, 4, 96, 46, 42, 29]
def zw_cL_law_76 : List UInt8 := [96, 46, 42, 29, 5, 96, 46, 182, 0, 133, 87, 44, 42, 29, 4, 96, 46, 42, 29, 5]
def zw_cL_law_77 : List UInt8 := [46, 42, 29, 5, 96, 46, 182, 0, 136, 87, 167, 2, 10, 43, 42, 29, 4, 96, 46, 42]
def zw_cL_law_78 : List UInt8 := [4, 96, 46, 42, 29, 5, 96, 46, 42, 29, 6, 96, 46, 182, 0, 137, 87, 44, 42, 29]
def zw_cL_law_79 : List UInt8 := [87, 44, 42, 29, 4, 96, 46, 42, 29, 5, 96, 46, 42, 29, 6, 96, 46, 182, 0, 140]
def zw_cL_law_80 : List UInt8 := [46, 182, 0, 140, 87, 167, 1, 223, 43, 42, 29, 4, 96, 46, 182, 0, 141, 87, 44, 42]
def zw_cL_law_81 : List UInt8 := [141, 87, 44, 42, 29, 4, 96, 46, 182, 0, 144, 87, 167, 1, 200, 43, 42, 29, 4, 96]
def zw_cL_law_82 : List UInt8 := [42, 29, 4, 96, 46, 42, 29, 5, 96, 46, 182, 0, 145, 87, 44, 42, 29, 4, 96, 46]
def zw_cL_law_83 : List UInt8 := [29, 4, 96, 46, 42, 29, 5, 96, 46, 182, 0, 148, 87, 167, 1, 167, 43, 42, 29, 4]
def zw_cL_law_84 : List UInt8 := [43, 42, 29, 4, 96, 46, 42, 29, 5, 96, 46, 42, 29, 6, 96, 46, 42, 29, 7, 96]
def zw_cL_law_85 : List UInt8 := [42, 29, 7, 96, 46, 182, 0, 149, 87, 44, 42, 29, 4, 96, 46, 42, 29, 5, 96, 46]
def zw_cL_law_86 : List UInt8 := [29, 5, 96, 46, 42, 29, 6, 96, 46, 42, 29, 7, 96, 46, 182, 0, 152, 87, 167, 1]
def zw_cL_law_87 : List UInt8 := [152, 87, 167, 1, 114, 43, 42, 29, 4, 96, 46, 42, 29, 5, 96, 46, 42, 29, 6, 96]
def zw_cL_law_88 : List UInt8 := [42, 29, 6, 96, 46, 182, 0, 153, 88, 44, 42, 29, 4, 96, 46, 42, 29, 5, 96, 46]
def zw_cL_law_89 : List UInt8 := [29, 5, 96, 46, 42, 29, 6, 96, 46, 182, 0, 156, 88, 167, 1, 71, 43, 42, 29, 4]
def zw_cL_law_90 : List UInt8 := [43, 42, 29, 4, 96, 46, 42, 29, 5, 96, 46, 42, 29, 6, 96, 46, 42, 29, 7, 96]
def zw_cL_law_91 : List UInt8 := [42, 29, 7, 96, 46, 42, 29, 8, 96, 46, 182, 0, 157, 88, 44, 42, 29, 4, 96, 46]
def zw_cL_law_92 : List UInt8 := [29, 4, 96, 46, 42, 29, 5, 96, 46, 42, 29, 6, 96, 46, 42, 29, 7, 96, 46, 42]
def zw_cL_law_93 : List UInt8 := [7, 96, 46, 42, 29, 8, 96, 46, 182, 0, 161, 88, 167, 1, 8, 43, 182, 0, 162, 87]
def zw_cL_law_94 : List UInt8 := [182, 0, 162, 87, 44, 182, 0, 165, 87, 167, 0, 251, 43, 182, 0, 166, 87, 44, 182, 0]
def zw_cL_law_95 : List UInt8 := [87, 44, 182, 0, 169, 87, 167, 0, 238, 43, 42, 29, 4, 96, 46, 42, 29, 5, 96, 46]
def zw_cL_law_96 : List UInt8 := [29, 5, 96, 46, 42, 29, 6, 96, 46, 182, 0, 170, 87, 44, 42, 29, 4, 96, 46, 42]
def zw_cL_law_97 : List UInt8 := [4, 96, 46, 42, 29, 5, 96, 46, 42, 29, 6, 96, 46, 182, 0, 173, 87, 167, 0, 195]
def zw_cL_law_98 : List UInt8 := [87, 167, 0, 195, 43, 42, 29, 4, 96, 46, 42, 29, 5, 96, 46, 42, 29, 6, 96, 46]
def zw_cL_law_99 : List UInt8 := [29, 6, 96, 46, 182, 0, 174, 87, 44, 42, 29, 4, 96, 46, 42, 29, 5, 96, 46, 42]
def zw_cL_law_100 : List UInt8 := [5, 96, 46, 42, 29, 6, 96, 46, 182, 0, 177, 87, 167, 0, 152, 43, 42, 29, 4, 96]
def zw_cL_law_101 : List UInt8 := [42, 29, 4, 96, 46, 42, 29, 5, 96, 46, 42, 29, 6, 96, 46, 42, 29, 7, 96, 46]
def zw_cL_law_102 : List UInt8 := [29, 7, 96, 46, 42, 29, 8, 96, 46, 182, 0, 178, 87, 44, 42, 29, 4, 96, 46, 42]
def zw_cL_law_103 : List UInt8 := [4, 96, 46, 42, 29, 5, 96, 46, 42, 29, 6, 96, 46, 42, 29, 7, 96, 46, 42, 29]
def zw_cL_law_104 : List UInt8 := [96, 46, 42, 29, 8, 96, 46, 182, 0, 182, 87, 167, 0, 89, 43, 42, 29, 4, 96, 46]
def zw_cL_law_105 : List UInt8 := [29, 4, 96, 46, 42, 29, 5, 96, 46, 42, 29, 6, 96, 46, 42, 29, 7, 96, 46, 182]
def zw_cL_law_106 : List UInt8 := [7, 96, 46, 182, 0, 183, 87, 44, 42, 29, 4, 96, 46, 42, 29, 5, 96, 46, 42, 29]
def zw_cL_law_107 : List UInt8 := [96, 46, 42, 29, 6, 96, 46, 42, 29, 7, 96, 46, 182, 0, 186, 87, 167, 0, 36, 43]
def zw_cL_law_108 : List UInt8 := [167, 0, 36, 43, 42, 29, 4, 96, 46, 42, 29, 5, 96, 46, 182, 0, 187, 44, 42, 29]
def zw_cL_law_109 : List UInt8 := [187, 44, 42, 29, 4, 96, 46, 42, 29, 5, 96, 46, 182, 0, 190, 159, 0, 5, 3, 172]
def zw_cL_law_110 : List UInt8 := [0, 5, 3, 172, 132, 3, 7, 167, 249, 43, 4, 172]
def zw_cL_law : List (List UInt8) := [zw_cL_law_0, zw_cL_law_1, zw_cL_law_2, zw_cL_law_3, zw_cL_law_4, zw_cL_law_5, zw_cL_law_6, zw_cL_law_7, zw_cL_law_8, zw_cL_law_9, zw_cL_law_10, zw_cL_law_11, zw_cL_law_12, zw_cL_law_13, zw_cL_law_14, zw_cL_law_15, zw_cL_law_16, zw_cL_law_17, zw_cL_law_18, zw_cL_law_19, zw_cL_law_20, zw_cL_law_21, zw_cL_law_22, zw_cL_law_23, zw_cL_law_24, zw_cL_law_25, zw_cL_law_26, zw_cL_law_27, zw_cL_law_28, zw_cL_law_29, zw_cL_law_30, zw_cL_law_31, zw_cL_law_32, zw_cL_law_33, zw_cL_law_34, zw_cL_law_35, zw_cL_law_36, zw_cL_law_37, zw_cL_law_38, zw_cL_law_39, zw_cL_law_40, zw_cL_law_41, zw_cL_law_42, zw_cL_law_43, zw_cL_law_44, zw_cL_law_45, zw_cL_law_46, zw_cL_law_47, zw_cL_law_48, zw_cL_law_49, zw_cL_law_50, zw_cL_law_51, zw_cL_law_52, zw_cL_law_53, zw_cL_law_54, zw_cL_law_55, zw_cL_law_56, zw_cL_law_57, zw_cL_law_58, zw_cL_law_59, zw_cL_law_60, zw_cL_law_61, zw_cL_law_62, zw_cL_law_63, zw_cL_law_64, zw_cL_law_65, zw_cL_law_66, zw_cL_law_67, zw_cL_law_68, zw_cL_law_69, zw_cL_law_70, zw_cL_law_71, zw_cL_law_72, zw_cL_law_73, zw_cL_law_74, zw_cL_law_75, zw_cL_law_76, zw_cL_law_77, zw_cL_law_78, zw_cL_law_79, zw_cL_law_80, zw_cL_law_81, zw_cL_law_82, zw_cL_law_83, zw_cL_law_84, zw_cL_law_85, zw_cL_law_86, zw_cL_law_87, zw_cL_law_88, zw_cL_law_89, zw_cL_law_90, zw_cL_law_91, zw_cL_law_92, zw_cL_law_93, zw_cL_law_94, zw_cL_law_95, zw_cL_law_96, zw_cL_law_97, zw_cL_law_98, zw_cL_law_99, zw_cL_law_100, zw_cL_law_101, zw_cL_law_102, zw_cL_law_103, zw_cL_law_104, zw_cL_law_105, zw_cL_law_106, zw_cL_law_107, zw_cL_law_108, zw_cL_law_109, zw_cL_law_110]
theorem zw_cL_law_ok : zwin 111 cL_law.data.toList = zw_cL_law := by decide +kernel
theorem dL_law_0 : decode cL_law 0 = .ok (.new 7, 3) := zr2u zk_187 (x0 := 0) (x1 := 7) (zat_w (k := 0) (p := 0) (w := zw_cL_law_0) zw_cL_law_ok rfl (by decide +kernel)) (by decide +kernel)
theorem dL_law_3 : decode cL_law 3 = .ok (.dup, 1) := zr0 zk_89 (zat_w (k := 0) (p := 3) (w := zw_cL_law_0) zw_cL_law_ok rfl (by decide +kernel))
theorem dL_law_4 : decode cL_law 4 = .ok (.invokespecial 9, 3) := zr2u zk_183 (x0 := 0) (x1 := 9) (zat_w (k := 0) (p := 4) (w := zw_cL_law_0) zw_cL_law_ok rfl (by decide +kernel)) (by decide +kernel)
theorem dL_law_7 : decode cL_law 7 = .ok (.astore_n 1, 1) := zr0 zk_76 (zat_w (k := 0) (p := 7) (w := zw_cL_law_0) zw_cL_law_ok rfl (by decide +kernel))
theorem dL_law_8 : decode cL_law 8 = .ok (.new 10, 3) := zr2u zk_187 (x0 := 0) (x1 := 10) (zat_w (k := 0) (p := 8) (w := zw_cL_law_0) zw_cL_law_ok rfl (by decide +kernel)) (by decide +kernel)
theorem dL_law_11 : decode cL_law 11 = .ok (.dup, 1) := zr0 zk_89 (zat_w (k := 0) (p := 11) (w := zw_cL_law_0) zw_cL_law_ok rfl (by decide +kernel))
theorem dL_law_12 : decode cL_law 12 = .ok (.invokespecial 12, 3) := zr2u zk_183 (x0 := 0) (x1 := 12) (zat_w (k := 0) (p := 12) (w := zw_cL_law_0) zw_cL_law_ok rfl (by decide +kernel)) (by decide +kernel)
theorem dL_law_15 : decode cL_law 15 = .ok (.astore_n 2, 1) := zr0 zk_77 (zat_w (k := 0) (p := 15) (w := zw_cL_law_0) zw_cL_law_ok rfl (by decide +kernel))
theorem dL_law_16 : decode cL_law 16 = .ok (.iconst 0, 1) := zr0 zk_3 (zat_w (k := 1) (p := 0) (w := zw_cL_law_1) zw_cL_law_ok rfl (by decide +kernel))
theorem dL_law_17 : decode cL_law 17 = .ok (.istore_n 3, 1) := zr0 zk_62 (zat_w (k := 1) (p := 1) (w := zw_cL_law_1) zw_cL_law_ok rfl (by decide +kernel))
theorem dL_law_18 : decode cL_law 18 = .ok (.iload_n 3, 1) := zr0 zk_29 (zat_w (k := 1) (p := 2) (w := zw_cL_law_1) zw_cL_law_ok rfl (by decide +kernel))
theorem dL_law_19 : decode cL_law 19 = .ok (.aload_n 0, 1) := zr0 zk_42 (zat_w (k := 1) (p := 3) (w := zw_cL_law_1) zw_cL_law_ok rfl (by decide +kernel))
theorem dL_law_20 : decode cL_law 20 = .ok (.arraylength, 1) := zr0 zk_190 (zat_w (k := 1) (p := 4) (w := zw_cL_law_1) zw_cL_law_ok rfl (by decide +kernel))
theorem dL_law_21 : decode cL_law 21 = .ok (.bipush 7, 2) := zr1s zk_16 (x0 := 7) (zat_w (k := 1) (p := 5) (w := zw_cL_law_1) zw_cL_law_ok rfl (by decide +kernel)) (by decide +kernel)
theorem dL_law_23 : decode cL_law 23 = .ok (.isub, 1) := zr0 zk_100 (zat_w (k := 1) (p := 7) (w := zw_cL_law_1) zw_cL_law_ok rfl (by decide +kernel))
theorem dL_law_24 : decode cL_law 24 = .ok (.if_icmp .gt 1746, 3) := zr2s zk_163 (x0 := 6) (x1 := 210) (zat_w (k := 1) (p := 8) (w := zw_cL_law_1) zw_cL_law_ok rfl (by decide +kernel)) (by decide +kernel)
theorem dL_law_27 : decode cL_law 27 = .ok (.aload_n 0, 1) := zr0 zk_42 (zat_w (k := 1) (p := 11) (w := zw_cL_law_1) zw_cL_law_ok rfl (by decide +kernel))
theorem dL_law_28 : decode cL_law 28 = .ok (.iload_n 3, 1) := zr0 zk_29 (zat_w (k := 1) (p := 12) (w := zw_cL_law_1) zw_cL_law_ok rfl (by decide +kernel))
theorem dL_law_29 : decode cL_law 29 = .ok (.iaload, 1) := zr0 zk_46 (zat_w (k := 1) (p := 13) (w := zw_cL_law_1) zw_cL_law_ok rfl (by decide +kernel))
theorem dL_law_30 : decode cL_law 30 = .ok (.bipush 63, 2) := zr1s zk_16 (x0 := 63) (zat_w (k := 1) (p := 14) (w := zw_cL_law_1) zw_cL_law_ok rfl (by decide +kernel)) (by decide +kernel)
theorem dL_law_32 : decode cL_law 32 = .ok (.iand, 1) := zr0 zk_126 (zat_w (k := 2) (p := 0) (w := zw_cL_law_2) zw_cL_law_ok rfl (by decide +kernel))
theorem dL_law_33 : decode cL_law 33 = .ok (.tableswitch 1731 0 41 #[183, 206, 239, 314, 327, 350, 403, 436, 469, 512, 545, 578, 621, 664, 707, 740, 783, 826, 859, 902, 945, 978, 1021, 1034, 1047, 1070, 1103, 1136, 1179, 1212, 1255, 1278, 1311, 1364, 1407, 1470, 1483, 1496, 1539, 1582, 1645, 1698], 183) := by decide +kernel
theorem dL_law_216 : decode cL_law 216 = .ok (.aload_n 1, 1) := zr0 zk_43 (zat_w (k := 13) (p := 8) (w := zw_cL_law_13) zw_cL_law_ok rfl (by decide +kernel))
theorem dL_law_217 : decode cL_law 217 = .ok (.aload_n 0, 1) := zr0 zk_42 (zat_w (k := 13) (p := 9) (w := zw_cL_law_13) zw_cL_law_ok rfl (by decide +kernel))
theorem dL_law_218 : decode cL_law 218 = .ok (.iload_n 3, 1) := zr0 zk_29 (zat_w (k := 13) (p := 10) (w := zw_cL_law_13) zw_cL_law_ok rfl (by decide +kernel))
theorem dL_law_219 : decode cL_law 219 = .ok (.iconst 1, 1) := zr0 zk_4 (zat_w (k := 13) (p := 11) (w := zw_cL_law_13) zw_cL_law_ok rfl (by decide +kernel))
theorem dL_law_220 : decode cL_law 220 = .ok (.iadd, 1) := zr0 zk_96 (zat_w (k := 13) (p := 12) (w := zw_cL_law_13) zw_cL_law_ok rfl (by decide +kernel))
theorem dL_law_221 : decode cL_law 221 = .ok (.iaload, 1) := zr0 zk_46 (zat_w (k := 13) (p := 13) (w := zw_cL_law_13) zw_cL_law_ok rfl (by decide +kernel))
theorem dL_law_222 : decode cL_law 222 = .ok (.invokevirtual 13, 3) := zr2u zk_182 (x0 := 0) (x1 := 13) (zat_w (k := 13) (p := 14) (w := zw_cL_law_13) zw_cL_law_ok rfl (by decide +kernel)) (by decide +kernel)
theorem dL_law_225 : decode cL_law 225 = .ok (.pop, 1) := zr0 zk_87 (zat_w (k := 14) (p := 1) (w := zw_cL_law_14) zw_cL_law_ok rfl (by decide +kernel))
theorem dL_law_226 : decode cL_law 226 = .ok (.aload_n 2, 1) := zr0 zk_44 (zat_w (k := 14) (p := 2) (w := zw_cL_law_14) zw_cL_law_ok rfl (by decide +kernel))
theorem dL_law_227 : decode cL_law 227 = .ok (.aload_n 0, 1) := zr0 zk_42 (zat_w (k := 14) (p := 3) (w := zw_cL_law_14) zw_cL_law_ok rfl (by decide +kernel))
theorem dL_law_228 : decode cL_law 228 = .ok (.iload_n 3, 1) := zr0 zk_29 (zat_w (k := 14) (p := 4) (w := zw_cL_law_14) zw_cL_law_ok rfl (by decide +kernel))
theorem dL_law_229 : decode cL_law 229 = .ok (.iconst 1, 1) := zr0 zk_4 (zat_w (k := 14) (p := 5) (w := zw_cL_law_14) zw_cL_law_ok rfl (by decide +kernel))
theorem dL_law_230 : decode cL_law 230 = .ok (.iadd, 1) := zr0 zk_96 (zat_w (k := 14) (p := 6) (w := zw_cL_law_14) zw_cL_law_ok rfl (by decide +kernel))
theorem dL_law_231 : decode cL_law 231 = .ok (.iaload, 1) := zr0 zk_46 (zat_w (k := 14) (p := 7) (w := zw_cL_law_14) zw_cL_law_ok rfl (by decide +kernel))
theorem dL_law_232 : decode cL_law 232 = .ok (.invokevirtual 17, 3) := zr2u zk_182 (x0 := 0) (x1 := 17) (zat_w (k := 14) (p := 8) (w := zw_cL_law_14) zw_cL_law_ok rfl (by decide +kernel)) (by decide +kernel)
theorem dL_law_235 : decode cL_law 235 = .ok (.pop, 1) := zr0 zk_87 (zat_w (k := 14) (p := 11) (w := zw_cL_law_14) zw_cL_law_ok rfl (by decide +kernel))
theorem dL_law_236 : decode cL_law 236 = .ok (.goto 1528, 3) := zr2s zk_167 (x0 := 5) (x1 := 248) (zat_w (k := 14) (p := 12) (w := zw_cL_law_14) zw_cL_law_ok rfl (by decide +kernel)) (by decide +kernel)
theorem dL_law_239 : decode cL_law 239 = .ok (.aload_n 1, 1) := zr0 zk_43 (zat_w (k := 14) (p := 15) (w := zw_cL_law_14) zw_cL_law_ok rfl (by decide +kernel))
theorem dL_law_240 : decode cL_law 240 = .ok (.aload_n 0, 1) := zr0 zk_42 (zat_w (k := 15) (p := 0) (w := zw_cL_law_15) zw_cL_law_ok rfl (by decide +kernel))
theorem dL_law_241 : decode cL_law 241 = .ok (.iload_n 3, 1) := zr0 zk_29 (zat_w (k := 15) (p := 1) (w := zw_cL_law_15) zw_cL_law_ok rfl (by decide +kernel))
theorem dL_law_242 : decode cL_law 242 = .ok (.iconst 1, 1) := zr0 zk_4 (zat_w (k := 15) (p := 2) (w := zw_cL_law_15) zw_cL_law_ok rfl (by decide +kernel))
theorem dL_law_243 : decode cL_law 243 = .ok (.iadd, 1) := zr0 zk_96 (zat_w (k := 15) (p := 3) (w := zw_cL_law_15) zw_cL_law_ok rfl (by decide +kernel))
theorem dL_law_244 : decode cL_law 244 = .ok (.iaload, 1) := zr0 zk_46 (zat_w (k := 15) (p := 4) (w := zw_cL_law_15) zw_cL_law_ok rfl (by decide +kernel))
theorem dL_law_245 : decode cL_law 245 = .ok (.aload_n 0, 1) := zr0 zk_42 (zat_w (k := 15) (p := 5) (w := zw_cL_law_15) zw_cL_law_ok rfl (by decide +kernel))
theorem dL_law_246 : decode cL_law 246 = .ok (.iload_n 3, 1) := zr0 zk_29 (zat_w (k := 15) (p := 6) (w := zw_cL_law_15) zw_cL_law_ok rfl (by decide +kernel))
theorem dL_law_247 : decode cL_law 247 = .ok (.iconst 2, 1) := zr0 zk_5 (zat_w (k := 15) (p := 7) (w := zw_cL_law_15) zw_cL_law_ok rfl (by decide +kernel))
theorem dL_law_248 : decode cL_law 248 = .ok (.iadd, 1) := zr0 zk_96 (zat_w (k := 15) (p := 8) (w := zw_cL_law_15) zw_cL_law_ok rfl (by decide +kernel))
theorem dL_law_249 : decode cL_law 249 = .ok (.iaload, 1) := zr0 zk_46 (zat_w (k := 15) (p := 9) (w := zw_cL_law_15) zw_cL_law_ok rfl (by decide +kernel))
theorem dL_law_250 : decode cL_law 250 = .ok (.invokevirtual 18, 3) := zr2u zk_182 (x0 := 0) (x1 := 18) (zat_w (k := 15) (p := 10) (w := zw_cL_law_15) zw_cL_law_ok rfl (by decide +kernel)) (by decide +kernel)
theorem dL_law_253 : decode cL_law 253 = .ok (.pop, 1) := zr0 zk_87 (zat_w (k := 15) (p := 13) (w := zw_cL_law_15) zw_cL_law_ok rfl (by decide +kernel))
theorem dL_law_254 : decode cL_law 254 = .ok (.aload_n 2, 1) := zr0 zk_44 (zat_w (k := 15) (p := 14) (w := zw_cL_law_15) zw_cL_law_ok rfl (by decide +kernel))
theorem dL_law_255 : decode cL_law 255 = .ok (.aload_n 0, 1) := zr0 zk_42 (zat_w (k := 15) (p := 15) (w := zw_cL_law_15) zw_cL_law_ok rfl (by decide +kernel))
theorem dL_law_256 : decode cL_law 256 = .ok (.iload_n 3, 1) := zr0 zk_29 (zat_w (k := 16) (p := 0) (w := zw_cL_law_16) zw_cL_law_ok rfl (by decide +kernel))
theorem dL_law_257 : decode cL_law 257 = .ok (.iconst 1, 1) := zr0 zk_4 (zat_w (k := 16) (p := 1) (w := zw_cL_law_16) zw_cL_law_ok rfl (by decide +kernel))
theorem dL_law_258 : decode cL_law 258 = .ok (.iadd, 1) := zr0 zk_96 (zat_w (k := 16) (p := 2) (w := zw_cL_law_16) zw_cL_law_ok rfl (by decide +kernel))
theorem dL_law_259 : decode cL_law 259 = .ok (.iaload, 1) := zr0 zk_46 (zat_w (k := 16) (p := 3) (w := zw_cL_law_16) zw_cL_law_ok rfl (by decide +kernel))
theorem dL_law_260 : decode cL_law 260 = .ok (.aload_n 0, 1) := zr0 zk_42 (zat_w (k := 16) (p := 4) (w := zw_cL_law_16) zw_cL_law_ok rfl (by decide +kernel))
theorem dL_law_261 : decode cL_law 261 = .ok (.iload_n 3, 1) := zr0 zk_29 (zat_w (k := 16) (p := 5) (w := zw_cL_law_16) zw_cL_law_ok rfl (by decide +kernel))
theorem dL_law_262 : decode cL_law 262 = .ok (.iconst 2, 1) := zr0 zk_5 (zat_w (k := 16) (p := 6) (w := zw_cL_law_16) zw_cL_law_ok rfl (by decide +kernel))
theorem dL_law_263 : decode cL_law 263 = .ok (.iadd, 1) := zr0 zk_96 (zat_w (k := 16) (p := 7) (w := zw_cL_law_16) zw_cL_law_ok rfl (by decide +kernel))
theorem dL_law_264 : decode cL_law 264 = .ok (.iaload, 1) := zr0 zk_46 (zat_w (k := 16) (p := 8) (w := zw_cL_law_16) zw_cL_law_ok rfl (by decide +kernel))
theorem dL_law_265 : decode cL_law 265 = .ok (.invokevirtual 22, 3) := zr2u zk_182 (x0 := 0) (x1 := 22) (zat_w (k := 16) (p := 9) (w := zw_cL_law_16) zw_cL_law_ok rfl (by decide +kernel)) (by decide +kernel)
theorem dL_law_268 : decode cL_law 268 = .ok (.pop, 1) := zr0 zk_87 (zat_w (k := 16) (p := 12) (w := zw_cL_law_16) zw_cL_law_ok rfl (by decide +kernel))
theorem dL_law_269 : decode cL_law 269 = .ok (.goto 1495, 3) := zr2s zk_167 (x0 := 5) (x1 := 215) (zat_w (k := 16) (p := 13) (w := zw_cL_law_16) zw_cL_law_ok rfl (by decide +kernel)) (by decide +kernel)
theorem dL_law_272 : decode cL_law 272 = .ok (.aload_n 1, 1) := zr0 zk_43 (zat_w (k := 17) (p := 0) (w := zw_cL_law_17) zw_cL_law_ok rfl (by decide +kernel))
theorem dL_law_273 : decode cL_law 273 = .ok (.aload_n 0, 1) := zr0 zk_42 (zat_w (k := 17) (p := 1) (w := zw_cL_law_17) zw_cL_law_ok rfl (by decide +kernel))
theorem dL_law_274 : decode cL_law 274 = .ok (.iload_n 3, 1) := zr0 zk_29 (zat_w (k := 17) (p := 2) (w := zw_cL_law_17) zw_cL_law_ok rfl (by decide +kernel))
theorem dL_law_275 : decode cL_law 275 = .ok (.iconst 1, 1) := zr0 zk_4 (zat_w (k := 17) (p := 3) (w := zw_cL_law_17) zw_cL_law_ok rfl (by decide +kernel))
theorem dL_law_276 : decode cL_law 276 = .ok (.iadd, 1) := zr0 zk_96 (zat_w (k := 17) (p := 4) (w := zw_cL_law_17) zw_cL_law_ok rfl (by decide +kernel))
theorem dL_law_277 : decode cL_law 277 = .ok (.iaload, 1) := zr0 zk_46 (zat_w (k := 17) (p := 5) (w := zw_cL_law_17) zw_cL_law_ok rfl (by decide +kernel))
theorem dL_law_278 : decode cL_law 278 = .ok (.aload_n 0, 1) := zr0 zk_42 (zat_w (k := 17) (p := 6) (w := zw_cL_law_17) zw_cL_law_ok rfl (by decide +kernel))
theorem dL_law_279 : decode cL_law 279 = .ok (.iload_n 3, 1) := zr0 zk_29 (zat_w (k := 17) (p := 7) (w := zw_cL_law_17) zw_cL_law_ok rfl (by decide +kernel))
theorem dL_law_280 : decode cL_law 280 = .ok (.iconst 2, 1) := zr0 zk_5 (zat_w (k := 17) (p := 8) (w := zw_cL_law_17) zw_cL_law_ok rfl (by decide +kernel))
theorem dL_law_281 : decode cL_law 281 = .ok (.iadd, 1) := zr0 zk_96 (zat_w (k := 17) (p := 9) (w := zw_cL_law_17) zw_cL_law_ok rfl (by decide +kernel))
theorem dL_law_282 : decode cL_law 282 = .ok (.iaload, 1) := zr0 zk_46 (zat_w (k := 17) (p := 10) (w := zw_cL_law_17) zw_cL_law_ok rfl (by decide +kernel))
theorem dL_law_283 : decode cL_law 283 = .ok (.aload_n 0, 1) := zr0 zk_42 (zat_w (k := 17) (p := 11) (w := zw_cL_law_17) zw_cL_law_ok rfl (by decide +kernel))
theorem dL_law_284 : decode cL_law 284 = .ok (.iload_n 3, 1) := zr0 zk_29 (zat_w (k := 17) (p := 12) (w := zw_cL_law_17) zw_cL_law_ok rfl (by decide +kernel))
theorem dL_law_285 : decode cL_law 285 = .ok (.iconst 3, 1) := zr0 zk_6 (zat_w (k := 17) (p := 13) (w := zw_cL_law_17) zw_cL_law_ok rfl (by decide +kernel))
theorem dL_law_286 : decode cL_law 286 = .ok (.iadd, 1) := zr0 zk_96 (zat_w (k := 17) (p := 14) (w := zw_cL_law_17) zw_cL_law_ok rfl (by decide +kernel))
theorem dL_law_287 : decode cL_law 287 = .ok (.iaload, 1) := zr0 zk_46 (zat_w (k := 17) (p := 15) (w := zw_cL_law_17) zw_cL_law_ok rfl (by decide +kernel))
theorem dL_law_288 : decode cL_law 288 = .ok (.aload_n 0, 1) := zr0 zk_42 (zat_w (k := 18) (p := 0) (w := zw_cL_law_18) zw_cL_law_ok rfl (by decide +kernel))
theorem dL_law_289 : decode cL_law 289 = .ok (.iload_n 3, 1) := zr0 zk_29 (zat_w (k := 18) (p := 1) (w := zw_cL_law_18) zw_cL_law_ok rfl (by decide +kernel))
theorem dL_law_290 : decode cL_law 290 = .ok (.iconst 4, 1) := zr0 zk_7 (zat_w (k := 18) (p := 2) (w := zw_cL_law_18) zw_cL_law_ok rfl (by decide +kernel))
theorem dL_law_291 : decode cL_law 291 = .ok (.iadd, 1) := zr0 zk_96 (zat_w (k := 18) (p := 3) (w := zw_cL_law_18) zw_cL_law_ok rfl (by decide +kernel))
theorem dL_law_292 : decode cL_law 292 = .ok (.iaload, 1) := zr0 zk_46 (zat_w (k := 18) (p := 4) (w := zw_cL_law_18) zw_cL_law_ok rfl (by decide +kernel))
theorem dL_law_293 : decode cL_law 293 = .ok (.aload_n 0, 1) := zr0 zk_42 (zat_w (k := 18) (p := 5) (w := zw_cL_law_18) zw_cL_law_ok rfl (by decide +kernel))
theorem dL_law_294 : decode cL_law 294 = .ok (.iload_n 3, 1) := zr0 zk_29 (zat_w (k := 18) (p := 6) (w := zw_cL_law_18) zw_cL_law_ok rfl (by decide +kernel))
theorem dL_law_295 : decode cL_law 295 = .ok (.iconst 5, 1) := zr0 zk_8 (zat_w (k := 18) (p := 7) (w := zw_cL_law_18) zw_cL_law_ok rfl (by decide +kernel))
theorem dL_law_296 : decode cL_law 296 = .ok (.iadd, 1) := zr0 zk_96 (zat_w (k := 18) (p := 8) (w := zw_cL_law_18) zw_cL_law_ok rfl (by decide +kernel))
theorem dL_law_297 : decode cL_law 297 = .ok (.iaload, 1) := zr0 zk_46 (zat_w (k := 18) (p := 9) (w := zw_cL_law_18) zw_cL_law_ok rfl (by decide +kernel))
theorem dL_law_298 : decode cL_law 298 = .ok (.aload_n 0, 1) := zr0 zk_42 (zat_w (k := 18) (p := 10) (w := zw_cL_law_18) zw_cL_law_ok rfl (by decide +kernel))
theorem dL_law_299 : decode cL_law 299 = .ok (.iload_n 3, 1) := zr0 zk_29 (zat_w (k := 18) (p := 11) (w := zw_cL_law_18) zw_cL_law_ok rfl (by decide +kernel))
theorem dL_law_300 : decode cL_law 300 = .ok (.bipush 6, 2) := zr1s zk_16 (x0 := 6) (zat_w (k := 18) (p := 12) (w := zw_cL_law_18) zw_cL_law_ok rfl (by decide +kernel)) (by decide +kernel)
theorem dL_law_302 : decode cL_law 302 = .ok (.iadd, 1) := zr0 zk_96 (zat_w (k := 18) (p := 14) (w := zw_cL_law_18) zw_cL_law_ok rfl (by decide +kernel))
theorem dL_law_303 : decode cL_law 303 = .ok (.iaload, 1) := zr0 zk_46 (zat_w (k := 18) (p := 15) (w := zw_cL_law_18) zw_cL_law_ok rfl (by decide +kernel))
theorem dL_law_304 : decode cL_law 304 = .ok (.invokevirtual 23, 3) := zr2u zk_182 (x0 := 0) (x1 := 23) (zat_w (k := 19) (p := 0) (w := zw_cL_law_19) zw_cL_law_ok rfl (by decide +kernel)) (by decide +kernel)
theorem dL_law_307 : decode cL_law 307 = .ok (.pop, 1) := zr0 zk_87 (zat_w (k := 19) (p := 3) (w := zw_cL_law_19) zw_cL_law_ok rfl (by decide +kernel))
theorem dL_law_308 : decode cL_law 308 = .ok (.aload_n 2, 1) := zr0 zk_44 (zat_w (k := 19) (p := 4) (w := zw_cL_law_19) zw_cL_law_ok rfl (by decide +kernel))
theorem dL_law_309 : decode cL_law 309 = .ok (.aload_n 0, 1) := zr0 zk_42 (zat_w (k := 19) (p := 5) (w := zw_cL_law_19) zw_cL_law_ok rfl (by decide +kernel))
theorem dL_law_310 : decode cL_law 310 = .ok (.iload_n 3, 1) := zr0 zk_29 (zat_w (k := 19) (p := 6) (w := zw_cL_law_19) zw_cL_law_ok rfl (by decide +kernel))
theorem dL_law_311 : decode cL_law 311 = .ok (.iconst 1, 1) := zr0 zk_4 (zat_w (k := 19) (p := 7) (w := zw_cL_law_19) zw_cL_law_ok rfl (by decide +kernel))
theorem dL_law_312 : decode cL_law 312 = .ok (.iadd, 1) := zr0 zk_96 (zat_w (k := 19) (p := 8) (w := zw_cL_law_19) zw_cL_law_ok rfl (by decide +kernel))
theorem dL_law_313 : decode cL_law 313 = .ok (.iaload, 1) := zr0 zk_46 (zat_w (k := 19) (p := 9) (w := zw_cL_law_19) zw_cL_law_ok rfl (by decide +kernel))
theorem dL_law_314 : decode cL_law 314 = .ok (.aload_n 0, 1) := zr0 zk_42 (zat_w (k := 19) (p := 10) (w := zw_cL_law_19) zw_cL_law_ok rfl (by decide +kernel))
theorem dL_law_315 : decode cL_law 315 = .ok (.iload_n 3, 1) := zr0 zk_29 (zat_w (k := 19) (p := 11) (w := zw_cL_law_19) zw_cL_law_ok rfl (by decide +kernel))
theorem dL_law_316 : decode cL_law 316 = .ok (.iconst 2, 1) := zr0 zk_5 (zat_w (k := 19) (p := 12) (w := zw_cL_law_19) zw_cL_law_ok rfl (by decide +kernel))
theorem dL_law_317 : decode cL_law 317 = .ok (.iadd, 1) := zr0 zk_96 (zat_w (k := 19) (p := 13) (w := zw_cL_law_19) zw_cL_law_ok rfl (by decide +kernel))
theorem dL_law_318 : decode cL_law 318 = .ok (.iaload, 1) := zr0 zk_46 (zat_w (k := 19) (p := 14) (w := zw_cL_law_19) zw_cL_law_ok rfl (by decide +kernel))
theorem dL_law_319 : decode cL_law 319 = .ok (.aload_n 0, 1) := zr0 zk_42 (zat_w (k := 19) (p := 15) (w := zw_cL_law_19) zw_cL_law_ok rfl (by decide +kernel))
theorem dL_law_320 : decode cL_law 320 = .ok (.iload_n 3, 1) := zr0 zk_29 (zat_w (k := 20) (p := 0) (w := zw_cL_law_20) zw_cL_law_ok rfl (by decide +kernel))
theorem dL_law_321 : decode cL_law 321 = .ok (.iconst 3, 1) := zr0 zk_6 (zat_w (k := 20) (p := 1) (w := zw_cL_law_20) zw_cL_law_ok rfl (by decide +kernel))
theorem dL_law_322 : decode cL_law 322 = .ok (.iadd, 1) := zr0 zk_96 (zat_w (k := 20) (p := 2) (w := zw_cL_law_20) zw_cL_law_ok rfl (by decide +kernel))
theorem dL_law_323 : decode cL_law 323 = .ok (.iaload, 1) := zr0 zk_46 (zat_w (k := 20) (p := 3) (w := zw_cL_law_20) zw_cL_law_ok rfl (by decide +kernel))
theorem dL_law_324 : decode cL_law 324 = .ok (.aload_n 0, 1) := zr0 zk_42 (zat_w (k := 20) (p := 4) (w := zw_cL_law_20) zw_cL_law_ok rfl (by decide +kernel))
theorem dL_law_325 : decode cL_law 325 = .ok (.iload_n 3, 1) := zr0 zk_29 (zat_w (k := 20) (p := 5) (w := zw_cL_law_20) zw_cL_law_ok rfl (by decide +kernel))
theorem dL_law_326 : decode cL_law 326 = .ok (.iconst 4, 1) := zr0 zk_7 (zat_w (k := 20) (p := 6) (w := zw_cL_law_20) zw_cL_law_ok rfl (by decide +kernel))
theorem dL_law_327 : decode cL_law 327 = .ok (.iadd, 1) := zr0 zk_96 (zat_w (k := 20) (p := 7) (w := zw_cL_law_20) zw_cL_law_ok rfl (by decide +kernel))
theorem dL_law_328 : decode cL_law 328 = .ok (.iaload, 1) := zr0 zk_46 (zat_w (k := 20) (p := 8) (w := zw_cL_law_20) zw_cL_law_ok rfl (by decide +kernel))
theorem dL_law_329 : decode cL_law 329 = .ok (.aload_n 0, 1) := zr0 zk_42 (zat_w (k := 20) (p := 9) (w := zw_cL_law_20) zw_cL_law_ok rfl (by decide +kernel))
theorem dL_law_330 : decode cL_law 330 = .ok (.iload_n 3, 1) := zr0 zk_29 (zat_w (k := 20) (p := 10) (w := zw_cL_law_20) zw_cL_law_ok rfl (by decide +kernel))
theorem dL_law_331 : decode cL_law 331 = .ok (.iconst 5, 1) := zr0 zk_8 (zat_w (k := 20) (p := 11) (w := zw_cL_law_20) zw_cL_law_ok rfl (by decide +kernel))
theorem dL_law_332 : decode cL_law 332 = .ok (.iadd, 1) := zr0 zk_96 (zat_w (k := 20) (p := 12) (w := zw_cL_law_20) zw_cL_law_ok rfl (by decide +kernel))
theorem dL_law_333 : decode cL_law 333 = .ok (.iaload, 1) := zr0 zk_46 (zat_w (k := 20) (p := 13) (w := zw_cL_law_20) zw_cL_law_ok rfl (by decide +kernel))
theorem dL_law_334 : decode cL_law 334 = .ok (.aload_n 0, 1) := zr0 zk_42 (zat_w (k := 20) (p := 14) (w := zw_cL_law_20) zw_cL_law_ok rfl (by decide +kernel))
theorem dL_law_335 : decode cL_law 335 = .ok (.iload_n 3, 1) := zr0 zk_29 (zat_w (k := 20) (p := 15) (w := zw_cL_law_20) zw_cL_law_ok rfl (by decide +kernel))
theorem dL_law_336 : decode cL_law 336 = .ok (.bipush 6, 2) := zr1s zk_16 (x0 := 6) (zat_w (k := 21) (p := 0) (w := zw_cL_law_21) zw_cL_law_ok rfl (by decide +kernel)) (by decide +kernel)
theorem dL_law_338 : decode cL_law 338 = .ok (.iadd, 1) := zr0 zk_96 (zat_w (k := 21) (p := 2) (w := zw_cL_law_21) zw_cL_law_ok rfl (by decide +kernel))
theorem dL_law_339 : decode cL_law 339 = .ok (.iaload, 1) := zr0 zk_46 (zat_w (k := 21) (p := 3) (w := zw_cL_law_21) zw_cL_law_ok rfl (by decide +kernel))
theorem dL_law_340 : decode cL_law 340 = .ok (.invokevirtual 27, 3) := zr2u zk_182 (x0 := 0) (x1 := 27) (zat_w (k := 21) (p := 4) (w := zw_cL_law_21) zw_cL_law_ok rfl (by decide +kernel)) (by decide +kernel)
theorem dL_law_343 : decode cL_law 343 = .ok (.pop, 1) := zr0 zk_87 (zat_w (k := 21) (p := 7) (w := zw_cL_law_21) zw_cL_law_ok rfl (by decide +kernel))
theorem dL_law_344 : decode cL_law 344 = .ok (.goto 1420, 3) := zr2s zk_167 (x0 := 5) (x1 := 140) (zat_w (k := 21) (p := 8) (w := zw_cL_law_21) zw_cL_law_ok rfl (by decide +kernel)) (by decide +kernel)
theorem dL_law_347 : decode cL_law 347 = .ok (.aload_n 1, 1) := zr0 zk_43 (zat_w (k := 21) (p := 11) (w := zw_cL_law_21) zw_cL_law_ok rfl (by decide +kernel))
theorem dL_law_348 : decode cL_law 348 = .ok (.invokevirtual 28, 3) := zr2u zk_182 (x0 := 0) (x1 := 28) (zat_w (k := 21) (p := 12) (w := zw_cL_law_21) zw_cL_law_ok rfl (by decide +kernel)) (by decide +kernel)
theorem dL_law_351 : decode cL_law 351 = .ok (.pop, 1) := zr0 zk_87 (zat_w (k := 21) (p := 15) (w := zw_cL_law_21) zw_cL_law_ok rfl (by decide +kernel))
theorem dL_law_352 : decode cL_law 352 = .ok (.aload_n 2, 1) := zr0 zk_44 (zat_w (k := 22) (p := 0) (w := zw_cL_law_22) zw_cL_law_ok rfl (by decide +kernel))
theorem dL_law_353 : decode cL_law 353 = .ok (.invokevirtual 32, 3) := zr2u zk_182 (x0 := 0) (x1 := 32) (zat_w (k := 22) (p := 1) (w := zw_cL_law_22) zw_cL_law_ok rfl (by decide +kernel)) (by decide +kernel)
theorem dL_law_356 : decode cL_law 356 = .ok (.pop, 1) := zr0 zk_87 (zat_w (k := 22) (p := 4) (w := zw_cL_law_22) zw_cL_law_ok rfl (by decide +kernel))
theorem dL_law_357 : decode cL_law 357 = .ok (.goto 1407, 3) := zr2s zk_167 (x0 := 5) (x1 := 127) (zat_w (k := 22) (p := 5) (w := zw_cL_law_22) zw_cL_law_ok rfl (by decide +kernel)) (by decide +kernel)
theorem dL_law_360 : decode cL_law 360 = .ok (.aload_n 1, 1) := zr0 zk_43 (zat_w (k := 22) (p := 8) (w := zw_cL_law_22) zw_cL_law_ok rfl (by decide +kernel))
theorem dL_law_361 : decode cL_law 361 = .ok (.aload_n 0, 1) := zr0 zk_42 (zat_w (k := 22) (p := 9) (w := zw_cL_law_22) zw_cL_law_ok rfl (by decide +kernel))
theorem dL_law_362 : decode cL_law 362 = .ok (.iload_n 3, 1) := zr0 zk_29 (zat_w (k := 22) (p := 10) (w := zw_cL_law_22) zw_cL_law_ok rfl (by decide +kernel))
theorem dL_law_363 : decode cL_law 363 = .ok (.iconst 1, 1) := zr0 zk_4 (zat_w (k := 22) (p := 11) (w := zw_cL_law_22) zw_cL_law_ok rfl (by decide +kernel))
theorem dL_law_364 : decode cL_law 364 = .ok (.iadd, 1) := zr0 zk_96 (zat_w (k := 22) (p := 12) (w := zw_cL_law_22) zw_cL_law_ok rfl (by decide +kernel))
theorem dL_law_365 : decode cL_law 365 = .ok (.iaload, 1) := zr0 zk_46 (zat_w (k := 22) (p := 13) (w := zw_cL_law_22) zw_cL_law_ok rfl (by decide +kernel))
theorem dL_law_366 : decode cL_law 366 = .ok (.invokevirtual 33, 3) := zr2u zk_182 (x0 := 0) (x1 := 33) (zat_w (k := 22) (p := 14) (w := zw_cL_law_22) zw_cL_law_ok rfl (by decide +kernel)) (by decide +kernel)
theorem dL_law_369 : decode cL_law 369 = .ok (.pop, 1) := zr0 zk_87 (zat_w (k := 23) (p := 1) (w := zw_cL_law_23) zw_cL_law_ok rfl (by decide +kernel))
theorem dL_law_370 : decode cL_law 370 = .ok (.aload_n 2, 1) := zr0 zk_44 (zat_w (k := 23) (p := 2) (w := zw_cL_law_23) zw_cL_law_ok rfl (by decide +kernel))
theorem dL_law_371 : decode cL_law 371 = .ok (.aload_n 0, 1) := zr0 zk_42 (zat_w (k := 23) (p := 3) (w := zw_cL_law_23) zw_cL_law_ok rfl (by decide +kernel))
theorem dL_law_372 : decode cL_law 372 = .ok (.iload_n 3, 1) := zr0 zk_29 (zat_w (k := 23) (p := 4) (w := zw_cL_law_23) zw_cL_law_ok rfl (by decide +kernel))
theorem dL_law_373 : decode cL_law 373 = .ok (.iconst 1, 1) := zr0 zk_4 (zat_w (k := 23) (p := 5) (w := zw_cL_law_23) zw_cL_law_ok rfl (by decide +kernel))
theorem dL_law_374 : decode cL_law 374 = .ok (.iadd, 1) := zr0 zk_96 (zat_w (k := 23) (p := 6) (w := zw_cL_law_23) zw_cL_law_ok rfl (by decide +kernel))
theorem dL_law_375 : decode cL_law 375 = .ok (.iaload, 1) := zr0 zk_46 (zat_w (k := 23) (p := 7) (w := zw_cL_law_23) zw_cL_law_ok rfl (by decide +kernel))
theorem dL_law_376 : decode cL_law 376 = .ok (.invokevirtual 36, 3) := zr2u zk_182 (x0 := 0) (x1 := 36) (zat_w (k := 23) (p := 8) (w := zw_cL_law_23) zw_cL_law_ok rfl (by decide +kernel)) (by decide +kernel)
theorem dL_law_379 : decode cL_law 379 = .ok (.pop, 1) := zr0 zk_87 (zat_w (k := 23) (p := 11) (w := zw_cL_law_23) zw_cL_law_ok rfl (by decide +kernel))
theorem dL_law_380 : decode cL_law 380 = .ok (.goto 1384, 3) := zr2s zk_167 (x0 := 5) (x1 := 104) (zat_w (k := 23) (p := 12) (w := zw_cL_law_23) zw_cL_law_ok rfl (by decide +kernel)) (by decide +kernel)
theorem dL_law_383 : decode cL_law 383 = .ok (.aload_n 1, 1) := zr0 zk_43 (zat_w (k := 23) (p := 15) (w := zw_cL_law_23) zw_cL_law_ok rfl (by decide +kernel))
theorem dL_law_384 : decode cL_law 384 = .ok (.aload_n 0, 1) := zr0 zk_42 (zat_w (k := 24) (p := 0) (w := zw_cL_law_24) zw_cL_law_ok rfl (by decide +kernel))
theorem dL_law_385 : decode cL_law 385 = .ok (.iload_n 3, 1) := zr0 zk_29 (zat_w (k := 24) (p := 1) (w := zw_cL_law_24) zw_cL_law_ok rfl (by decide +kernel))
theorem dL_law_386 : decode cL_law 386 = .ok (.iconst 1, 1) := zr0 zk_4 (zat_w (k := 24) (p := 2) (w := zw_cL_law_24) zw_cL_law_ok rfl (by decide +kernel))
theorem dL_law_387 : decode cL_law 387 = .ok (.iadd, 1) := zr0 zk_96 (zat_w (k := 24) (p := 3) (w := zw_cL_law_24) zw_cL_law_ok rfl (by decide +kernel))
theorem dL_law_388 : decode cL_law 388 = .ok (.iaload, 1) := zr0 zk_46 (zat_w (k := 24) (p := 4) (w := zw_cL_law_24) zw_cL_law_ok rfl (by decide +kernel))
theorem dL_law_389 : decode cL_law 389 = .ok (.aload_n 0, 1) := zr0 zk_42 (zat_w (k := 24) (p := 5) (w := zw_cL_law_24) zw_cL_law_ok rfl (by decide +kernel))
theorem dL_law_390 : decode cL_law 390 = .ok (.iload_n 3, 1) := zr0 zk_29 (zat_w (k := 24) (p := 6) (w := zw_cL_law_24) zw_cL_law_ok rfl (by decide +kernel))
theorem dL_law_391 : decode cL_law 391 = .ok (.iconst 2, 1) := zr0 zk_5 (zat_w (k := 24) (p := 7) (w := zw_cL_law_24) zw_cL_law_ok rfl (by decide +kernel))
theorem dL_law_392 : decode cL_law 392 = .ok (.iadd, 1) := zr0 zk_96 (zat_w (k := 24) (p := 8) (w := zw_cL_law_24) zw_cL_law_ok rfl (by decide +kernel))
theorem dL_law_393 : decode cL_law 393 = .ok (.iaload, 1) := zr0 zk_46 (zat_w (k := 24) (p := 9) (w := zw_cL_law_24) zw_cL_law_ok rfl (by decide +kernel))
theorem dL_law_394 : decode cL_law 394 = .ok (.aload_n 0, 1) := zr0 zk_42 (zat_w (k := 24) (p := 10) (w := zw_cL_law_24) zw_cL_law_ok rfl (by decide +kernel))
theorem dL_law_395 : decode cL_law 395 = .ok (.iload_n 3, 1) := zr0 zk_29 (zat_w (k := 24) (p := 11) (w := zw_cL_law_24) zw_cL_law_ok rfl (by decide +kernel))
theorem dL_law_396 : decode cL_law 396 = .ok (.iconst 3, 1) := zr0 zk_6 (zat_w (k := 24) (p := 12) (w := zw_cL_law_24) zw_cL_law_ok rfl (by decide +kernel))
theorem dL_law_397 : decode cL_law 397 = .ok (.iadd, 1) := zr0 zk_96 (zat_w (k := 24) (p := 13) (w := zw_cL_law_24) zw_cL_law_ok rfl (by decide +kernel))
theorem dL_law_398 : decode cL_law 398 = .ok (.iaload, 1) := zr0 zk_46 (zat_w (k := 24) (p := 14) (w := zw_cL_law_24) zw_cL_law_ok rfl (by decide +kernel))
theorem dL_law_399 : decode cL_law 399 = .ok (.aload_n 0, 1) := zr0 zk_42 (zat_w (k := 24) (p := 15) (w := zw_cL_law_24) zw_cL_law_ok rfl (by decide +kernel))
theorem dL_law_400 : decode cL_law 400 = .ok (.iload_n 3, 1) := zr0 zk_29 (zat_w (k := 25) (p := 0) (w := zw_cL_law_25) zw_cL_law_ok rfl (by decide +kernel))
theorem dL_law_401 : decode cL_law 401 = .ok (.iconst 4, 1) := zr0 zk_7 (zat_w (k := 25) (p := 1) (w := zw_cL_law_25) zw_cL_law_ok rfl (by decide +kernel))
theorem dL_law_402 : decode cL_law 402 = .ok (.iadd, 1) := zr0 zk_96 (zat_w (k := 25) (p := 2) (w := zw_cL_law_25) zw_cL_law_ok rfl (by decide +kernel))
theorem dL_law_403 : decode cL_law 403 = .ok (.iaload, 1) := zr0 zk_46 (zat_w (k := 25) (p := 3) (w := zw_cL_law_25) zw_cL_law_ok rfl (by decide +kernel))
theorem dL_law_404 : decode cL_law 404 = .ok (.invokevirtual 37, 3) := zr2u zk_182 (x0 := 0) (x1 := 37) (zat_w (k := 25) (p := 4) (w := zw_cL_law_25) zw_cL_law_ok rfl (by decide +kernel)) (by decide +kernel)
theorem dL_law_407 : decode cL_law 407 = .ok (.pop, 1) := zr0 zk_87 (zat_w (k := 25) (p := 7) (w := zw_cL_law_25) zw_cL_law_ok rfl (by decide +kernel))
theorem dL_law_408 : decode cL_law 408 = .ok (.aload_n 2, 1) := zr0 zk_44 (zat_w (k := 25) (p := 8) (w := zw_cL_law_25) zw_cL_law_ok rfl (by decide +kernel))
theorem dL_law_409 : decode cL_law 409 = .ok (.aload_n 0, 1) := zr0 zk_42 (zat_w (k := 25) (p := 9) (w := zw_cL_law_25) zw_cL_law_ok rfl (by decide +kernel))
theorem dL_law_410 : decode cL_law 410 = .ok (.iload_n 3, 1) := zr0 zk_29 (zat_w (k := 25) (p := 10) (w := zw_cL_law_25) zw_cL_law_ok rfl (by decide +kernel))
theorem dL_law_411 : decode cL_law 411 = .ok (.iconst 1, 1) := zr0 zk_4 (zat_w (k := 25) (p := 11) (w := zw_cL_law_25) zw_cL_law_ok rfl (by decide +kernel))
theorem dL_law_412 : decode cL_law 412 = .ok (.iadd, 1) := zr0 zk_96 (zat_w (k := 25) (p := 12) (w := zw_cL_law_25) zw_cL_law_ok rfl (by decide +kernel))
theorem dL_law_413 : decode cL_law 413 = .ok (.iaload, 1) := zr0 zk_46 (zat_w (k := 25) (p := 13) (w := zw_cL_law_25) zw_cL_law_ok rfl (by decide +kernel))
theorem dL_law_414 : decode cL_law 414 = .ok (.aload_n 0, 1) := zr0 zk_42 (zat_w (k := 25) (p := 14) (w := zw_cL_law_25) zw_cL_law_ok rfl (by decide +kernel))
theorem dL_law_415 : decode cL_law 415 = .ok (.iload_n 3, 1) := zr0 zk_29 (zat_w (k := 25) (p := 15) (w := zw_cL_law_25) zw_cL_law_ok rfl (by decide +kernel))
theorem dL_law_416 : decode cL_law 416 = .ok (.iconst 2, 1) := zr0 zk_5 (zat_w (k := 26) (p := 0) (w := zw_cL_law_26) zw_cL_law_ok rfl (by decide +kernel))
theorem dL_law_417 : decode cL_law 417 = .ok (.iadd, 1) := zr0 zk_96 (zat_w (k := 26) (p := 1) (w := zw_cL_law_26) zw_cL_law_ok rfl (by decide +kernel))
theorem dL_law_418 : decode cL_law 418 = .ok (.iaload, 1) := zr0 zk_46 (zat_w (k := 26) (p := 2) (w := zw_cL_law_26) zw_cL_law_ok rfl (by decide +kernel))
theorem dL_law_419 : decode cL_law 419 = .ok (.aload_n 0, 1) := zr0 zk_42 (zat_w (k := 26) (p := 3) (w := zw_cL_law_26) zw_cL_law_ok rfl (by decide +kernel))
theorem dL_law_420 : decode cL_law 420 = .ok (.iload_n 3, 1) := zr0 zk_29 (zat_w (k := 26) (p := 4) (w := zw_cL_law_26) zw_cL_law_ok rfl (by decide +kernel))
theorem dL_law_421 : decode cL_law 421 = .ok (.iconst 3, 1) := zr0 zk_6 (zat_w (k := 26) (p := 5) (w := zw_cL_law_26) zw_cL_law_ok rfl (by decide +kernel))
theorem dL_law_422 : decode cL_law 422 = .ok (.iadd, 1) := zr0 zk_96 (zat_w (k := 26) (p := 6) (w := zw_cL_law_26) zw_cL_law_ok rfl (by decide +kernel))
theorem dL_law_423 : decode cL_law 423 = .ok (.iaload, 1) := zr0 zk_46 (zat_w (k := 26) (p := 7) (w := zw_cL_law_26) zw_cL_law_ok rfl (by decide +kernel))
theorem dL_law_424 : decode cL_law 424 = .ok (.aload_n 0, 1) := zr0 zk_42 (zat_w (k := 26) (p := 8) (w := zw_cL_law_26) zw_cL_law_ok rfl (by decide +kernel))
theorem dL_law_425 : decode cL_law 425 = .ok (.iload_n 3, 1) := zr0 zk_29 (zat_w (k := 26) (p := 9) (w := zw_cL_law_26) zw_cL_law_ok rfl (by decide +kernel))
theorem dL_law_426 : decode cL_law 426 = .ok (.iconst 4, 1) := zr0 zk_7 (zat_w (k := 26) (p := 10) (w := zw_cL_law_26) zw_cL_law_ok rfl (by decide +kernel))
theorem dL_law_427 : decode cL_law 427 = .ok (.iadd, 1) := zr0 zk_96 (zat_w (k := 26) (p := 11) (w := zw_cL_law_26) zw_cL_law_ok rfl (by decide +kernel))
theorem dL_law_428 : decode cL_law 428 = .ok (.iaload, 1) := zr0 zk_46 (zat_w (k := 26) (p := 12) (w := zw_cL_law_26) zw_cL_law_ok rfl (by decide +kernel))
theorem dL_law_429 : decode cL_law 429 = .ok (.invokevirtual 41, 3) := zr2u zk_182 (x0 := 0) (x1 := 41) (zat_w (k := 26) (p := 13) (w := zw_cL_law_26) zw_cL_law_ok rfl (by decide +kernel)) (by decide +kernel)
theorem dL_law_432 : decode cL_law 432 = .ok (.pop, 1) := zr0 zk_87 (zat_w (k := 27) (p := 0) (w := zw_cL_law_27) zw_cL_law_ok rfl (by decide +kernel))
theorem dL_law_433 : decode cL_law 433 = .ok (.goto 1331, 3) := zr2s zk_167 (x0 := 5) (x1 := 51) (zat_w (k := 27) (p := 1) (w := zw_cL_law_27) zw_cL_law_ok rfl (by decide +kernel)) (by decide +kernel)
theorem dL_law_436 : decode cL_law 436 = .ok (.aload_n 1, 1) := zr0 zk_43 (zat_w (k := 27) (p := 4) (w := zw_cL_law_27) zw_cL_law_ok rfl (by decide +kernel))
theorem dL_law_437 : decode cL_law 437 = .ok (.aload_n 0, 1) := zr0 zk_42 (zat_w (k := 27) (p := 5) (w := zw_cL_law_27) zw_cL_law_ok rfl (by decide +kernel))
theorem dL_law_438 : decode cL_law 438 = .ok (.iload_n 3, 1) := zr0 zk_29 (zat_w (k := 27) (p := 6) (w := zw_cL_law_27) zw_cL_law_ok rfl (by decide +kernel))
theorem dL_law_439 : decode cL_law 439 = .ok (.iconst 1, 1) := zr0 zk_4 (zat_w (k := 27) (p := 7) (w := zw_cL_law_27) zw_cL_law_ok rfl (by decide +kernel))
theorem dL_law_440 : decode cL_law 440 = .ok (.iadd, 1) := zr0 zk_96 (zat_w (k := 27) (p := 8) (w := zw_cL_law_27) zw_cL_law_ok rfl (by decide +kernel))
theorem dL_law_441 : decode cL_law 441 = .ok (.iaload, 1) := zr0 zk_46 (zat_w (k := 27) (p := 9) (w := zw_cL_law_27) zw_cL_law_ok rfl (by decide +kernel))
theorem dL_law_442 : decode cL_law 442 = .ok (.aload_n 0, 1) := zr0 zk_42 (zat_w (k := 27) (p := 10) (w := zw_cL_law_27) zw_cL_law_ok rfl (by decide +kernel))
theorem dL_law_443 : decode cL_law 443 = .ok (.iload_n 3, 1) := zr0 zk_29 (zat_w (k := 27) (p := 11) (w := zw_cL_law_27) zw_cL_law_ok rfl (by decide +kernel))
theorem dL_law_444 : decode cL_law 444 = .ok (.iconst 2, 1) := zr0 zk_5 (zat_w (k := 27) (p := 12) (w := zw_cL_law_27) zw_cL_law_ok rfl (by decide +kernel))
theorem dL_law_445 : decode cL_law 445 = .ok (.iadd, 1) := zr0 zk_96 (zat_w (k := 27) (p := 13) (w := zw_cL_law_27) zw_cL_law_ok rfl (by decide +kernel))
theorem dL_law_446 : decode cL_law 446 = .ok (.iaload, 1) := zr0 zk_46 (zat_w (k := 27) (p := 14) (w := zw_cL_law_27) zw_cL_law_ok rfl (by decide +kernel))
theorem dL_law_447 : decode cL_law 447 = .ok (.invokevirtual 42, 3) := zr2u zk_182 (x0 := 0) (x1 := 42) (zat_w (k := 27) (p := 15) (w := zw_cL_law_27) zw_cL_law_ok rfl (by decide +kernel)) (by decide +kernel)
theorem dL_law_450 : decode cL_law 450 = .ok (.pop, 1) := zr0 zk_87 (zat_w (k := 28) (p := 2) (w := zw_cL_law_28) zw_cL_law_ok rfl (by decide +kernel))
theorem dL_law_451 : decode cL_law 451 = .ok (.aload_n 2, 1) := zr0 zk_44 (zat_w (k := 28) (p := 3) (w := zw_cL_law_28) zw_cL_law_ok rfl (by decide +kernel))
theorem dL_law_452 : decode cL_law 452 = .ok (.aload_n 0, 1) := zr0 zk_42 (zat_w (k := 28) (p := 4) (w := zw_cL_law_28) zw_cL_law_ok rfl (by decide +kernel))
theorem dL_law_453 : decode cL_law 453 = .ok (.iload_n 3, 1) := zr0 zk_29 (zat_w (k := 28) (p := 5) (w := zw_cL_law_28) zw_cL_law_ok rfl (by decide +kernel))
theorem dL_law_454 : decode cL_law 454 = .ok (.iconst 1, 1) := zr0 zk_4 (zat_w (k := 28) (p := 6) (w := zw_cL_law_28) zw_cL_law_ok rfl (by decide +kernel))
theorem dL_law_455 : decode cL_law 455 = .ok (.iadd, 1) := zr0 zk_96 (zat_w (k := 28) (p := 7) (w := zw_cL_law_28) zw_cL_law_ok rfl (by decide +kernel))
theorem dL_law_456 : decode cL_law 456 = .ok (.iaload, 1) := zr0 zk_46 (zat_w (k := 28) (p := 8) (w := zw_cL_law_28) zw_cL_law_ok rfl (by decide +kernel))
theorem dL_law_457 : decode cL_law 457 = .ok (.aload_n 0, 1) := zr0 zk_42 (zat_w (k := 28) (p := 9) (w := zw_cL_law_28) zw_cL_law_ok rfl (by decide +kernel))
theorem dL_law_458 : decode cL_law 458 = .ok (.iload_n 3, 1) := zr0 zk_29 (zat_w (k := 28) (p := 10) (w := zw_cL_law_28) zw_cL_law_ok rfl (by decide +kernel))
theorem dL_law_459 : decode cL_law 459 = .ok (.iconst 2, 1) := zr0 zk_5 (zat_w (k := 28) (p := 11) (w := zw_cL_law_28) zw_cL_law_ok rfl (by decide +kernel))
theorem dL_law_460 : decode cL_law 460 = .ok (.iadd, 1) := zr0 zk_96 (zat_w (k := 28) (p := 12) (w := zw_cL_law_28) zw_cL_law_ok rfl (by decide +kernel))
theorem dL_law_461 : decode cL_law 461 = .ok (.iaload, 1) := zr0 zk_46 (zat_w (k := 28) (p := 13) (w := zw_cL_law_28) zw_cL_law_ok rfl (by decide +kernel))
theorem dL_law_462 : decode cL_law 462 = .ok (.invokevirtual 45, 3) := zr2u zk_182 (x0 := 0) (x1 := 45) (zat_w (k := 28) (p := 14) (w := zw_cL_law_28) zw_cL_law_ok rfl (by decide +kernel)) (by decide +kernel)
theorem dL_law_465 : decode cL_law 465 = .ok (.pop, 1) := zr0 zk_87 (zat_w (k := 29) (p := 1) (w := zw_cL_law_29) zw_cL_law_ok rfl (by decide +kernel))
theorem dL_law_466 : decode cL_law 466 = .ok (.goto 1298, 3) := zr2s zk_167 (x0 := 5) (x1 := 18) (zat_w (k := 29) (p := 2) (w := zw_cL_law_29) zw_cL_law_ok rfl (by decide +kernel)) (by decide +kernel)
theorem dL_law_469 : decode cL_law 469 = .ok (.aload_n 1, 1) := zr0 zk_43 (zat_w (k := 29) (p := 5) (w := zw_cL_law_29) zw_cL_law_ok rfl (by decide +kernel))
theorem dL_law_470 : decode cL_law 470 = .ok (.aload_n 0, 1) := zr0 zk_42 (zat_w (k := 29) (p := 6) (w := zw_cL_law_29) zw_cL_law_ok rfl (by decide +kernel))
theorem dL_law_471 : decode cL_law 471 = .ok (.iload_n 3, 1) := zr0 zk_29 (zat_w (k := 29) (p := 7) (w := zw_cL_law_29) zw_cL_law_ok rfl (by decide +kernel))
theorem dL_law_472 : decode cL_law 472 = .ok (.iconst 1, 1) := zr0 zk_4 (zat_w (k := 29) (p := 8) (w := zw_cL_law_29) zw_cL_law_ok rfl (by decide +kernel))
theorem dL_law_473 : decode cL_law 473 = .ok (.iadd, 1) := zr0 zk_96 (zat_w (k := 29) (p := 9) (w := zw_cL_law_29) zw_cL_law_ok rfl (by decide +kernel))
theorem dL_law_474 : decode cL_law 474 = .ok (.iaload, 1) := zr0 zk_46 (zat_w (k := 29) (p := 10) (w := zw_cL_law_29) zw_cL_law_ok rfl (by decide +kernel))
theorem dL_law_475 : decode cL_law 475 = .ok (.aload_n 0, 1) := zr0 zk_42 (zat_w (k := 29) (p := 11) (w := zw_cL_law_29) zw_cL_law_ok rfl (by decide +kernel))
theorem dL_law_476 : decode cL_law 476 = .ok (.iload_n 3, 1) := zr0 zk_29 (zat_w (k := 29) (p := 12) (w := zw_cL_law_29) zw_cL_law_ok rfl (by decide +kernel))
theorem dL_law_477 : decode cL_law 477 = .ok (.iconst 2, 1) := zr0 zk_5 (zat_w (k := 29) (p := 13) (w := zw_cL_law_29) zw_cL_law_ok rfl (by decide +kernel))
theorem dL_law_478 : decode cL_law 478 = .ok (.iadd, 1) := zr0 zk_96 (zat_w (k := 29) (p := 14) (w := zw_cL_law_29) zw_cL_law_ok rfl (by decide +kernel))
theorem dL_law_479 : decode cL_law 479 = .ok (.iaload, 1) := zr0 zk_46 (zat_w (k := 29) (p := 15) (w := zw_cL_law_29) zw_cL_law_ok rfl (by decide +kernel))
theorem dL_law_480 : decode cL_law 480 = .ok (.invokevirtual 46, 3) := zr2u zk_182 (x0 := 0) (x1 := 46) (zat_w (k := 30) (p := 0) (w := zw_cL_law_30) zw_cL_law_ok rfl (by decide +kernel)) (by decide +kernel)
theorem dL_law_483 : decode cL_law 483 = .ok (.pop, 1) := zr0 zk_87 (zat_w (k := 30) (p := 3) (w := zw_cL_law_30) zw_cL_law_ok rfl (by decide +kernel))
theorem dL_law_484 : decode cL_law 484 = .ok (.aload_n 2, 1) := zr0 zk_44 (zat_w (k := 30) (p := 4) (w := zw_cL_law_30) zw_cL_law_ok rfl (by decide +kernel))
theorem dL_law_485 : decode cL_law 485 = .ok (.aload_n 0, 1) := zr0 zk_42 (zat_w (k := 30) (p := 5) (w := zw_cL_law_30) zw_cL_law_ok rfl (by decide +kernel))
theorem dL_law_486 : decode cL_law 486 = .ok (.iload_n 3, 1) := zr0 zk_29 (zat_w (k := 30) (p := 6) (w := zw_cL_law_30) zw_cL_law_ok rfl (by decide +kernel))
theorem dL_law_487 : decode cL_law 487 = .ok (.iconst 1, 1) := zr0 zk_4 (zat_w (k := 30) (p := 7) (w := zw_cL_law_30) zw_cL_law_ok rfl (by decide +kernel))
theorem dL_law_488 : decode cL_law 488 = .ok (.iadd, 1) := zr0 zk_96 (zat_w (k := 30) (p := 8) (w := zw_cL_law_30) zw_cL_law_ok rfl (by decide +kernel))
theorem dL_law_489 : decode cL_law 489 = .ok (.iaload, 1) := zr0 zk_46 (zat_w (k := 30) (p := 9) (w := zw_cL_law_30) zw_cL_law_ok rfl (by decide +kernel))
theorem dL_law_490 : decode cL_law 490 = .ok (.aload_n 0, 1) := zr0 zk_42 (zat_w (k := 30) (p := 10) (w := zw_cL_law_30) zw_cL_law_ok rfl (by decide +kernel))
theorem dL_law_491 : decode cL_law 491 = .ok (.iload_n 3, 1) := zr0 zk_29 (zat_w (k := 30) (p := 11) (w := zw_cL_law_30) zw_cL_law_ok rfl (by decide +kernel))
theorem dL_law_492 : decode cL_law 492 = .ok (.iconst 2, 1) := zr0 zk_5 (zat_w (k := 30) (p := 12) (w := zw_cL_law_30) zw_cL_law_ok rfl (by decide +kernel))
theorem dL_law_493 : decode cL_law 493 = .ok (.iadd, 1) := zr0 zk_96 (zat_w (k := 30) (p := 13) (w := zw_cL_law_30) zw_cL_law_ok rfl (by decide +kernel))
theorem dL_law_494 : decode cL_law 494 = .ok (.iaload, 1) := zr0 zk_46 (zat_w (k := 30) (p := 14) (w := zw_cL_law_30) zw_cL_law_ok rfl (by decide +kernel))
theorem dL_law_495 : decode cL_law 495 = .ok (.invokevirtual 49, 3) := zr2u zk_182 (x0 := 0) (x1 := 49) (zat_w (k := 30) (p := 15) (w := zw_cL_law_30) zw_cL_law_ok rfl (by decide +kernel)) (by decide +kernel)
theorem dL_law_498 : decode cL_law 498 = .ok (.pop, 1) := zr0 zk_87 (zat_w (k := 31) (p := 2) (w := zw_cL_law_31) zw_cL_law_ok rfl (by decide +kernel))
theorem dL_law_499 : decode cL_law 499 = .ok (.goto 1265, 3) := zr2s zk_167 (x0 := 4) (x1 := 241) (zat_w (k := 31) (p := 3) (w := zw_cL_law_31) zw_cL_law_ok rfl (by decide +kernel)) (by decide +kernel)
theorem dL_law_502 : decode cL_law 502 = .ok (.aload_n 1, 1) := zr0 zk_43 (zat_w (k := 31) (p := 6) (w := zw_cL_law_31) zw_cL_law_ok rfl (by decide +kernel))
theorem dL_law_503 : decode cL_law 503 = .ok (.aload_n 0, 1) := zr0 zk_42 (zat_w (k := 31) (p := 7) (w := zw_cL_law_31) zw_cL_law_ok rfl (by decide +kernel))
theorem dL_law_504 : decode cL_law 504 = .ok (.iload_n 3, 1) := zr0 zk_29 (zat_w (k := 31) (p := 8) (w := zw_cL_law_31) zw_cL_law_ok rfl (by decide +kernel))
theorem dL_law_505 : decode cL_law 505 = .ok (.iconst 1, 1) := zr0 zk_4 (zat_w (k := 31) (p := 9) (w := zw_cL_law_31) zw_cL_law_ok rfl (by decide +kernel))
theorem dL_law_506 : decode cL_law 506 = .ok (.iadd, 1) := zr0 zk_96 (zat_w (k := 31) (p := 10) (w := zw_cL_law_31) zw_cL_law_ok rfl (by decide +kernel))
theorem dL_law_507 : decode cL_law 507 = .ok (.iaload, 1) := zr0 zk_46 (zat_w (k := 31) (p := 11) (w := zw_cL_law_31) zw_cL_law_ok rfl (by decide +kernel))
theorem dL_law_508 : decode cL_law 508 = .ok (.aload_n 0, 1) := zr0 zk_42 (zat_w (k := 31) (p := 12) (w := zw_cL_law_31) zw_cL_law_ok rfl (by decide +kernel))
theorem dL_law_509 : decode cL_law 509 = .ok (.iload_n 3, 1) := zr0 zk_29 (zat_w (k := 31) (p := 13) (w := zw_cL_law_31) zw_cL_law_ok rfl (by decide +kernel))
theorem dL_law_510 : decode cL_law 510 = .ok (.iconst 2, 1) := zr0 zk_5 (zat_w (k := 31) (p := 14) (w := zw_cL_law_31) zw_cL_law_ok rfl (by decide +kernel))
theorem dL_law_511 : decode cL_law 511 = .ok (.iadd, 1) := zr0 zk_96 (zat_w (k := 31) (p := 15) (w := zw_cL_law_31) zw_cL_law_ok rfl (by decide +kernel))
theorem dL_law_512 : decode cL_law 512 = .ok (.iaload, 1) := zr0 zk_46 (zat_w (k := 32) (p := 0) (w := zw_cL_law_32) zw_cL_law_ok rfl (by decide +kernel))
theorem dL_law_513 : decode cL_law 513 = .ok (.aload_n 0, 1) := zr0 zk_42 (zat_w (k := 32) (p := 1) (w := zw_cL_law_32) zw_cL_law_ok rfl (by decide +kernel))
theorem dL_law_514 : decode cL_law 514 = .ok (.iload_n 3, 1) := zr0 zk_29 (zat_w (k := 32) (p := 2) (w := zw_cL_law_32) zw_cL_law_ok rfl (by decide +kernel))
theorem dL_law_515 : decode cL_law 515 = .ok (.iconst 3, 1) := zr0 zk_6 (zat_w (k := 32) (p := 3) (w := zw_cL_law_32) zw_cL_law_ok rfl (by decide +kernel))
theorem dL_law_516 : decode cL_law 516 = .ok (.iadd, 1) := zr0 zk_96 (zat_w (k := 32) (p := 4) (w := zw_cL_law_32) zw_cL_law_ok rfl (by decide +kernel))
theorem dL_law_517 : decode cL_law 517 = .ok (.iaload, 1) := zr0 zk_46 (zat_w (k := 32) (p := 5) (w := zw_cL_law_32) zw_cL_law_ok rfl (by decide +kernel))
theorem dL_law_518 : decode cL_law 518 = .ok (.invokevirtual 50, 3) := zr2u zk_182 (x0 := 0) (x1 := 50) (zat_w (k := 32) (p := 6) (w := zw_cL_law_32) zw_cL_law_ok rfl (by decide +kernel)) (by decide +kernel)
theorem dL_law_521 : decode cL_law 521 = .ok (.pop, 1) := zr0 zk_87 (zat_w (k := 32) (p := 9) (w := zw_cL_law_32) zw_cL_law_ok rfl (by decide +kernel))
theorem dL_law_522 : decode cL_law 522 = .ok (.aload_n 2, 1) := zr0 zk_44 (zat_w (k := 32) (p := 10) (w := zw_cL_law_32) zw_cL_law_ok rfl (by decide +kernel))
theorem dL_law_523 : decode cL_law 523 = .ok (.aload_n 0, 1) := zr0 zk_42 (zat_w (k := 32) (p := 11) (w := zw_cL_law_32) zw_cL_law_ok rfl (by decide +kernel))
theorem dL_law_524 : decode cL_law 524 = .ok (.iload_n 3, 1) := zr0 zk_29 (zat_w (k := 32) (p := 12) (w := zw_cL_law_32) zw_cL_law_ok rfl (by decide +kernel))
theorem dL_law_525 : decode cL_law 525 = .ok (.iconst 1, 1) := zr0 zk_4 (zat_w (k := 32) (p := 13) (w := zw_cL_law_32) zw_cL_law_ok rfl (by decide +kernel))
theorem dL_law_526 : decode cL_law 526 = .ok (.iadd, 1) := zr0 zk_96 (zat_w (k := 32) (p := 14) (w := zw_cL_law_32) zw_cL_law_ok rfl (by decide +kernel))
theorem dL_law_527 : decode cL_law 527 = .ok (.iaload, 1) := zr0 zk_46 (zat_w (k := 32) (p := 15) (w := zw_cL_law_32) zw_cL_law_ok rfl (by decide +kernel))
theorem dL_law_528 : decode cL_law 528 = .ok (.aload_n 0, 1) := zr0 zk_42 (zat_w (k := 33) (p := 0) (w := zw_cL_law_33) zw_cL_law_ok rfl (by decide +kernel))
theorem dL_law_529 : decode cL_law 529 = .ok (.iload_n 3, 1) := zr0 zk_29 (zat_w (k := 33) (p := 1) (w := zw_cL_law_33) zw_cL_law_ok rfl (by decide +kernel))
theorem dL_law_530 : decode cL_law 530 = .ok (.iconst 2, 1) := zr0 zk_5 (zat_w (k := 33) (p := 2) (w := zw_cL_law_33) zw_cL_law_ok rfl (by decide +kernel))
theorem dL_law_531 : decode cL_law 531 = .ok (.iadd, 1) := zr0 zk_96 (zat_w (k := 33) (p := 3) (w := zw_cL_law_33) zw_cL_law_ok rfl (by decide +kernel))
theorem dL_law_532 : decode cL_law 532 = .ok (.iaload, 1) := zr0 zk_46 (zat_w (k := 33) (p := 4) (w := zw_cL_law_33) zw_cL_law_ok rfl (by decide +kernel))
theorem dL_law_533 : decode cL_law 533 = .ok (.aload_n 0, 1) := zr0 zk_42 (zat_w (k := 33) (p := 5) (w := zw_cL_law_33) zw_cL_law_ok rfl (by decide +kernel))
theorem dL_law_534 : decode cL_law 534 = .ok (.iload_n 3, 1) := zr0 zk_29 (zat_w (k := 33) (p := 6) (w := zw_cL_law_33) zw_cL_law_ok rfl (by decide +kernel))
theorem dL_law_535 : decode cL_law 535 = .ok (.iconst 3, 1) := zr0 zk_6 (zat_w (k := 33) (p := 7) (w := zw_cL_law_33) zw_cL_law_ok rfl (by decide +kernel))
theorem dL_law_536 : decode cL_law 536 = .ok (.iadd, 1) := zr0 zk_96 (zat_w (k := 33) (p := 8) (w := zw_cL_law_33) zw_cL_law_ok rfl (by decide +kernel))
theorem dL_law_537 : decode cL_law 537 = .ok (.iaload, 1) := zr0 zk_46 (zat_w (k := 33) (p := 9) (w := zw_cL_law_33) zw_cL_law_ok rfl (by decide +kernel))
theorem dL_law_538 : decode cL_law 538 = .ok (.invokevirtual 54, 3) := zr2u zk_182 (x0 := 0) (x1 := 54) (zat_w (k := 33) (p := 10) (w := zw_cL_law_33) zw_cL_law_ok rfl (by decide +kernel)) (by decide +kernel)
theorem dL_law_541 : decode cL_law 541 = .ok (.pop, 1) := zr0 zk_87 (zat_w (k := 33) (p := 13) (w := zw_cL_law_33) zw_cL_law_ok rfl (by decide +kernel))
theorem dL_law_542 : decode cL_law 542 = .ok (.goto 1222, 3) := zr2s zk_167 (x0 := 4) (x1 := 198) (zat_w (k := 33) (p := 14) (w := zw_cL_law_33) zw_cL_law_ok rfl (by decide +kernel)) (by decide +kernel)
theorem dL_law_545 : decode cL_law 545 = .ok (.aload_n 1, 1) := zr0 zk_43 (zat_w (k := 34) (p := 1) (w := zw_cL_law_34) zw_cL_law_ok rfl (by decide +kernel))
theorem dL_law_546 : decode cL_law 546 = .ok (.aload_n 0, 1) := zr0 zk_42 (zat_w (k := 34) (p := 2) (w := zw_cL_law_34) zw_cL_law_ok rfl (by decide +kernel))
theorem dL_law_547 : decode cL_law 547 = .ok (.iload_n 3, 1) := zr0 zk_29 (zat_w (k := 34) (p := 3) (w := zw_cL_law_34) zw_cL_law_ok rfl (by decide +kernel))
theorem dL_law_548 : decode cL_law 548 = .ok (.iconst 1, 1) := zr0 zk_4 (zat_w (k := 34) (p := 4) (w := zw_cL_law_34) zw_cL_law_ok rfl (by decide +kernel))
theorem dL_law_549 : decode cL_law 549 = .ok (.iadd, 1) := zr0 zk_96 (zat_w (k := 34) (p := 5) (w := zw_cL_law_34) zw_cL_law_ok rfl (by decide +kernel))
theorem dL_law_550 : decode cL_law 550 = .ok (.iaload, 1) := zr0 zk_46 (zat_w (k := 34) (p := 6) (w := zw_cL_law_34) zw_cL_law_ok rfl (by decide +kernel))
theorem dL_law_551 : decode cL_law 551 = .ok (.aload_n 0, 1) := zr0 zk_42 (zat_w (k := 34) (p := 7) (w := zw_cL_law_34) zw_cL_law_ok rfl (by decide +kernel))
theorem dL_law_552 : decode cL_law 552 = .ok (.iload_n 3, 1) := zr0 zk_29 (zat_w (k := 34) (p := 8) (w := zw_cL_law_34) zw_cL_law_ok rfl (by decide +kernel))
theorem dL_law_553 : decode cL_law 553 = .ok (.iconst 2, 1) := zr0 zk_5 (zat_w (k := 34) (p := 9) (w := zw_cL_law_34) zw_cL_law_ok rfl (by decide +kernel))
theorem dL_law_554 : decode cL_law 554 = .ok (.iadd, 1) := zr0 zk_96 (zat_w (k := 34) (p := 10) (w := zw_cL_law_34) zw_cL_law_ok rfl (by decide +kernel))
theorem dL_law_555 : decode cL_law 555 = .ok (.iaload, 1) := zr0 zk_46 (zat_w (k := 34) (p := 11) (w := zw_cL_law_34) zw_cL_law_ok rfl (by decide +kernel))
theorem dL_law_556 : decode cL_law 556 = .ok (.invokevirtual 55, 3) := zr2u zk_182 (x0 := 0) (x1 := 55) (zat_w (k := 34) (p := 12) (w := zw_cL_law_34) zw_cL_law_ok rfl (by decide +kernel)) (by decide +kernel)
theorem dL_law_559 : decode cL_law 559 = .ok (.pop2, 1) := zr0 zk_88 (zat_w (k := 34) (p := 15) (w := zw_cL_law_34) zw_cL_law_ok rfl (by decide +kernel))
theorem dL_law_560 : decode cL_law 560 = .ok (.aload_n 2, 1) := zr0 zk_44 (zat_w (k := 35) (p := 0) (w := zw_cL_law_35) zw_cL_law_ok rfl (by decide +kernel))
theorem dL_law_561 : decode cL_law 561 = .ok (.aload_n 0, 1) := zr0 zk_42 (zat_w (k := 35) (p := 1) (w := zw_cL_law_35) zw_cL_law_ok rfl (by decide +kernel))
theorem dL_law_562 : decode cL_law 562 = .ok (.iload_n 3, 1) := zr0 zk_29 (zat_w (k := 35) (p := 2) (w := zw_cL_law_35) zw_cL_law_ok rfl (by decide +kernel))
theorem dL_law_563 : decode cL_law 563 = .ok (.iconst 1, 1) := zr0 zk_4 (zat_w (k := 35) (p := 3) (w := zw_cL_law_35) zw_cL_law_ok rfl (by decide +kernel))
theorem dL_law_564 : decode cL_law 564 = .ok (.iadd, 1) := zr0 zk_96 (zat_w (k := 35) (p := 4) (w := zw_cL_law_35) zw_cL_law_ok rfl (by decide +kernel))
theorem dL_law_565 : decode cL_law 565 = .ok (.iaload, 1) := zr0 zk_46 (zat_w (k := 35) (p := 5) (w := zw_cL_law_35) zw_cL_law_ok rfl (by decide +kernel))
theorem dL_law_566 : decode cL_law 566 = .ok (.aload_n 0, 1) := zr0 zk_42 (zat_w (k := 35) (p := 6) (w := zw_cL_law_35) zw_cL_law_ok rfl (by decide +kernel))
theorem dL_law_567 : decode cL_law 567 = .ok (.iload_n 3, 1) := zr0 zk_29 (zat_w (k := 35) (p := 7) (w := zw_cL_law_35) zw_cL_law_ok rfl (by decide +kernel))
theorem dL_law_568 : decode cL_law 568 = .ok (.iconst 2, 1) := zr0 zk_5 (zat_w (k := 35) (p := 8) (w := zw_cL_law_35) zw_cL_law_ok rfl (by decide +kernel))
theorem dL_law_569 : decode cL_law 569 = .ok (.iadd, 1) := zr0 zk_96 (zat_w (k := 35) (p := 9) (w := zw_cL_law_35) zw_cL_law_ok rfl (by decide +kernel))
theorem dL_law_570 : decode cL_law 570 = .ok (.iaload, 1) := zr0 zk_46 (zat_w (k := 35) (p := 10) (w := zw_cL_law_35) zw_cL_law_ok rfl (by decide +kernel))
theorem dL_law_571 : decode cL_law 571 = .ok (.invokevirtual 59, 3) := zr2u zk_182 (x0 := 0) (x1 := 59) (zat_w (k := 35) (p := 11) (w := zw_cL_law_35) zw_cL_law_ok rfl (by decide +kernel)) (by decide +kernel)
theorem dL_law_574 : decode cL_law 574 = .ok (.pop2, 1) := zr0 zk_88 (zat_w (k := 35) (p := 14) (w := zw_cL_law_35) zw_cL_law_ok rfl (by decide +kernel))
theorem dL_law_575 : decode cL_law 575 = .ok (.goto 1189, 3) := zr2s zk_167 (x0 := 4) (x1 := 165) (zat_w (k := 35) (p := 15) (w := zw_cL_law_35) zw_cL_law_ok rfl (by decide +kernel)) (by decide +kernel)
theorem dL_law_578 : decode cL_law 578 = .ok (.aload_n 1, 1) := zr0 zk_43 (zat_w (k := 36) (p := 2) (w := zw_cL_law_36) zw_cL_law_ok rfl (by decide +kernel))
theorem dL_law_579 : decode cL_law 579 = .ok (.aload_n 0, 1) := zr0 zk_42 (zat_w (k := 36) (p := 3) (w := zw_cL_law_36) zw_cL_law_ok rfl (by decide +kernel))
theorem dL_law_580 : decode cL_law 580 = .ok (.iload_n 3, 1) := zr0 zk_29 (zat_w (k := 36) (p := 4) (w := zw_cL_law_36) zw_cL_law_ok rfl (by decide +kernel))
theorem dL_law_581 : decode cL_law 581 = .ok (.iconst 1, 1) := zr0 zk_4 (zat_w (k := 36) (p := 5) (w := zw_cL_law_36) zw_cL_law_ok rfl (by decide +kernel))
theorem dL_law_582 : decode cL_law 582 = .ok (.iadd, 1) := zr0 zk_96 (zat_w (k := 36) (p := 6) (w := zw_cL_law_36) zw_cL_law_ok rfl (by decide +kernel))
theorem dL_law_583 : decode cL_law 583 = .ok (.iaload, 1) := zr0 zk_46 (zat_w (k := 36) (p := 7) (w := zw_cL_law_36) zw_cL_law_ok rfl (by decide +kernel))
theorem dL_law_584 : decode cL_law 584 = .ok (.aload_n 0, 1) := zr0 zk_42 (zat_w (k := 36) (p := 8) (w := zw_cL_law_36) zw_cL_law_ok rfl (by decide +kernel))
theorem dL_law_585 : decode cL_law 585 = .ok (.iload_n 3, 1) := zr0 zk_29 (zat_w (k := 36) (p := 9) (w := zw_cL_law_36) zw_cL_law_ok rfl (by decide +kernel))
theorem dL_law_586 : decode cL_law 586 = .ok (.iconst 2, 1) := zr0 zk_5 (zat_w (k := 36) (p := 10) (w := zw_cL_law_36) zw_cL_law_ok rfl (by decide +kernel))
theorem dL_law_587 : decode cL_law 587 = .ok (.iadd, 1) := zr0 zk_96 (zat_w (k := 36) (p := 11) (w := zw_cL_law_36) zw_cL_law_ok rfl (by decide +kernel))
theorem dL_law_588 : decode cL_law 588 = .ok (.iaload, 1) := zr0 zk_46 (zat_w (k := 36) (p := 12) (w := zw_cL_law_36) zw_cL_law_ok rfl (by decide +kernel))
theorem dL_law_589 : decode cL_law 589 = .ok (.invokevirtual 60, 3) := zr2u zk_182 (x0 := 0) (x1 := 60) (zat_w (k := 36) (p := 13) (w := zw_cL_law_36) zw_cL_law_ok rfl (by decide +kernel)) (by decide +kernel)
theorem dL_law_592 : decode cL_law 592 = .ok (.pop2, 1) := zr0 zk_88 (zat_w (k := 37) (p := 0) (w := zw_cL_law_37) zw_cL_law_ok rfl (by decide +kernel))
theorem dL_law_593 : decode cL_law 593 = .ok (.aload_n 2, 1) := zr0 zk_44 (zat_w (k := 37) (p := 1) (w := zw_cL_law_37) zw_cL_law_ok rfl (by decide +kernel))
theorem dL_law_594 : decode cL_law 594 = .ok (.aload_n 0, 1) := zr0 zk_42 (zat_w (k := 37) (p := 2) (w := zw_cL_law_37) zw_cL_law_ok rfl (by decide +kernel))
theorem dL_law_595 : decode cL_law 595 = .ok (.iload_n 3, 1) := zr0 zk_29 (zat_w (k := 37) (p := 3) (w := zw_cL_law_37) zw_cL_law_ok rfl (by decide +kernel))
theorem dL_law_596 : decode cL_law 596 = .ok (.iconst 1, 1) := zr0 zk_4 (zat_w (k := 37) (p := 4) (w := zw_cL_law_37) zw_cL_law_ok rfl (by decide +kernel))
theorem dL_law_597 : decode cL_law 597 = .ok (.iadd, 1) := zr0 zk_96 (zat_w (k := 37) (p := 5) (w := zw_cL_law_37) zw_cL_law_ok rfl (by decide +kernel))
theorem dL_law_598 : decode cL_law 598 = .ok (.iaload, 1) := zr0 zk_46 (zat_w (k := 37) (p := 6) (w := zw_cL_law_37) zw_cL_law_ok rfl (by decide +kernel))
theorem dL_law_599 : decode cL_law 599 = .ok (.aload_n 0, 1) := zr0 zk_42 (zat_w (k := 37) (p := 7) (w := zw_cL_law_37) zw_cL_law_ok rfl (by decide +kernel))
theorem dL_law_600 : decode cL_law 600 = .ok (.iload_n 3, 1) := zr0 zk_29 (zat_w (k := 37) (p := 8) (w := zw_cL_law_37) zw_cL_law_ok rfl (by decide +kernel))
theorem dL_law_601 : decode cL_law 601 = .ok (.iconst 2, 1) := zr0 zk_5 (zat_w (k := 37) (p := 9) (w := zw_cL_law_37) zw_cL_law_ok rfl (by decide +kernel))
theorem dL_law_602 : decode cL_law 602 = .ok (.iadd, 1) := zr0 zk_96 (zat_w (k := 37) (p := 10) (w := zw_cL_law_37) zw_cL_law_ok rfl (by decide +kernel))
theorem dL_law_603 : decode cL_law 603 = .ok (.iaload, 1) := zr0 zk_46 (zat_w (k := 37) (p := 11) (w := zw_cL_law_37) zw_cL_law_ok rfl (by decide +kernel))
theorem dL_law_604 : decode cL_law 604 = .ok (.invokevirtual 63, 3) := zr2u zk_182 (x0 := 0) (x1 := 63) (zat_w (k := 37) (p := 12) (w := zw_cL_law_37) zw_cL_law_ok rfl (by decide +kernel)) (by decide +kernel)
theorem dL_law_607 : decode cL_law 607 = .ok (.pop2, 1) := zr0 zk_88 (zat_w (k := 37) (p := 15) (w := zw_cL_law_37) zw_cL_law_ok rfl (by decide +kernel))
theorem dL_law_608 : decode cL_law 608 = .ok (.goto 1156, 3) := zr2s zk_167 (x0 := 4) (x1 := 132) (zat_w (k := 38) (p := 0) (w := zw_cL_law_38) zw_cL_law_ok rfl (by decide +kernel)) (by decide +kernel)
theorem dL_law_611 : decode cL_law 611 = .ok (.aload_n 1, 1) := zr0 zk_43 (zat_w (k := 38) (p := 3) (w := zw_cL_law_38) zw_cL_law_ok rfl (by decide +kernel))
theorem dL_law_612 : decode cL_law 612 = .ok (.aload_n 0, 1) := zr0 zk_42 (zat_w (k := 38) (p := 4) (w := zw_cL_law_38) zw_cL_law_ok rfl (by decide +kernel))
theorem dL_law_613 : decode cL_law 613 = .ok (.iload_n 3, 1) := zr0 zk_29 (zat_w (k := 38) (p := 5) (w := zw_cL_law_38) zw_cL_law_ok rfl (by decide +kernel))
theorem dL_law_614 : decode cL_law 614 = .ok (.iconst 1, 1) := zr0 zk_4 (zat_w (k := 38) (p := 6) (w := zw_cL_law_38) zw_cL_law_ok rfl (by decide +kernel))
theorem dL_law_615 : decode cL_law 615 = .ok (.iadd, 1) := zr0 zk_96 (zat_w (k := 38) (p := 7) (w := zw_cL_law_38) zw_cL_law_ok rfl (by decide +kernel))
theorem dL_law_616 : decode cL_law 616 = .ok (.iaload, 1) := zr0 zk_46 (zat_w (k := 38) (p := 8) (w := zw_cL_law_38) zw_cL_law_ok rfl (by decide +kernel))
theorem dL_law_617 : decode cL_law 617 = .ok (.aload_n 0, 1) := zr0 zk_42 (zat_w (k := 38) (p := 9) (w := zw_cL_law_38) zw_cL_law_ok rfl (by decide +kernel))
theorem dL_law_618 : decode cL_law 618 = .ok (.iload_n 3, 1) := zr0 zk_29 (zat_w (k := 38) (p := 10) (w := zw_cL_law_38) zw_cL_law_ok rfl (by decide +kernel))
theorem dL_law_619 : decode cL_law 619 = .ok (.iconst 2, 1) := zr0 zk_5 (zat_w (k := 38) (p := 11) (w := zw_cL_law_38) zw_cL_law_ok rfl (by decide +kernel))
theorem dL_law_620 : decode cL_law 620 = .ok (.iadd, 1) := zr0 zk_96 (zat_w (k := 38) (p := 12) (w := zw_cL_law_38) zw_cL_law_ok rfl (by decide +kernel))
theorem dL_law_621 : decode cL_law 621 = .ok (.iaload, 1) := zr0 zk_46 (zat_w (k := 38) (p := 13) (w := zw_cL_law_38) zw_cL_law_ok rfl (by decide +kernel))
theorem dL_law_622 : decode cL_law 622 = .ok (.aload_n 0, 1) := zr0 zk_42 (zat_w (k := 38) (p := 14) (w := zw_cL_law_38) zw_cL_law_ok rfl (by decide +kernel))
theorem dL_law_623 : decode cL_law 623 = .ok (.iload_n 3, 1) := zr0 zk_29 (zat_w (k := 38) (p := 15) (w := zw_cL_law_38) zw_cL_law_ok rfl (by decide +kernel))
theorem dL_law_624 : decode cL_law 624 = .ok (.iconst 3, 1) := zr0 zk_6 (zat_w (k := 39) (p := 0) (w := zw_cL_law_39) zw_cL_law_ok rfl (by decide +kernel))
theorem dL_law_625 : decode cL_law 625 = .ok (.iadd, 1) := zr0 zk_96 (zat_w (k := 39) (p := 1) (w := zw_cL_law_39) zw_cL_law_ok rfl (by decide +kernel))
theorem dL_law_626 : decode cL_law 626 = .ok (.iaload, 1) := zr0 zk_46 (zat_w (k := 39) (p := 2) (w := zw_cL_law_39) zw_cL_law_ok rfl (by decide +kernel))
theorem dL_law_627 : decode cL_law 627 = .ok (.invokevirtual 64, 3) := zr2u zk_182 (x0 := 0) (x1 := 64) (zat_w (k := 39) (p := 3) (w := zw_cL_law_39) zw_cL_law_ok rfl (by decide +kernel)) (by decide +kernel)
theorem dL_law_630 : decode cL_law 630 = .ok (.pop2, 1) := zr0 zk_88 (zat_w (k := 39) (p := 6) (w := zw_cL_law_39) zw_cL_law_ok rfl (by decide +kernel))
theorem dL_law_631 : decode cL_law 631 = .ok (.aload_n 2, 1) := zr0 zk_44 (zat_w (k := 39) (p := 7) (w := zw_cL_law_39) zw_cL_law_ok rfl (by decide +kernel))
theorem dL_law_632 : decode cL_law 632 = .ok (.aload_n 0, 1) := zr0 zk_42 (zat_w (k := 39) (p := 8) (w := zw_cL_law_39) zw_cL_law_ok rfl (by decide +kernel))
theorem dL_law_633 : decode cL_law 633 = .ok (.iload_n 3, 1) := zr0 zk_29 (zat_w (k := 39) (p := 9) (w := zw_cL_law_39) zw_cL_law_ok rfl (by decide +kernel))
theorem dL_law_634 : decode cL_law 634 = .ok (.iconst 1, 1) := zr0 zk_4 (zat_w (k := 39) (p := 10) (w := zw_cL_law_39) zw_cL_law_ok rfl (by decide +kernel))
theorem dL_law_635 : decode cL_law 635 = .ok (.iadd, 1) := zr0 zk_96 (zat_w (k := 39) (p := 11) (w := zw_cL_law_39) zw_cL_law_ok rfl (by decide +kernel))
theorem dL_law_636 : decode cL_law 636 = .ok (.iaload, 1) := zr0 zk_46 (zat_w (k := 39) (p := 12) (w := zw_cL_law_39) zw_cL_law_ok rfl (by decide +kernel))
theorem dL_law_637 : decode cL_law 637 = .ok (.aload_n 0, 1) := zr0 zk_42 (zat_w (k := 39) (p := 13) (w := zw_cL_law_39) zw_cL_law_ok rfl (by decide +kernel))
theorem dL_law_638 : decode cL_law 638 = .ok (.iload_n 3, 1) := zr0 zk_29 (zat_w (k := 39) (p := 14) (w := zw_cL_law_39) zw_cL_law_ok rfl (by decide +kernel))
theorem dL_law_639 : decode cL_law 639 = .ok (.iconst 2, 1) := zr0 zk_5 (zat_w (k := 39) (p := 15) (w := zw_cL_law_39) zw_cL_law_ok rfl (by decide +kernel))
theorem dL_law_640 : decode cL_law 640 = .ok (.iadd, 1) := zr0 zk_96 (zat_w (k := 40) (p := 0) (w := zw_cL_law_40) zw_cL_law_ok rfl (by decide +kernel))
theorem dL_law_641 : decode cL_law 641 = .ok (.iaload, 1) := zr0 zk_46 (zat_w (k := 40) (p := 1) (w := zw_cL_law_40) zw_cL_law_ok rfl (by decide +kernel))
theorem dL_law_642 : decode cL_law 642 = .ok (.aload_n 0, 1) := zr0 zk_42 (zat_w (k := 40) (p := 2) (w := zw_cL_law_40) zw_cL_law_ok rfl (by decide +kernel))
theorem dL_law_643 : decode cL_law 643 = .ok (.iload_n 3, 1) := zr0 zk_29 (zat_w (k := 40) (p := 3) (w := zw_cL_law_40) zw_cL_law_ok rfl (by decide +kernel))
theorem dL_law_644 : decode cL_law 644 = .ok (.iconst 3, 1) := zr0 zk_6 (zat_w (k := 40) (p := 4) (w := zw_cL_law_40) zw_cL_law_ok rfl (by decide +kernel))
theorem dL_law_645 : decode cL_law 645 = .ok (.iadd, 1) := zr0 zk_96 (zat_w (k := 40) (p := 5) (w := zw_cL_law_40) zw_cL_law_ok rfl (by decide +kernel))
theorem dL_law_646 : decode cL_law 646 = .ok (.iaload, 1) := zr0 zk_46 (zat_w (k := 40) (p := 6) (w := zw_cL_law_40) zw_cL_law_ok rfl (by decide +kernel))
theorem dL_law_647 : decode cL_law 647 = .ok (.invokevirtual 68, 3) := zr2u zk_182 (x0 := 0) (x1 := 68) (zat_w (k := 40) (p := 7) (w := zw_cL_law_40) zw_cL_law_ok rfl (by decide +kernel)) (by decide +kernel)
theorem dL_law_650 : decode cL_law 650 = .ok (.pop2, 1) := zr0 zk_88 (zat_w (k := 40) (p := 10) (w := zw_cL_law_40) zw_cL_law_ok rfl (by decide +kernel))
theorem dL_law_651 : decode cL_law 651 = .ok (.goto 1113, 3) := zr2s zk_167 (x0 := 4) (x1 := 89) (zat_w (k := 40) (p := 11) (w := zw_cL_law_40) zw_cL_law_ok rfl (by decide +kernel)) (by decide +kernel)
theorem dL_law_654 : decode cL_law 654 = .ok (.aload_n 1, 1) := zr0 zk_43 (zat_w (k := 40) (p := 14) (w := zw_cL_law_40) zw_cL_law_ok rfl (by decide +kernel))
theorem dL_law_655 : decode cL_law 655 = .ok (.aload_n 0, 1) := zr0 zk_42 (zat_w (k := 40) (p := 15) (w := zw_cL_law_40) zw_cL_law_ok rfl (by decide +kernel))
theorem dL_law_656 : decode cL_law 656 = .ok (.iload_n 3, 1) := zr0 zk_29 (zat_w (k := 41) (p := 0) (w := zw_cL_law_41) zw_cL_law_ok rfl (by decide +kernel))
theorem dL_law_657 : decode cL_law 657 = .ok (.iconst 1, 1) := zr0 zk_4 (zat_w (k := 41) (p := 1) (w := zw_cL_law_41) zw_cL_law_ok rfl (by decide +kernel))
theorem dL_law_658 : decode cL_law 658 = .ok (.iadd, 1) := zr0 zk_96 (zat_w (k := 41) (p := 2) (w := zw_cL_law_41) zw_cL_law_ok rfl (by decide +kernel))
theorem dL_law_659 : decode cL_law 659 = .ok (.iaload, 1) := zr0 zk_46 (zat_w (k := 41) (p := 3) (w := zw_cL_law_41) zw_cL_law_ok rfl (by decide +kernel))
theorem dL_law_660 : decode cL_law 660 = .ok (.aload_n 0, 1) := zr0 zk_42 (zat_w (k := 41) (p := 4) (w := zw_cL_law_41) zw_cL_law_ok rfl (by decide +kernel))
theorem dL_law_661 : decode cL_law 661 = .ok (.iload_n 3, 1) := zr0 zk_29 (zat_w (k := 41) (p := 5) (w := zw_cL_law_41) zw_cL_law_ok rfl (by decide +kernel))
theorem dL_law_662 : decode cL_law 662 = .ok (.iconst 2, 1) := zr0 zk_5 (zat_w (k := 41) (p := 6) (w := zw_cL_law_41) zw_cL_law_ok rfl (by decide +kernel))
theorem dL_law_663 : decode cL_law 663 = .ok (.iadd, 1) := zr0 zk_96 (zat_w (k := 41) (p := 7) (w := zw_cL_law_41) zw_cL_law_ok rfl (by decide +kernel))
theorem dL_law_664 : decode cL_law 664 = .ok (.iaload, 1) := zr0 zk_46 (zat_w (k := 41) (p := 8) (w := zw_cL_law_41) zw_cL_law_ok rfl (by decide +kernel))
theorem dL_law_665 : decode cL_law 665 = .ok (.aload_n 0, 1) := zr0 zk_42 (zat_w (k := 41) (p := 9) (w := zw_cL_law_41) zw_cL_law_ok rfl (by decide +kernel))
theorem dL_law_666 : decode cL_law 666 = .ok (.iload_n 3, 1) := zr0 zk_29 (zat_w (k := 41) (p := 10) (w := zw_cL_law_41) zw_cL_law_ok rfl (by decide +kernel))
theorem dL_law_667 : decode cL_law 667 = .ok (.iconst 3, 1) := zr0 zk_6 (zat_w (k := 41) (p := 11) (w := zw_cL_law_41) zw_cL_law_ok rfl (by decide +kernel))
theorem dL_law_668 : decode cL_law 668 = .ok (.iadd, 1) := zr0 zk_96 (zat_w (k := 41) (p := 12) (w := zw_cL_law_41) zw_cL_law_ok rfl (by decide +kernel))
theorem dL_law_669 : decode cL_law 669 = .ok (.iaload, 1) := zr0 zk_46 (zat_w (k := 41) (p := 13) (w := zw_cL_law_41) zw_cL_law_ok rfl (by decide +kernel))
theorem dL_law_670 : decode cL_law 670 = .ok (.invokevirtual 69, 3) := zr2u zk_182 (x0 := 0) (x1 := 69) (zat_w (k := 41) (p := 14) (w := zw_cL_law_41) zw_cL_law_ok rfl (by decide +kernel)) (by decide +kernel)
theorem dL_law_673 : decode cL_law 673 = .ok (.pop, 1) := zr0 zk_87 (zat_w (k := 42) (p := 1) (w := zw_cL_law_42) zw_cL_law_ok rfl (by decide +kernel))
theorem dL_law_674 : decode cL_law 674 = .ok (.aload_n 2, 1) := zr0 zk_44 (zat_w (k := 42) (p := 2) (w := zw_cL_law_42) zw_cL_law_ok rfl (by decide +kernel))
theorem dL_law_675 : decode cL_law 675 = .ok (.aload_n 0, 1) := zr0 zk_42 (zat_w (k := 42) (p := 3) (w := zw_cL_law_42) zw_cL_law_ok rfl (by decide +kernel))
theorem dL_law_676 : decode cL_law 676 = .ok (.iload_n 3, 1) := zr0 zk_29 (zat_w (k := 42) (p := 4) (w := zw_cL_law_42) zw_cL_law_ok rfl (by decide +kernel))
theorem dL_law_677 : decode cL_law 677 = .ok (.iconst 1, 1) := zr0 zk_4 (zat_w (k := 42) (p := 5) (w := zw_cL_law_42) zw_cL_law_ok rfl (by decide +kernel))
theorem dL_law_678 : decode cL_law 678 = .ok (.iadd, 1) := zr0 zk_96 (zat_w (k := 42) (p := 6) (w := zw_cL_law_42) zw_cL_law_ok rfl (by decide +kernel))
theorem dL_law_679 : decode cL_law 679 = .ok (.iaload, 1) := zr0 zk_46 (zat_w (k := 42) (p := 7) (w := zw_cL_law_42) zw_cL_law_ok rfl (by decide +kernel))
theorem dL_law_680 : decode cL_law 680 = .ok (.aload_n 0, 1) := zr0 zk_42 (zat_w (k := 42) (p := 8) (w := zw_cL_law_42) zw_cL_law_ok rfl (by decide +kernel))
theorem dL_law_681 : decode cL_law 681 = .ok (.iload_n 3, 1) := zr0 zk_29 (zat_w (k := 42) (p := 9) (w := zw_cL_law_42) zw_cL_law_ok rfl (by decide +kernel))
theorem dL_law_682 : decode cL_law 682 = .ok (.iconst 2, 1) := zr0 zk_5 (zat_w (k := 42) (p := 10) (w := zw_cL_law_42) zw_cL_law_ok rfl (by decide +kernel))
theorem dL_law_683 : decode cL_law 683 = .ok (.iadd, 1) := zr0 zk_96 (zat_w (k := 42) (p := 11) (w := zw_cL_law_42) zw_cL_law_ok rfl (by decide +kernel))
theorem dL_law_684 : decode cL_law 684 = .ok (.iaload, 1) := zr0 zk_46 (zat_w (k := 42) (p := 12) (w := zw_cL_law_42) zw_cL_law_ok rfl (by decide +kernel))
theorem dL_law_685 : decode cL_law 685 = .ok (.aload_n 0, 1) := zr0 zk_42 (zat_w (k := 42) (p := 13) (w := zw_cL_law_42) zw_cL_law_ok rfl (by decide +kernel))
theorem dL_law_686 : decode cL_law 686 = .ok (.iload_n 3, 1) := zr0 zk_29 (zat_w (k := 42) (p := 14) (w := zw_cL_law_42) zw_cL_law_ok rfl (by decide +kernel))
theorem dL_law_687 : decode cL_law 687 = .ok (.iconst 3, 1) := zr0 zk_6 (zat_w (k := 42) (p := 15) (w := zw_cL_law_42) zw_cL_law_ok rfl (by decide +kernel))
theorem dL_law_688 : decode cL_law 688 = .ok (.iadd, 1) := zr0 zk_96 (zat_w (k := 43) (p := 0) (w := zw_cL_law_43) zw_cL_law_ok rfl (by decide +kernel))
theorem dL_law_689 : decode cL_law 689 = .ok (.iaload, 1) := zr0 zk_46 (zat_w (k := 43) (p := 1) (w := zw_cL_law_43) zw_cL_law_ok rfl (by decide +kernel))
theorem dL_law_690 : decode cL_law 690 = .ok (.invokevirtual 72, 3) := zr2u zk_182 (x0 := 0) (x1 := 72) (zat_w (k := 43) (p := 2) (w := zw_cL_law_43) zw_cL_law_ok rfl (by decide +kernel)) (by decide +kernel)
theorem dL_law_693 : decode cL_law 693 = .ok (.pop, 1) := zr0 zk_87 (zat_w (k := 43) (p := 5) (w := zw_cL_law_43) zw_cL_law_ok rfl (by decide +kernel))
theorem dL_law_694 : decode cL_law 694 = .ok (.goto 1070, 3) := zr2s zk_167 (x0 := 4) (x1 := 46) (zat_w (k := 43) (p := 6) (w := zw_cL_law_43) zw_cL_law_ok rfl (by decide +kernel)) (by decide +kernel)
theorem dL_law_697 : decode cL_law 697 = .ok (.aload_n 1, 1) := zr0 zk_43 (zat_w (k := 43) (p := 9) (w := zw_cL_law_43) zw_cL_law_ok rfl (by decide +kernel))
theorem dL_law_698 : decode cL_law 698 = .ok (.aload_n 0, 1) := zr0 zk_42 (zat_w (k := 43) (p := 10) (w := zw_cL_law_43) zw_cL_law_ok rfl (by decide +kernel))
theorem dL_law_699 : decode cL_law 699 = .ok (.iload_n 3, 1) := zr0 zk_29 (zat_w (k := 43) (p := 11) (w := zw_cL_law_43) zw_cL_law_ok rfl (by decide +kernel))
theorem dL_law_700 : decode cL_law 700 = .ok (.iconst 1, 1) := zr0 zk_4 (zat_w (k := 43) (p := 12) (w := zw_cL_law_43) zw_cL_law_ok rfl (by decide +kernel))
theorem dL_law_701 : decode cL_law 701 = .ok (.iadd, 1) := zr0 zk_96 (zat_w (k := 43) (p := 13) (w := zw_cL_law_43) zw_cL_law_ok rfl (by decide +kernel))
theorem dL_law_702 : decode cL_law 702 = .ok (.iaload, 1) := zr0 zk_46 (zat_w (k := 43) (p := 14) (w := zw_cL_law_43) zw_cL_law_ok rfl (by decide +kernel))
theorem dL_law_703 : decode cL_law 703 = .ok (.aload_n 0, 1) := zr0 zk_42 (zat_w (k := 43) (p := 15) (w := zw_cL_law_43) zw_cL_law_ok rfl (by decide +kernel))
theorem dL_law_704 : decode cL_law 704 = .ok (.iload_n 3, 1) := zr0 zk_29 (zat_w (k := 44) (p := 0) (w := zw_cL_law_44) zw_cL_law_ok rfl (by decide +kernel))
theorem dL_law_705 : decode cL_law 705 = .ok (.iconst 2, 1) := zr0 zk_5 (zat_w (k := 44) (p := 1) (w := zw_cL_law_44) zw_cL_law_ok rfl (by decide +kernel))
theorem dL_law_706 : decode cL_law 706 = .ok (.iadd, 1) := zr0 zk_96 (zat_w (k := 44) (p := 2) (w := zw_cL_law_44) zw_cL_law_ok rfl (by decide +kernel))
theorem dL_law_707 : decode cL_law 707 = .ok (.iaload, 1) := zr0 zk_46 (zat_w (k := 44) (p := 3) (w := zw_cL_law_44) zw_cL_law_ok rfl (by decide +kernel))
theorem dL_law_708 : decode cL_law 708 = .ok (.aload_n 0, 1) := zr0 zk_42 (zat_w (k := 44) (p := 4) (w := zw_cL_law_44) zw_cL_law_ok rfl (by decide +kernel))
theorem dL_law_709 : decode cL_law 709 = .ok (.iload_n 3, 1) := zr0 zk_29 (zat_w (k := 44) (p := 5) (w := zw_cL_law_44) zw_cL_law_ok rfl (by decide +kernel))
theorem dL_law_710 : decode cL_law 710 = .ok (.iconst 3, 1) := zr0 zk_6 (zat_w (k := 44) (p := 6) (w := zw_cL_law_44) zw_cL_law_ok rfl (by decide +kernel))
theorem dL_law_711 : decode cL_law 711 = .ok (.iadd, 1) := zr0 zk_96 (zat_w (k := 44) (p := 7) (w := zw_cL_law_44) zw_cL_law_ok rfl (by decide +kernel))
theorem dL_law_712 : decode cL_law 712 = .ok (.iaload, 1) := zr0 zk_46 (zat_w (k := 44) (p := 8) (w := zw_cL_law_44) zw_cL_law_ok rfl (by decide +kernel))
theorem dL_law_713 : decode cL_law 713 = .ok (.invokevirtual 73, 3) := zr2u zk_182 (x0 := 0) (x1 := 73) (zat_w (k := 44) (p := 9) (w := zw_cL_law_44) zw_cL_law_ok rfl (by decide +kernel)) (by decide +kernel)
theorem dL_law_716 : decode cL_law 716 = .ok (.pop2, 1) := zr0 zk_88 (zat_w (k := 44) (p := 12) (w := zw_cL_law_44) zw_cL_law_ok rfl (by decide +kernel))
theorem dL_law_717 : decode cL_law 717 = .ok (.aload_n 2, 1) := zr0 zk_44 (zat_w (k := 44) (p := 13) (w := zw_cL_law_44) zw_cL_law_ok rfl (by decide +kernel))
theorem dL_law_718 : decode cL_law 718 = .ok (.aload_n 0, 1) := zr0 zk_42 (zat_w (k := 44) (p := 14) (w := zw_cL_law_44) zw_cL_law_ok rfl (by decide +kernel))
theorem dL_law_719 : decode cL_law 719 = .ok (.iload_n 3, 1) := zr0 zk_29 (zat_w (k := 44) (p := 15) (w := zw_cL_law_44) zw_cL_law_ok rfl (by decide +kernel))
theorem dL_law_720 : decode cL_law 720 = .ok (.iconst 1, 1) := zr0 zk_4 (zat_w (k := 45) (p := 0) (w := zw_cL_law_45) zw_cL_law_ok rfl (by decide +kernel))
theorem dL_law_721 : decode cL_law 721 = .ok (.iadd, 1) := zr0 zk_96 (zat_w (k := 45) (p := 1) (w := zw_cL_law_45) zw_cL_law_ok rfl (by decide +kernel))
theorem dL_law_722 : decode cL_law 722 = .ok (.iaload, 1) := zr0 zk_46 (zat_w (k := 45) (p := 2) (w := zw_cL_law_45) zw_cL_law_ok rfl (by decide +kernel))
theorem dL_law_723 : decode cL_law 723 = .ok (.aload_n 0, 1) := zr0 zk_42 (zat_w (k := 45) (p := 3) (w := zw_cL_law_45) zw_cL_law_ok rfl (by decide +kernel))
theorem dL_law_724 : decode cL_law 724 = .ok (.iload_n 3, 1) := zr0 zk_29 (zat_w (k := 45) (p := 4) (w := zw_cL_law_45) zw_cL_law_ok rfl (by decide +kernel))
theorem dL_law_725 : decode cL_law 725 = .ok (.iconst 2, 1) := zr0 zk_5 (zat_w (k := 45) (p := 5) (w := zw_cL_law_45) zw_cL_law_ok rfl (by decide +kernel))
theorem dL_law_726 : decode cL_law 726 = .ok (.iadd, 1) := zr0 zk_96 (zat_w (k := 45) (p := 6) (w := zw_cL_law_45) zw_cL_law_ok rfl (by decide +kernel))
theorem dL_law_727 : decode cL_law 727 = .ok (.iaload, 1) := zr0 zk_46 (zat_w (k := 45) (p := 7) (w := zw_cL_law_45) zw_cL_law_ok rfl (by decide +kernel))
theorem dL_law_728 : decode cL_law 728 = .ok (.aload_n 0, 1) := zr0 zk_42 (zat_w (k := 45) (p := 8) (w := zw_cL_law_45) zw_cL_law_ok rfl (by decide +kernel))
theorem dL_law_729 : decode cL_law 729 = .ok (.iload_n 3, 1) := zr0 zk_29 (zat_w (k := 45) (p := 9) (w := zw_cL_law_45) zw_cL_law_ok rfl (by decide +kernel))
theorem dL_law_730 : decode cL_law 730 = .ok (.iconst 3, 1) := zr0 zk_6 (zat_w (k := 45) (p := 10) (w := zw_cL_law_45) zw_cL_law_ok rfl (by decide +kernel))
theorem dL_law_731 : decode cL_law 731 = .ok (.iadd, 1) := zr0 zk_96 (zat_w (k := 45) (p := 11) (w := zw_cL_law_45) zw_cL_law_ok rfl (by decide +kernel))
theorem dL_law_732 : decode cL_law 732 = .ok (.iaload, 1) := zr0 zk_46 (zat_w (k := 45) (p := 12) (w := zw_cL_law_45) zw_cL_law_ok rfl (by decide +kernel))
theorem dL_law_733 : decode cL_law 733 = .ok (.invokevirtual 76, 3) := zr2u zk_182 (x0 := 0) (x1 := 76) (zat_w (k := 45) (p := 13) (w := zw_cL_law_45) zw_cL_law_ok rfl (by decide +kernel)) (by decide +kernel)
theorem dL_law_736 : decode cL_law 736 = .ok (.pop2, 1) := zr0 zk_88 (zat_w (k := 46) (p := 0) (w := zw_cL_law_46) zw_cL_law_ok rfl (by decide +kernel))
theorem dL_law_737 : decode cL_law 737 = .ok (.goto 1027, 3) := zr2s zk_167 (x0 := 4) (x1 := 3) (zat_w (k := 46) (p := 1) (w := zw_cL_law_46) zw_cL_law_ok rfl (by decide +kernel)) (by decide +kernel)
theorem dL_law_740 : decode cL_law 740 = .ok (.aload_n 1, 1) := zr0 zk_43 (zat_w (k := 46) (p := 4) (w := zw_cL_law_46) zw_cL_law_ok rfl (by decide +kernel))
theorem dL_law_741 : decode cL_law 741 = .ok (.aload_n 0, 1) := zr0 zk_42 (zat_w (k := 46) (p := 5) (w := zw_cL_law_46) zw_cL_law_ok rfl (by decide +kernel))
theorem dL_law_742 : decode cL_law 742 = .ok (.iload_n 3, 1) := zr0 zk_29 (zat_w (k := 46) (p := 6) (w := zw_cL_law_46) zw_cL_law_ok rfl (by decide +kernel))
theorem dL_law_743 : decode cL_law 743 = .ok (.iconst 1, 1) := zr0 zk_4 (zat_w (k := 46) (p := 7) (w := zw_cL_law_46) zw_cL_law_ok rfl (by decide +kernel))
theorem dL_law_744 : decode cL_law 744 = .ok (.iadd, 1) := zr0 zk_96 (zat_w (k := 46) (p := 8) (w := zw_cL_law_46) zw_cL_law_ok rfl (by decide +kernel))
theorem dL_law_745 : decode cL_law 745 = .ok (.iaload, 1) := zr0 zk_46 (zat_w (k := 46) (p := 9) (w := zw_cL_law_46) zw_cL_law_ok rfl (by decide +kernel))
theorem dL_law_746 : decode cL_law 746 = .ok (.aload_n 0, 1) := zr0 zk_42 (zat_w (k := 46) (p := 10) (w := zw_cL_law_46) zw_cL_law_ok rfl (by decide +kernel))
theorem dL_law_747 : decode cL_law 747 = .ok (.iload_n 3, 1) := zr0 zk_29 (zat_w (k := 46) (p := 11) (w := zw_cL_law_46) zw_cL_law_ok rfl (by decide +kernel))
theorem dL_law_748 : decode cL_law 748 = .ok (.iconst 2, 1) := zr0 zk_5 (zat_w (k := 46) (p := 12) (w := zw_cL_law_46) zw_cL_law_ok rfl (by decide +kernel))
theorem dL_law_749 : decode cL_law 749 = .ok (.iadd, 1) := zr0 zk_96 (zat_w (k := 46) (p := 13) (w := zw_cL_law_46) zw_cL_law_ok rfl (by decide +kernel))
theorem dL_law_750 : decode cL_law 750 = .ok (.iaload, 1) := zr0 zk_46 (zat_w (k := 46) (p := 14) (w := zw_cL_law_46) zw_cL_law_ok rfl (by decide +kernel))
theorem dL_law_751 : decode cL_law 751 = .ok (.invokevirtual 77, 3) := zr2u zk_182 (x0 := 0) (x1 := 77) (zat_w (k := 46) (p := 15) (w := zw_cL_law_46) zw_cL_law_ok rfl (by decide +kernel)) (by decide +kernel)
theorem dL_law_754 : decode cL_law 754 = .ok (.pop2, 1) := zr0 zk_88 (zat_w (k := 47) (p := 2) (w := zw_cL_law_47) zw_cL_law_ok rfl (by decide +kernel))
theorem dL_law_755 : decode cL_law 755 = .ok (.aload_n 2, 1) := zr0 zk_44 (zat_w (k := 47) (p := 3) (w := zw_cL_law_47) zw_cL_law_ok rfl (by decide +kernel))
theorem dL_law_756 : decode cL_law 756 = .ok (.aload_n 0, 1) := zr0 zk_42 (zat_w (k := 47) (p := 4) (w := zw_cL_law_47) zw_cL_law_ok rfl (by decide +kernel))
theorem dL_law_757 : decode cL_law 757 = .ok (.iload_n 3, 1) := zr0 zk_29 (zat_w (k := 47) (p := 5) (w := zw_cL_law_47) zw_cL_law_ok rfl (by decide +kernel))
theorem dL_law_758 : decode cL_law 758 = .ok (.iconst 1, 1) := zr0 zk_4 (zat_w (k := 47) (p := 6) (w := zw_cL_law_47) zw_cL_law_ok rfl (by decide +kernel))
theorem dL_law_759 : decode cL_law 759 = .ok (.iadd, 1) := zr0 zk_96 (zat_w (k := 47) (p := 7) (w := zw_cL_law_47) zw_cL_law_ok rfl (by decide +kernel))
theorem dL_law_760 : decode cL_law 760 = .ok (.iaload, 1) := zr0 zk_46 (zat_w (k := 47) (p := 8) (w := zw_cL_law_47) zw_cL_law_ok rfl (by decide +kernel))
theorem dL_law_761 : decode cL_law 761 = .ok (.aload_n 0, 1) := zr0 zk_42 (zat_w (k := 47) (p := 9) (w := zw_cL_law_47) zw_cL_law_ok rfl (by decide +kernel))
theorem dL_law_762 : decode cL_law 762 = .ok (.iload_n 3, 1) := zr0 zk_29 (zat_w (k := 47) (p := 10) (w := zw_cL_law_47) zw_cL_law_ok rfl (by decide +kernel))
theorem dL_law_763 : decode cL_law 763 = .ok (.iconst 2, 1) := zr0 zk_5 (zat_w (k := 47) (p := 11) (w := zw_cL_law_47) zw_cL_law_ok rfl (by decide +kernel))
theorem dL_law_764 : decode cL_law 764 = .ok (.iadd, 1) := zr0 zk_96 (zat_w (k := 47) (p := 12) (w := zw_cL_law_47) zw_cL_law_ok rfl (by decide +kernel))
theorem dL_law_765 : decode cL_law 765 = .ok (.iaload, 1) := zr0 zk_46 (zat_w (k := 47) (p := 13) (w := zw_cL_law_47) zw_cL_law_ok rfl (by decide +kernel))
theorem dL_law_766 : decode cL_law 766 = .ok (.invokevirtual 80, 3) := zr2u zk_182 (x0 := 0) (x1 := 80) (zat_w (k := 47) (p := 14) (w := zw_cL_law_47) zw_cL_law_ok rfl (by decide +kernel)) (by decide +kernel)
theorem dL_law_769 : decode cL_law 769 = .ok (.pop2, 1) := zr0 zk_88 (zat_w (k := 48) (p := 1) (w := zw_cL_law_48) zw_cL_law_ok rfl (by decide +kernel))
theorem dL_law_770 : decode cL_law 770 = .ok (.goto 994, 3) := zr2s zk_167 (x0 := 3) (x1 := 226) (zat_w (k := 48) (p := 2) (w := zw_cL_law_48) zw_cL_law_ok rfl (by decide +kernel)) (by decide +kernel)
theorem dL_law_773 : decode cL_law 773 = .ok (.aload_n 1, 1) := zr0 zk_43 (zat_w (k := 48) (p := 5) (w := zw_cL_law_48) zw_cL_law_ok rfl (by decide +kernel))
theorem dL_law_774 : decode cL_law 774 = .ok (.aload_n 0, 1) := zr0 zk_42 (zat_w (k := 48) (p := 6) (w := zw_cL_law_48) zw_cL_law_ok rfl (by decide +kernel))
theorem dL_law_775 : decode cL_law 775 = .ok (.iload_n 3, 1) := zr0 zk_29 (zat_w (k := 48) (p := 7) (w := zw_cL_law_48) zw_cL_law_ok rfl (by decide +kernel))
theorem dL_law_776 : decode cL_law 776 = .ok (.iconst 1, 1) := zr0 zk_4 (zat_w (k := 48) (p := 8) (w := zw_cL_law_48) zw_cL_law_ok rfl (by decide +kernel))
theorem dL_law_777 : decode cL_law 777 = .ok (.iadd, 1) := zr0 zk_96 (zat_w (k := 48) (p := 9) (w := zw_cL_law_48) zw_cL_law_ok rfl (by decide +kernel))
theorem dL_law_778 : decode cL_law 778 = .ok (.iaload, 1) := zr0 zk_46 (zat_w (k := 48) (p := 10) (w := zw_cL_law_48) zw_cL_law_ok rfl (by decide +kernel))
theorem dL_law_779 : decode cL_law 779 = .ok (.aload_n 0, 1) := zr0 zk_42 (zat_w (k := 48) (p := 11) (w := zw_cL_law_48) zw_cL_law_ok rfl (by decide +kernel))
theorem dL_law_780 : decode cL_law 780 = .ok (.iload_n 3, 1) := zr0 zk_29 (zat_w (k := 48) (p := 12) (w := zw_cL_law_48) zw_cL_law_ok rfl (by decide +kernel))
theorem dL_law_781 : decode cL_law 781 = .ok (.iconst 2, 1) := zr0 zk_5 (zat_w (k := 48) (p := 13) (w := zw_cL_law_48) zw_cL_law_ok rfl (by decide +kernel))
theorem dL_law_782 : decode cL_law 782 = .ok (.iadd, 1) := zr0 zk_96 (zat_w (k := 48) (p := 14) (w := zw_cL_law_48) zw_cL_law_ok rfl (by decide +kernel))
theorem dL_law_783 : decode cL_law 783 = .ok (.iaload, 1) := zr0 zk_46 (zat_w (k := 48) (p := 15) (w := zw_cL_law_48) zw_cL_law_ok rfl (by decide +kernel))
theorem dL_law_784 : decode cL_law 784 = .ok (.aload_n 0, 1) := zr0 zk_42 (zat_w (k := 49) (p := 0) (w := zw_cL_law_49) zw_cL_law_ok rfl (by decide +kernel))
theorem dL_law_785 : decode cL_law 785 = .ok (.iload_n 3, 1) := zr0 zk_29 (zat_w (k := 49) (p := 1) (w := zw_cL_law_49) zw_cL_law_ok rfl (by decide +kernel))
theorem dL_law_786 : decode cL_law 786 = .ok (.iconst 3, 1) := zr0 zk_6 (zat_w (k := 49) (p := 2) (w := zw_cL_law_49) zw_cL_law_ok rfl (by decide +kernel))
theorem dL_law_787 : decode cL_law 787 = .ok (.iadd, 1) := zr0 zk_96 (zat_w (k := 49) (p := 3) (w := zw_cL_law_49) zw_cL_law_ok rfl (by decide +kernel))
theorem dL_law_788 : decode cL_law 788 = .ok (.iaload, 1) := zr0 zk_46 (zat_w (k := 49) (p := 4) (w := zw_cL_law_49) zw_cL_law_ok rfl (by decide +kernel))
theorem dL_law_789 : decode cL_law 789 = .ok (.invokevirtual 81, 3) := zr2u zk_182 (x0 := 0) (x1 := 81) (zat_w (k := 49) (p := 5) (w := zw_cL_law_49) zw_cL_law_ok rfl (by decide +kernel)) (by decide +kernel)
theorem dL_law_792 : decode cL_law 792 = .ok (.pop2, 1) := zr0 zk_88 (zat_w (k := 49) (p := 8) (w := zw_cL_law_49) zw_cL_law_ok rfl (by decide +kernel))
theorem dL_law_793 : decode cL_law 793 = .ok (.aload_n 2, 1) := zr0 zk_44 (zat_w (k := 49) (p := 9) (w := zw_cL_law_49) zw_cL_law_ok rfl (by decide +kernel))
theorem dL_law_794 : decode cL_law 794 = .ok (.aload_n 0, 1) := zr0 zk_42 (zat_w (k := 49) (p := 10) (w := zw_cL_law_49) zw_cL_law_ok rfl (by decide +kernel))
theorem dL_law_795 : decode cL_law 795 = .ok (.iload_n 3, 1) := zr0 zk_29 (zat_w (k := 49) (p := 11) (w := zw_cL_law_49) zw_cL_law_ok rfl (by decide +kernel))
theorem dL_law_796 : decode cL_law 796 = .ok (.iconst 1, 1) := zr0 zk_4 (zat_w (k := 49) (p := 12) (w := zw_cL_law_49) zw_cL_law_ok rfl (by decide +kernel))
theorem dL_law_797 : decode cL_law 797 = .ok (.iadd, 1) := zr0 zk_96 (zat_w (k := 49) (p := 13) (w := zw_cL_law_49) zw_cL_law_ok rfl (by decide +kernel))
theorem dL_law_798 : decode cL_law 798 = .ok (.iaload, 1) := zr0 zk_46 (zat_w (k := 49) (p := 14) (w := zw_cL_law_49) zw_cL_law_ok rfl (by decide +kernel))
theorem dL_law_799 : decode cL_law 799 = .ok (.aload_n 0, 1) := zr0 zk_42 (zat_w (k := 49) (p := 15) (w := zw_cL_law_49) zw_cL_law_ok rfl (by decide +kernel))
theorem dL_law_800 : decode cL_law 800 = .ok (.iload_n 3, 1) := zr0 zk_29 (zat_w (k := 50) (p := 0) (w := zw_cL_law_50) zw_cL_law_ok rfl (by decide +kernel))
theorem dL_law_801 : decode cL_law 801 = .ok (.iconst 2, 1) := zr0 zk_5 (zat_w (k := 50) (p := 1) (w := zw_cL_law_50) zw_cL_law_ok rfl (by decide +kernel))
theorem dL_law_802 : decode cL_law 802 = .ok (.iadd, 1) := zr0 zk_96 (zat_w (k := 50) (p := 2) (w := zw_cL_law_50) zw_cL_law_ok rfl (by decide +kernel))
theorem dL_law_803 : decode cL_law 803 = .ok (.iaload, 1) := zr0 zk_46 (zat_w (k := 50) (p := 3) (w := zw_cL_law_50) zw_cL_law_ok rfl (by decide +kernel))
theorem dL_law_804 : decode cL_law 804 = .ok (.aload_n 0, 1) := zr0 zk_42 (zat_w (k := 50) (p := 4) (w := zw_cL_law_50) zw_cL_law_ok rfl (by decide +kernel))
theorem dL_law_805 : decode cL_law 805 = .ok (.iload_n 3, 1) := zr0 zk_29 (zat_w (k := 50) (p := 5) (w := zw_cL_law_50) zw_cL_law_ok rfl (by decide +kernel))
theorem dL_law_806 : decode cL_law 806 = .ok (.iconst 3, 1) := zr0 zk_6 (zat_w (k := 50) (p := 6) (w := zw_cL_law_50) zw_cL_law_ok rfl (by decide +kernel))
theorem dL_law_807 : decode cL_law 807 = .ok (.iadd, 1) := zr0 zk_96 (zat_w (k := 50) (p := 7) (w := zw_cL_law_50) zw_cL_law_ok rfl (by decide +kernel))
theorem dL_law_808 : decode cL_law 808 = .ok (.iaload, 1) := zr0 zk_46 (zat_w (k := 50) (p := 8) (w := zw_cL_law_50) zw_cL_law_ok rfl (by decide +kernel))
theorem dL_law_809 : decode cL_law 809 = .ok (.invokevirtual 84, 3) := zr2u zk_182 (x0 := 0) (x1 := 84) (zat_w (k := 50) (p := 9) (w := zw_cL_law_50) zw_cL_law_ok rfl (by decide +kernel)) (by decide +kernel)
theorem dL_law_812 : decode cL_law 812 = .ok (.pop2, 1) := zr0 zk_88 (zat_w (k := 50) (p := 12) (w := zw_cL_law_50) zw_cL_law_ok rfl (by decide +kernel))
theorem dL_law_813 : decode cL_law 813 = .ok (.goto 951, 3) := zr2s zk_167 (x0 := 3) (x1 := 183) (zat_w (k := 50) (p := 13) (w := zw_cL_law_50) zw_cL_law_ok rfl (by decide +kernel)) (by decide +kernel)
theorem dL_law_816 : decode cL_law 816 = .ok (.aload_n 1, 1) := zr0 zk_43 (zat_w (k := 51) (p := 0) (w := zw_cL_law_51) zw_cL_law_ok rfl (by decide +kernel))
theorem dL_law_817 : decode cL_law 817 = .ok (.aload_n 0, 1) := zr0 zk_42 (zat_w (k := 51) (p := 1) (w := zw_cL_law_51) zw_cL_law_ok rfl (by decide +kernel))
theorem dL_law_818 : decode cL_law 818 = .ok (.iload_n 3, 1) := zr0 zk_29 (zat_w (k := 51) (p := 2) (w := zw_cL_law_51) zw_cL_law_ok rfl (by decide +kernel))
theorem dL_law_819 : decode cL_law 819 = .ok (.iconst 1, 1) := zr0 zk_4 (zat_w (k := 51) (p := 3) (w := zw_cL_law_51) zw_cL_law_ok rfl (by decide +kernel))
theorem dL_law_820 : decode cL_law 820 = .ok (.iadd, 1) := zr0 zk_96 (zat_w (k := 51) (p := 4) (w := zw_cL_law_51) zw_cL_law_ok rfl (by decide +kernel))
theorem dL_law_821 : decode cL_law 821 = .ok (.iaload, 1) := zr0 zk_46 (zat_w (k := 51) (p := 5) (w := zw_cL_law_51) zw_cL_law_ok rfl (by decide +kernel))
theorem dL_law_822 : decode cL_law 822 = .ok (.aload_n 0, 1) := zr0 zk_42 (zat_w (k := 51) (p := 6) (w := zw_cL_law_51) zw_cL_law_ok rfl (by decide +kernel))
theorem dL_law_823 : decode cL_law 823 = .ok (.iload_n 3, 1) := zr0 zk_29 (zat_w (k := 51) (p := 7) (w := zw_cL_law_51) zw_cL_law_ok rfl (by decide +kernel))
theorem dL_law_824 : decode cL_law 824 = .ok (.iconst 2, 1) := zr0 zk_5 (zat_w (k := 51) (p := 8) (w := zw_cL_law_51) zw_cL_law_ok rfl (by decide +kernel))
theorem dL_law_825 : decode cL_law 825 = .ok (.iadd, 1) := zr0 zk_96 (zat_w (k := 51) (p := 9) (w := zw_cL_law_51) zw_cL_law_ok rfl (by decide +kernel))
theorem dL_law_826 : decode cL_law 826 = .ok (.iaload, 1) := zr0 zk_46 (zat_w (k := 51) (p := 10) (w := zw_cL_law_51) zw_cL_law_ok rfl (by decide +kernel))
theorem dL_law_827 : decode cL_law 827 = .ok (.aload_n 0, 1) := zr0 zk_42 (zat_w (k := 51) (p := 11) (w := zw_cL_law_51) zw_cL_law_ok rfl (by decide +kernel))
theorem dL_law_828 : decode cL_law 828 = .ok (.iload_n 3, 1) := zr0 zk_29 (zat_w (k := 51) (p := 12) (w := zw_cL_law_51) zw_cL_law_ok rfl (by decide +kernel))
theorem dL_law_829 : decode cL_law 829 = .ok (.iconst 3, 1) := zr0 zk_6 (zat_w (k := 51) (p := 13) (w := zw_cL_law_51) zw_cL_law_ok rfl (by decide +kernel))
theorem dL_law_830 : decode cL_law 830 = .ok (.iadd, 1) := zr0 zk_96 (zat_w (k := 51) (p := 14) (w := zw_cL_law_51) zw_cL_law_ok rfl (by decide +kernel))
theorem dL_law_831 : decode cL_law 831 = .ok (.iaload, 1) := zr0 zk_46 (zat_w (k := 51) (p := 15) (w := zw_cL_law_51) zw_cL_law_ok rfl (by decide +kernel))
theorem dL_law_832 : decode cL_law 832 = .ok (.invokevirtual 85, 3) := zr2u zk_182 (x0 := 0) (x1 := 85) (zat_w (k := 52) (p := 0) (w := zw_cL_law_52) zw_cL_law_ok rfl (by decide +kernel)) (by decide +kernel)
theorem dL_law_835 : decode cL_law 835 = .ok (.pop2, 1) := zr0 zk_88 (zat_w (k := 52) (p := 3) (w := zw_cL_law_52) zw_cL_law_ok rfl (by decide +kernel))
theorem dL_law_836 : decode cL_law 836 = .ok (.aload_n 2, 1) := zr0 zk_44 (zat_w (k := 52) (p := 4) (w := zw_cL_law_52) zw_cL_law_ok rfl (by decide +kernel))
theorem dL_law_837 : decode cL_law 837 = .ok (.aload_n 0, 1) := zr0 zk_42 (zat_w (k := 52) (p := 5) (w := zw_cL_law_52) zw_cL_law_ok rfl (by decide +kernel))
theorem dL_law_838 : decode cL_law 838 = .ok (.iload_n 3, 1) := zr0 zk_29 (zat_w (k := 52) (p := 6) (w := zw_cL_law_52) zw_cL_law_ok rfl (by decide +kernel))
theorem dL_law_839 : decode cL_law 839 = .ok (.iconst 1, 1) := zr0 zk_4 (zat_w (k := 52) (p := 7) (w := zw_cL_law_52) zw_cL_law_ok rfl (by decide +kernel))
theorem dL_law_840 : decode cL_law 840 = .ok (.iadd, 1) := zr0 zk_96 (zat_w (k := 52) (p := 8) (w := zw_cL_law_52) zw_cL_law_ok rfl (by decide +kernel))
theorem dL_law_841 : decode cL_law 841 = .ok (.iaload, 1) := zr0 zk_46 (zat_w (k := 52) (p := 9) (w := zw_cL_law_52) zw_cL_law_ok rfl (by decide +kernel))
theorem dL_law_842 : decode cL_law 842 = .ok (.aload_n 0, 1) := zr0 zk_42 (zat_w (k := 52) (p := 10) (w := zw_cL_law_52) zw_cL_law_ok rfl (by decide +kernel))
theorem dL_law_843 : decode cL_law 843 = .ok (.iload_n 3, 1) := zr0 zk_29 (zat_w (k := 52) (p := 11) (w := zw_cL_law_52) zw_cL_law_ok rfl (by decide +kernel))
theorem dL_law_844 : decode cL_law 844 = .ok (.iconst 2, 1) := zr0 zk_5 (zat_w (k := 52) (p := 12) (w := zw_cL_law_52) zw_cL_law_ok rfl (by decide +kernel))
theorem dL_law_845 : decode cL_law 845 = .ok (.iadd, 1) := zr0 zk_96 (zat_w (k := 52) (p := 13) (w := zw_cL_law_52) zw_cL_law_ok rfl (by decide +kernel))
theorem dL_law_846 : decode cL_law 846 = .ok (.iaload, 1) := zr0 zk_46 (zat_w (k := 52) (p := 14) (w := zw_cL_law_52) zw_cL_law_ok rfl (by decide +kernel))
theorem dL_law_847 : decode cL_law 847 = .ok (.aload_n 0, 1) := zr0 zk_42 (zat_w (k := 52) (p := 15) (w := zw_cL_law_52) zw_cL_law_ok rfl (by decide +kernel))
theorem dL_law_848 : decode cL_law 848 = .ok (.iload_n 3, 1) := zr0 zk_29 (zat_w (k := 53) (p := 0) (w := zw_cL_law_53) zw_cL_law_ok rfl (by decide +kernel))
theorem dL_law_849 : decode cL_law 849 = .ok (.iconst 3, 1) := zr0 zk_6 (zat_w (k := 53) (p := 1) (w := zw_cL_law_53) zw_cL_law_ok rfl (by decide +kernel))
theorem dL_law_850 : decode cL_law 850 = .ok (.iadd, 1) := zr0 zk_96 (zat_w (k := 53) (p := 2) (w := zw_cL_law_53) zw_cL_law_ok rfl (by decide +kernel))
theorem dL_law_851 : decode cL_law 851 = .ok (.iaload, 1) := zr0 zk_46 (zat_w (k := 53) (p := 3) (w := zw_cL_law_53) zw_cL_law_ok rfl (by decide +kernel))
theorem dL_law_852 : decode cL_law 852 = .ok (.invokevirtual 88, 3) := zr2u zk_182 (x0 := 0) (x1 := 88) (zat_w (k := 53) (p := 4) (w := zw_cL_law_53) zw_cL_law_ok rfl (by decide +kernel)) (by decide +kernel)
theorem dL_law_855 : decode cL_law 855 = .ok (.pop2, 1) := zr0 zk_88 (zat_w (k := 53) (p := 7) (w := zw_cL_law_53) zw_cL_law_ok rfl (by decide +kernel))
theorem dL_law_856 : decode cL_law 856 = .ok (.goto 908, 3) := zr2s zk_167 (x0 := 3) (x1 := 140) (zat_w (k := 53) (p := 8) (w := zw_cL_law_53) zw_cL_law_ok rfl (by decide +kernel)) (by decide +kernel)
theorem dL_law_859 : decode cL_law 859 = .ok (.aload_n 1, 1) := zr0 zk_43 (zat_w (k := 53) (p := 11) (w := zw_cL_law_53) zw_cL_law_ok rfl (by decide +kernel))
theorem dL_law_860 : decode cL_law 860 = .ok (.aload_n 0, 1) := zr0 zk_42 (zat_w (k := 53) (p := 12) (w := zw_cL_law_53) zw_cL_law_ok rfl (by decide +kernel))
theorem dL_law_861 : decode cL_law 861 = .ok (.iload_n 3, 1) := zr0 zk_29 (zat_w (k := 53) (p := 13) (w := zw_cL_law_53) zw_cL_law_ok rfl (by decide +kernel))
theorem dL_law_862 : decode cL_law 862 = .ok (.iconst 1, 1) := zr0 zk_4 (zat_w (k := 53) (p := 14) (w := zw_cL_law_53) zw_cL_law_ok rfl (by decide +kernel))
theorem dL_law_863 : decode cL_law 863 = .ok (.iadd, 1) := zr0 zk_96 (zat_w (k := 53) (p := 15) (w := zw_cL_law_53) zw_cL_law_ok rfl (by decide +kernel))
theorem dL_law_864 : decode cL_law 864 = .ok (.iaload, 1) := zr0 zk_46 (zat_w (k := 54) (p := 0) (w := zw_cL_law_54) zw_cL_law_ok rfl (by decide +kernel))
theorem dL_law_865 : decode cL_law 865 = .ok (.aload_n 0, 1) := zr0 zk_42 (zat_w (k := 54) (p := 1) (w := zw_cL_law_54) zw_cL_law_ok rfl (by decide +kernel))
theorem dL_law_866 : decode cL_law 866 = .ok (.iload_n 3, 1) := zr0 zk_29 (zat_w (k := 54) (p := 2) (w := zw_cL_law_54) zw_cL_law_ok rfl (by decide +kernel))
theorem dL_law_867 : decode cL_law 867 = .ok (.iconst 2, 1) := zr0 zk_5 (zat_w (k := 54) (p := 3) (w := zw_cL_law_54) zw_cL_law_ok rfl (by decide +kernel))
theorem dL_law_868 : decode cL_law 868 = .ok (.iadd, 1) := zr0 zk_96 (zat_w (k := 54) (p := 4) (w := zw_cL_law_54) zw_cL_law_ok rfl (by decide +kernel))
theorem dL_law_869 : decode cL_law 869 = .ok (.iaload, 1) := zr0 zk_46 (zat_w (k := 54) (p := 5) (w := zw_cL_law_54) zw_cL_law_ok rfl (by decide +kernel))
theorem dL_law_870 : decode cL_law 870 = .ok (.invokevirtual 89, 3) := zr2u zk_182 (x0 := 0) (x1 := 89) (zat_w (k := 54) (p := 6) (w := zw_cL_law_54) zw_cL_law_ok rfl (by decide +kernel)) (by decide +kernel)
theorem dL_law_873 : decode cL_law 873 = .ok (.pop2, 1) := zr0 zk_88 (zat_w (k := 54) (p := 9) (w := zw_cL_law_54) zw_cL_law_ok rfl (by decide +kernel))
theorem dL_law_874 : decode cL_law 874 = .ok (.aload_n 2, 1) := zr0 zk_44 (zat_w (k := 54) (p := 10) (w := zw_cL_law_54) zw_cL_law_ok rfl (by decide +kernel))
theorem dL_law_875 : decode cL_law 875 = .ok (.aload_n 0, 1) := zr0 zk_42 (zat_w (k := 54) (p := 11) (w := zw_cL_law_54) zw_cL_law_ok rfl (by decide +kernel))
theorem dL_law_876 : decode cL_law 876 = .ok (.iload_n 3, 1) := zr0 zk_29 (zat_w (k := 54) (p := 12) (w := zw_cL_law_54) zw_cL_law_ok rfl (by decide +kernel))
theorem dL_law_877 : decode cL_law 877 = .ok (.iconst 1, 1) := zr0 zk_4 (zat_w (k := 54) (p := 13) (w := zw_cL_law_54) zw_cL_law_ok rfl (by decide +kernel))
theorem dL_law_878 : decode cL_law 878 = .ok (.iadd, 1) := zr0 zk_96 (zat_w (k := 54) (p := 14) (w := zw_cL_law_54) zw_cL_law_ok rfl (by decide +kernel))
theorem dL_law_879 : decode cL_law 879 = .ok (.iaload, 1) := zr0 zk_46 (zat_w (k := 54) (p := 15) (w := zw_cL_law_54) zw_cL_law_ok rfl (by decide +kernel))
theorem dL_law_880 : decode cL_law 880 = .ok (.aload_n 0, 1) := zr0 zk_42 (zat_w (k := 55) (p := 0) (w := zw_cL_law_55) zw_cL_law_ok rfl (by decide +kernel))
theorem dL_law_881 : decode cL_law 881 = .ok (.iload_n 3, 1) := zr0 zk_29 (zat_w (k := 55) (p := 1) (w := zw_cL_law_55) zw_cL_law_ok rfl (by decide +kernel))
theorem dL_law_882 : decode cL_law 882 = .ok (.iconst 2, 1) := zr0 zk_5 (zat_w (k := 55) (p := 2) (w := zw_cL_law_55) zw_cL_law_ok rfl (by decide +kernel))
theorem dL_law_883 : decode cL_law 883 = .ok (.iadd, 1) := zr0 zk_96 (zat_w (k := 55) (p := 3) (w := zw_cL_law_55) zw_cL_law_ok rfl (by decide +kernel))
theorem dL_law_884 : decode cL_law 884 = .ok (.iaload, 1) := zr0 zk_46 (zat_w (k := 55) (p := 4) (w := zw_cL_law_55) zw_cL_law_ok rfl (by decide +kernel))
theorem dL_law_885 : decode cL_law 885 = .ok (.invokevirtual 92, 3) := zr2u zk_182 (x0 := 0) (x1 := 92) (zat_w (k := 55) (p := 5) (w := zw_cL_law_55) zw_cL_law_ok rfl (by decide +kernel)) (by decide +kernel)
theorem dL_law_888 : decode cL_law 888 = .ok (.pop2, 1) := zr0 zk_88 (zat_w (k := 55) (p := 8) (w := zw_cL_law_55) zw_cL_law_ok rfl (by decide +kernel))
theorem dL_law_889 : decode cL_law 889 = .ok (.goto 875, 3) := zr2s zk_167 (x0 := 3) (x1 := 107) (zat_w (k := 55) (p := 9) (w := zw_cL_law_55) zw_cL_law_ok rfl (by decide +kernel)) (by decide +kernel)
theorem dL_law_892 : decode cL_law 892 = .ok (.aload_n 1, 1) := zr0 zk_43 (zat_w (k := 55) (p := 12) (w := zw_cL_law_55) zw_cL_law_ok rfl (by decide +kernel))
theorem dL_law_893 : decode cL_law 893 = .ok (.aload_n 0, 1) := zr0 zk_42 (zat_w (k := 55) (p := 13) (w := zw_cL_law_55) zw_cL_law_ok rfl (by decide +kernel))
theorem dL_law_894 : decode cL_law 894 = .ok (.iload_n 3, 1) := zr0 zk_29 (zat_w (k := 55) (p := 14) (w := zw_cL_law_55) zw_cL_law_ok rfl (by decide +kernel))
theorem dL_law_895 : decode cL_law 895 = .ok (.iconst 1, 1) := zr0 zk_4 (zat_w (k := 55) (p := 15) (w := zw_cL_law_55) zw_cL_law_ok rfl (by decide +kernel))
theorem dL_law_896 : decode cL_law 896 = .ok (.iadd, 1) := zr0 zk_96 (zat_w (k := 56) (p := 0) (w := zw_cL_law_56) zw_cL_law_ok rfl (by decide +kernel))
theorem dL_law_897 : decode cL_law 897 = .ok (.iaload, 1) := zr0 zk_46 (zat_w (k := 56) (p := 1) (w := zw_cL_law_56) zw_cL_law_ok rfl (by decide +kernel))
theorem dL_law_898 : decode cL_law 898 = .ok (.aload_n 0, 1) := zr0 zk_42 (zat_w (k := 56) (p := 2) (w := zw_cL_law_56) zw_cL_law_ok rfl (by decide +kernel))
theorem dL_law_899 : decode cL_law 899 = .ok (.iload_n 3, 1) := zr0 zk_29 (zat_w (k := 56) (p := 3) (w := zw_cL_law_56) zw_cL_law_ok rfl (by decide +kernel))
theorem dL_law_900 : decode cL_law 900 = .ok (.iconst 2, 1) := zr0 zk_5 (zat_w (k := 56) (p := 4) (w := zw_cL_law_56) zw_cL_law_ok rfl (by decide +kernel))
theorem dL_law_901 : decode cL_law 901 = .ok (.iadd, 1) := zr0 zk_96 (zat_w (k := 56) (p := 5) (w := zw_cL_law_56) zw_cL_law_ok rfl (by decide +kernel))
theorem dL_law_902 : decode cL_law 902 = .ok (.iaload, 1) := zr0 zk_46 (zat_w (k := 56) (p := 6) (w := zw_cL_law_56) zw_cL_law_ok rfl (by decide +kernel))
theorem dL_law_903 : decode cL_law 903 = .ok (.aload_n 0, 1) := zr0 zk_42 (zat_w (k := 56) (p := 7) (w := zw_cL_law_56) zw_cL_law_ok rfl (by decide +kernel))
theorem dL_law_904 : decode cL_law 904 = .ok (.iload_n 3, 1) := zr0 zk_29 (zat_w (k := 56) (p := 8) (w := zw_cL_law_56) zw_cL_law_ok rfl (by decide +kernel))
theorem dL_law_905 : decode cL_law 905 = .ok (.iconst 3, 1) := zr0 zk_6 (zat_w (k := 56) (p := 9) (w := zw_cL_law_56) zw_cL_law_ok rfl (by decide +kernel))
theorem dL_law_906 : decode cL_law 906 = .ok (.iadd, 1) := zr0 zk_96 (zat_w (k := 56) (p := 10) (w := zw_cL_law_56) zw_cL_law_ok rfl (by decide +kernel))
theorem dL_law_907 : decode cL_law 907 = .ok (.iaload, 1) := zr0 zk_46 (zat_w (k := 56) (p := 11) (w := zw_cL_law_56) zw_cL_law_ok rfl (by decide +kernel))
theorem dL_law_908 : decode cL_law 908 = .ok (.invokevirtual 93, 3) := zr2u zk_182 (x0 := 0) (x1 := 93) (zat_w (k := 56) (p := 12) (w := zw_cL_law_56) zw_cL_law_ok rfl (by decide +kernel)) (by decide +kernel)
theorem dL_law_911 : decode cL_law 911 = .ok (.pop, 1) := zr0 zk_87 (zat_w (k := 56) (p := 15) (w := zw_cL_law_56) zw_cL_law_ok rfl (by decide +kernel))
theorem dL_law_912 : decode cL_law 912 = .ok (.aload_n 2, 1) := zr0 zk_44 (zat_w (k := 57) (p := 0) (w := zw_cL_law_57) zw_cL_law_ok rfl (by decide +kernel))
theorem dL_law_913 : decode cL_law 913 = .ok (.aload_n 0, 1) := zr0 zk_42 (zat_w (k := 57) (p := 1) (w := zw_cL_law_57) zw_cL_law_ok rfl (by decide +kernel))
theorem dL_law_914 : decode cL_law 914 = .ok (.iload_n 3, 1) := zr0 zk_29 (zat_w (k := 57) (p := 2) (w := zw_cL_law_57) zw_cL_law_ok rfl (by decide +kernel))
theorem dL_law_915 : decode cL_law 915 = .ok (.iconst 1, 1) := zr0 zk_4 (zat_w (k := 57) (p := 3) (w := zw_cL_law_57) zw_cL_law_ok rfl (by decide +kernel))
theorem dL_law_916 : decode cL_law 916 = .ok (.iadd, 1) := zr0 zk_96 (zat_w (k := 57) (p := 4) (w := zw_cL_law_57) zw_cL_law_ok rfl (by decide +kernel))
theorem dL_law_917 : decode cL_law 917 = .ok (.iaload, 1) := zr0 zk_46 (zat_w (k := 57) (p := 5) (w := zw_cL_law_57) zw_cL_law_ok rfl (by decide +kernel))
theorem dL_law_918 : decode cL_law 918 = .ok (.aload_n 0, 1) := zr0 zk_42 (zat_w (k := 57) (p := 6) (w := zw_cL_law_57) zw_cL_law_ok rfl (by decide +kernel))
theorem dL_law_919 : decode cL_law 919 = .ok (.iload_n 3, 1) := zr0 zk_29 (zat_w (k := 57) (p := 7) (w := zw_cL_law_57) zw_cL_law_ok rfl (by decide +kernel))
theorem dL_law_920 : decode cL_law 920 = .ok (.iconst 2, 1) := zr0 zk_5 (zat_w (k := 57) (p := 8) (w := zw_cL_law_57) zw_cL_law_ok rfl (by decide +kernel))
theorem dL_law_921 : decode cL_law 921 = .ok (.iadd, 1) := zr0 zk_96 (zat_w (k := 57) (p := 9) (w := zw_cL_law_57) zw_cL_law_ok rfl (by decide +kernel))
theorem dL_law_922 : decode cL_law 922 = .ok (.iaload, 1) := zr0 zk_46 (zat_w (k := 57) (p := 10) (w := zw_cL_law_57) zw_cL_law_ok rfl (by decide +kernel))
theorem dL_law_923 : decode cL_law 923 = .ok (.aload_n 0, 1) := zr0 zk_42 (zat_w (k := 57) (p := 11) (w := zw_cL_law_57) zw_cL_law_ok rfl (by decide +kernel))
theorem dL_law_924 : decode cL_law 924 = .ok (.iload_n 3, 1) := zr0 zk_29 (zat_w (k := 57) (p := 12) (w := zw_cL_law_57) zw_cL_law_ok rfl (by decide +kernel))
theorem dL_law_925 : decode cL_law 925 = .ok (.iconst 3, 1) := zr0 zk_6 (zat_w (k := 57) (p := 13) (w := zw_cL_law_57) zw_cL_law_ok rfl (by decide +kernel))
theorem dL_law_926 : decode cL_law 926 = .ok (.iadd, 1) := zr0 zk_96 (zat_w (k := 57) (p := 14) (w := zw_cL_law_57) zw_cL_law_ok rfl (by decide +kernel))
theorem dL_law_927 : decode cL_law 927 = .ok (.iaload, 1) := zr0 zk_46 (zat_w (k := 57) (p := 15) (w := zw_cL_law_57) zw_cL_law_ok rfl (by decide +kernel))
theorem dL_law_928 : decode cL_law 928 = .ok (.invokevirtual 96, 3) := zr2u zk_182 (x0 := 0) (x1 := 96) (zat_w (k := 58) (p := 0) (w := zw_cL_law_58) zw_cL_law_ok rfl (by decide +kernel)) (by decide +kernel)
theorem dL_law_931 : decode cL_law 931 = .ok (.pop, 1) := zr0 zk_87 (zat_w (k := 58) (p := 3) (w := zw_cL_law_58) zw_cL_law_ok rfl (by decide +kernel))
theorem dL_law_932 : decode cL_law 932 = .ok (.goto 832, 3) := zr2s zk_167 (x0 := 3) (x1 := 64) (zat_w (k := 58) (p := 4) (w := zw_cL_law_58) zw_cL_law_ok rfl (by decide +kernel)) (by decide +kernel)
theorem dL_law_935 : decode cL_law 935 = .ok (.aload_n 1, 1) := zr0 zk_43 (zat_w (k := 58) (p := 7) (w := zw_cL_law_58) zw_cL_law_ok rfl (by decide +kernel))
theorem dL_law_936 : decode cL_law 936 = .ok (.aload_n 0, 1) := zr0 zk_42 (zat_w (k := 58) (p := 8) (w := zw_cL_law_58) zw_cL_law_ok rfl (by decide +kernel))
theorem dL_law_937 : decode cL_law 937 = .ok (.iload_n 3, 1) := zr0 zk_29 (zat_w (k := 58) (p := 9) (w := zw_cL_law_58) zw_cL_law_ok rfl (by decide +kernel))
theorem dL_law_938 : decode cL_law 938 = .ok (.iconst 1, 1) := zr0 zk_4 (zat_w (k := 58) (p := 10) (w := zw_cL_law_58) zw_cL_law_ok rfl (by decide +kernel))
theorem dL_law_939 : decode cL_law 939 = .ok (.iadd, 1) := zr0 zk_96 (zat_w (k := 58) (p := 11) (w := zw_cL_law_58) zw_cL_law_ok rfl (by decide +kernel))
theorem dL_law_940 : decode cL_law 940 = .ok (.iaload, 1) := zr0 zk_46 (zat_w (k := 58) (p := 12) (w := zw_cL_law_58) zw_cL_law_ok rfl (by decide +kernel))
theorem dL_law_941 : decode cL_law 941 = .ok (.aload_n 0, 1) := zr0 zk_42 (zat_w (k := 58) (p := 13) (w := zw_cL_law_58) zw_cL_law_ok rfl (by decide +kernel))
theorem dL_law_942 : decode cL_law 942 = .ok (.iload_n 3, 1) := zr0 zk_29 (zat_w (k := 58) (p := 14) (w := zw_cL_law_58) zw_cL_law_ok rfl (by decide +kernel))
theorem dL_law_943 : decode cL_law 943 = .ok (.iconst 2, 1) := zr0 zk_5 (zat_w (k := 58) (p := 15) (w := zw_cL_law_58) zw_cL_law_ok rfl (by decide +kernel))
theorem dL_law_944 : decode cL_law 944 = .ok (.iadd, 1) := zr0 zk_96 (zat_w (k := 59) (p := 0) (w := zw_cL_law_59) zw_cL_law_ok rfl (by decide +kernel))
theorem dL_law_945 : decode cL_law 945 = .ok (.iaload, 1) := zr0 zk_46 (zat_w (k := 59) (p := 1) (w := zw_cL_law_59) zw_cL_law_ok rfl (by decide +kernel))
theorem dL_law_946 : decode cL_law 946 = .ok (.aload_n 0, 1) := zr0 zk_42 (zat_w (k := 59) (p := 2) (w := zw_cL_law_59) zw_cL_law_ok rfl (by decide +kernel))
theorem dL_law_947 : decode cL_law 947 = .ok (.iload_n 3, 1) := zr0 zk_29 (zat_w (k := 59) (p := 3) (w := zw_cL_law_59) zw_cL_law_ok rfl (by decide +kernel))
theorem dL_law_948 : decode cL_law 948 = .ok (.iconst 3, 1) := zr0 zk_6 (zat_w (k := 59) (p := 4) (w := zw_cL_law_59) zw_cL_law_ok rfl (by decide +kernel))
theorem dL_law_949 : decode cL_law 949 = .ok (.iadd, 1) := zr0 zk_96 (zat_w (k := 59) (p := 5) (w := zw_cL_law_59) zw_cL_law_ok rfl (by decide +kernel))
theorem dL_law_950 : decode cL_law 950 = .ok (.iaload, 1) := zr0 zk_46 (zat_w (k := 59) (p := 6) (w := zw_cL_law_59) zw_cL_law_ok rfl (by decide +kernel))
theorem dL_law_951 : decode cL_law 951 = .ok (.invokevirtual 97, 3) := zr2u zk_182 (x0 := 0) (x1 := 97) (zat_w (k := 59) (p := 7) (w := zw_cL_law_59) zw_cL_law_ok rfl (by decide +kernel)) (by decide +kernel)
theorem dL_law_954 : decode cL_law 954 = .ok (.pop, 1) := zr0 zk_87 (zat_w (k := 59) (p := 10) (w := zw_cL_law_59) zw_cL_law_ok rfl (by decide +kernel))
theorem dL_law_955 : decode cL_law 955 = .ok (.aload_n 2, 1) := zr0 zk_44 (zat_w (k := 59) (p := 11) (w := zw_cL_law_59) zw_cL_law_ok rfl (by decide +kernel))
theorem dL_law_956 : decode cL_law 956 = .ok (.aload_n 0, 1) := zr0 zk_42 (zat_w (k := 59) (p := 12) (w := zw_cL_law_59) zw_cL_law_ok rfl (by decide +kernel))
theorem dL_law_957 : decode cL_law 957 = .ok (.iload_n 3, 1) := zr0 zk_29 (zat_w (k := 59) (p := 13) (w := zw_cL_law_59) zw_cL_law_ok rfl (by decide +kernel))
theorem dL_law_958 : decode cL_law 958 = .ok (.iconst 1, 1) := zr0 zk_4 (zat_w (k := 59) (p := 14) (w := zw_cL_law_59) zw_cL_law_ok rfl (by decide +kernel))
theorem dL_law_959 : decode cL_law 959 = .ok (.iadd, 1) := zr0 zk_96 (zat_w (k := 59) (p := 15) (w := zw_cL_law_59) zw_cL_law_ok rfl (by decide +kernel))
theorem dL_law_960 : decode cL_law 960 = .ok (.iaload, 1) := zr0 zk_46 (zat_w (k := 60) (p := 0) (w := zw_cL_law_60) zw_cL_law_ok rfl (by decide +kernel))
theorem dL_law_961 : decode cL_law 961 = .ok (.aload_n 0, 1) := zr0 zk_42 (zat_w (k := 60) (p := 1) (w := zw_cL_law_60) zw_cL_law_ok rfl (by decide +kernel))
theorem dL_law_962 : decode cL_law 962 = .ok (.iload_n 3, 1) := zr0 zk_29 (zat_w (k := 60) (p := 2) (w := zw_cL_law_60) zw_cL_law_ok rfl (by decide +kernel))
theorem dL_law_963 : decode cL_law 963 = .ok (.iconst 2, 1) := zr0 zk_5 (zat_w (k := 60) (p := 3) (w := zw_cL_law_60) zw_cL_law_ok rfl (by decide +kernel))
theorem dL_law_964 : decode cL_law 964 = .ok (.iadd, 1) := zr0 zk_96 (zat_w (k := 60) (p := 4) (w := zw_cL_law_60) zw_cL_law_ok rfl (by decide +kernel))
theorem dL_law_965 : decode cL_law 965 = .ok (.iaload, 1) := zr0 zk_46 (zat_w (k := 60) (p := 5) (w := zw_cL_law_60) zw_cL_law_ok rfl (by decide +kernel))
theorem dL_law_966 : decode cL_law 966 = .ok (.aload_n 0, 1) := zr0 zk_42 (zat_w (k := 60) (p := 6) (w := zw_cL_law_60) zw_cL_law_ok rfl (by decide +kernel))
theorem dL_law_967 : decode cL_law 967 = .ok (.iload_n 3, 1) := zr0 zk_29 (zat_w (k := 60) (p := 7) (w := zw_cL_law_60) zw_cL_law_ok rfl (by decide +kernel))
theorem dL_law_968 : decode cL_law 968 = .ok (.iconst 3, 1) := zr0 zk_6 (zat_w (k := 60) (p := 8) (w := zw_cL_law_60) zw_cL_law_ok rfl (by decide +kernel))
theorem dL_law_969 : decode cL_law 969 = .ok (.iadd, 1) := zr0 zk_96 (zat_w (k := 60) (p := 9) (w := zw_cL_law_60) zw_cL_law_ok rfl (by decide +kernel))
theorem dL_law_970 : decode cL_law 970 = .ok (.iaload, 1) := zr0 zk_46 (zat_w (k := 60) (p := 10) (w := zw_cL_law_60) zw_cL_law_ok rfl (by decide +kernel))
theorem dL_law_971 : decode cL_law 971 = .ok (.invokevirtual 100, 3) := zr2u zk_182 (x0 := 0) (x1 := 100) (zat_w (k := 60) (p := 11) (w := zw_cL_law_60) zw_cL_law_ok rfl (by decide +kernel)) (by decide +kernel)
end Zj_53a_dL_0
