/-! film -/
def yclip (x : Int64) : Int32 := if 2147483647 < x then 2147483647 else x.toInt32
def yflm (m : Nat → Int32) (b : Nat → List Int32) (k : Int32) (σ F S : Nat) : Nat → Nat → List Int32 → List Int32
  | 0, _, l => l
  | g + 1, i, l => yflm m b k σ F S g (i + 1) ((l.set (40 * σ + 2 * i) (nI (F + i * S))).set (40 * σ + 2 * i + 1) (yclip (ypl m b k (nI (F + i * S)))))
theorem yflm_len (m : Nat → Int32) (b : Nat → List Int32) (k : Int32) (σ F S : Nat) : ∀ g i l, (yflm m b k σ F S g i l).length = l.length := by
  intro g
  induction g with
  | zero => intro i l; rfl
  | succ g ih => intro i l; unfold yflm; rw [ih, List.length_set, List.length_set]
theorem yflm_congr {m : Nat → Int32} {B b : Nat → List Int32} {k : Int32} (h : ∀ v, ypl m B k v = ypl m b k v) (σ F S : Nat) : ∀ g i l, yflm m B k σ F S g i l = yflm m b k σ F S g i l := by
  intro g
  induction g with
  | zero => intro i l; rfl
  | succ g ih => intro i l; simp only [yflm]; rw [h, ih]
def yfm1 (m : Nat → Int32) (s k fr sm : Int32) : Int32 :=
  if mc_wi s 0 3 = false then -2 else if mc_wi k 0 (m 2 - 1) = false then -5
  else if mc_wi fr 0 999 = false ∨ mc_wi sm 0 9920 = false ∨ 20 < sm - sm / 100 * 100 then -7 else sm - sm / 100 * 100
def yfmc (m : Nat → Int32) (s k fr sm : Int32) : Bool := mc_wi s 0 3 && mc_wi k 0 (m 2 - 1) && mc_wi fr 0 999 && mc_wi sm 0 9920 && decide (sm - sm / 100 * 100 ≤ 20)
def yfmx (m : Nat → Int32) (b : Nat → List Int32) (s k fr sm : Int32) : Nat → List Int32 :=
  mc_up (mc_up (mc_up b 7 ((b 7).set s.toNatClampNeg 2)) 8 ((b 8).set s.toNatClampNeg (2 * (sm - sm / 100 * 100)))) 9
    (yflm m b k s.toNatClampNeg fr.toNatClampNeg (sm / 100).toNatClampNeg (sm - sm / 100 * 100).toNatClampNeg 0 (yzr s.toNatClampNeg 40 0 (b 9)))
def yfmb (m : Nat → Int32) (b : Nat → List Int32) (s k fr sm : Int32) : Nat → List Int32 := if yfmc m s k fr sm = true then yfmx m b s k fr sm else b
theorem cl2 {σ i : Nat} : 40 * nI σ + 2 * nI i = nI (40 * σ + 2 * i) := by
  rw [show (40 : Int32) * nI σ = nI (40 * σ) from pk_mul 40 σ, show (2 : Int32) * nI i = nI (2 * i) from pk_mul 2 i, nI_add]
theorem lp_y_film0 {s u m n : Nat → Int32} {a c d : Nat → List Int32} {q : List (Option Nat)} {h : Nat} {z : mc_W} {Post : Option Value → mc_W → Prop} {B : Nat → List Int32} {L : List Int32} {σ : Nat} (hs : σ < 4) {k0 f0 g0 w0 : Int32} {x7 x8 x9 : Option Value}
    (hK : mc_E RX7 cX7_film 10 (mc_JM (some .int) false 7 0 0 Post) 112 [some (.ref 29), some (.int (nI σ)), some (.int k0), some (.int f0), some (.int g0), some (.int w0), some (.int (nI 40)), x7, x8, x9] [] (WW s a q u c h m (mc_up B 9 L) n d z) 0 0) :
    ∀ (g i : Nat) (l : List Int32) (b : Nat → List Int32), b = mc_up B 9 l → i + g = 40 → l.length = 160 → yzr σ g i l = L →
      mc_E RX7 cX7_film 10 (mc_JM (some .int) false 7 0 0 Post) 86 [some (.ref 29), some (.int (nI σ)), some (.int k0), some (.int f0), some (.int g0), some (.int w0), some (.int (nI i)), x7, x8, x9] [] (WW s a q u c h m b n d z) 0 0 := by
  intro g
  induction g with
  | zero =>
    intro i l b hb hi hl hx
    have e : i = 40 := by omega
    subst e
    have hx : l = L := hx
    subst hx hb
    refine e_iload (pc := 86) dX7_film_86 rfl ?_
    refine e_bipush (v := 40) (pc := 88) dX7_film_88 (by decide) ?_
    refine e_icmp_ge (pc := 90) dX7_film_90 (t := 112) (by decide) (fun _ => ?_) (fun c_90 => absurd (by decide) c_90)
    exact hK
  | succ g ih =>
    intro i l b hb hi hl hx
    subst hb
    have iv2 : vp_in (40 * nI σ + nI i) ((mc_up B 9 l) 9).length := cl_in hl hs (by omega)
    refine e_iload (pc := 86) dX7_film_86 rfl ?_
    refine e_bipush (v := 40) (pc := 88) dX7_film_88 (by decide) ?_
    refine e_icmp_ge (pc := 90) dX7_film_90 (t := 112) (by decide) (fun c_90 => absurd c_90 (nI_ge (by omega : i < 40) (by decide))) (fun _ => ?_)
    refine e_aloadn (pc := 93) dX7_film_93 rfl ?_
    refine e_get (pc := 94) dX7_film_94 fX7_44 rfl rfl ?_
    refine e_bipush (v := 40) (pc := 97) dX7_film_97 (by decide) ?_
    refine e_iloadn (pc := 99) dX7_film_99 rfl ?_
    refine e_imul (pc := 100) dX7_film_100 ?_
    refine e_iload (pc := 101) dX7_film_101 rfl ?_
    refine e_iadd (pc := 103) dX7_film_103 ?_
    refine e_iconst (v := 0) (pc := 104) dX7_film_104 (by decide) ?_
    refine ast_ycells (pc := 105) dX7_film_105 iv2 ?_
    rw [up_setl, cl_at hs (by omega)]
    refine e_incC6 (pc := 106) dX7_film_106 (nI_1 i) (Nat.le_of_ble_eq_true rfl) rfl ?_
    refine e_goto (pc := 109) dX7_film_109 (t := 86) (by decide) ?_
    exact ih (i + 1) _ _ rfl (by omega) (by rw [List.length_set]; exact hl) hx
set_option maxHeartbeats 1000000 in
theorem lp_y_film {s u m : Nat → Int32} {a c : Nat → List Int32} {q : List (Option Nat)} {h : Nat} {z : mc_W} {B : Nat → List Int32} {L : List Int32} {k0 sm : Int32} {σ F S N : Nat} (hG : yG m B) (hc : mc_wi k0 0 (m 2 - 1) = true) (hs : σ < 4) (hF : F ≤ 999) (hSS : S ≤ 99) (hN : N ≤ 20) (eS : sm / 100 = nI S) :
    ∀ (g i : Nat) (l : List Int32) (b : Nat → List Int32) (n : Nat → Int32) (d : Nat → List Int32) (x7 x8 x9 : Option Value), b = mc_up B 9 l → i + g = N → l.length = 160 → yD d → yflm m B k0 σ F S g i l = L →
      mc_E RX7 cX7_film 10 (mc_JM (some .int) false 7 0 0 (fun r' w' => r' = some (.int (nI N)) ∧ ∃ n1 d1, yD d1 ∧ w' = WW s a q u c h m (mc_up B 9 L) n1 d1 z)) 115 [some (.ref 29), some (.int (nI σ)), some (.int k0), some (.int (nI F)), some (.int sm), some (.int (nI N)), some (.int (nI i)), x7, x8, x9] [] (WW s a q u c h m b n d z) 0 0 := by
  intro g
  induction g with
  | zero =>
    intro i l b n d x7 x8 x9 hb hi hl hD hV
    have e : i = N := by omega
    subst e
    have hV : l = L := hV
    subst hV hb
    refine e_iload (pc := 115) dX7_film_115 rfl ?_
    refine e_iload (pc := 117) dX7_film_117 rfl ?_
    refine e_icmp_ge (pc := 119) dX7_film_119 (t := 199) (by decide) (fun _ => ?_) (fun c_119 => absurd (Int32.le_refl _) c_119)
    refine e_iload (pc := 199) dX7_film_199 rfl ?_
    exact e_iret (pc := 201) dX7_film_201 rfl (Nat.le_refl _) (Nat.le_refl _) ⟨rfl, n, d, hD, rfl⟩
  | succ g ih =>
    intro i l b n d x7 x8 x9 hb hi hl hD hV
    subst hb
    have hi20 : i < 20 := by omega
    have hiS : i * S ≤ 1980 := Nat.le_trans (Nat.mul_le_mul (by omega : i ≤ 20) hSS) (by decide)
    have ev : nI F + nI i * nI S = nI (F + i * S) := by rw [pk_mul i S, nI_add]
    have hv : mc_wi (nI (F + i * S)) 0 99999 = true := by
      rw [mc_wi_iff, nI_toInt (by omega), show (0 : Int32).toInt = 0 from rfl, show (99999 : Int32).toInt = 99999 from rfl]; omega
    have i1 : ∀ l : List Int32, l.length = 160 → vp_in (40 * nI σ + 2 * nI i) l.length := fun l hl => by rw [cl2, hl]; exact vp_in_nI (by omega) (by decide)
    have i2 : ∀ l : List Int32, l.length = 160 → vp_in (40 * nI σ + 2 * nI i + 1) l.length := fun l hl => by rw [cl2, nI_1, hl]; exact vp_in_nI (by omega) (by decide)
    have t1 : (40 * nI σ + 2 * nI i).toNatClampNeg = 40 * σ + 2 * i := by rw [cl2, nIc (by omega)]
    have t2 : (40 * nI σ + 2 * nI i + 1).toNatClampNeg = 40 * σ + 2 * i + 1 := by rw [cl2, nI_1, nIc (by omega)]
    simp only [yflm] at hV
    have hG2 : yG m (mc_up B 9 l) := ⟨⟨hG.1.1, hG.1.2.1, hG.1.2.2.1, hG.1.2.2.2.1, hG.1.2.2.2.2.1, hG.1.2.2.2.2.2.1, hG.1.2.2.2.2.2.2.1, hG.1.2.2.2.2.2.2.2.1, hG.1.2.2.2.2.2.2.2.2.1, hl⟩, hG.2.1, hG.2.2.1, hG.2.2.2.1, hG.2.2.2.2.1, hG.2.2.2.2.2⟩
    have ep : ypl m (mc_up B 9 l) k0 (nI (F + i * S)) = ypl m B k0 (nI (F + i * S)) := rfl
    refine e_iload (pc := 115) dX7_film_115 rfl ?_
    refine e_iload (pc := 117) dX7_film_117 rfl ?_
    refine e_icmp_ge (pc := 119) dX7_film_119 (t := 199) (by decide) (fun c_119 => absurd c_119 (nI_ge (by omega : i < N) (by omega))) (fun _ => ?_)
    refine e_iloadn (pc := 122) dX7_film_122 rfl ?_
    refine e_iload (pc := 123) dX7_film_123 rfl ?_
    refine e_iload (pc := 125) dX7_film_125 rfl ?_
    refine e_bipush (v := 100) (pc := 127) dX7_film_127 (by decide) ?_
    refine e_idiv (pc := 129) dX7_film_129 (by decide) ?_
    refine e_top (eS) ?_
    refine e_imul (pc := 130) dX7_film_130 ?_
    refine e_iadd (pc := 131) dX7_film_131 ?_
    refine e_top (ev) ?_
    refine e_isw7 (pc := 132) dX7_film_132 (Nat.le_of_ble_eq_true rfl) rfl ?_
    refine e_aloadn (pc := 134) dX7_film_134 rfl ?_
    refine e_iloadn (pc := 135) dX7_film_135 rfl ?_
    refine e_iload (pc := 136) dX7_film_136 rfl ?_
    refine e_cvX (pc := 138) (sp_y_plainOf hG2 hc hv hD) dX7_film_138 kX7_198 rfl rfl rfl rfl rfl (mc_CR_of (Nat.le_of_ble_eq_true rfl) (Nat.le_of_ble_eq_true rfl) (Nat.le_refl _) (Nat.le_refl _)) (Nat.le_of_ble_eq_true rfl) (fun w1 hw1 => ?_)
    obtain ⟨n1, d1, hD1, rfl⟩ := hw1
    rw [ep]
    refine e_lsw8 (pc := 141) dX7_film_141 (Nat.le_of_ble_eq_true rfl) rfl ?_
    refine e_aloadn (pc := 143) dX7_film_143 rfl ?_
    refine e_get (pc := 144) dX7_film_144 fX7_44 rfl rfl ?_
    refine e_bipush (v := 40) (pc := 147) dX7_film_147 (by decide) ?_
    refine e_iloadn (pc := 149) dX7_film_149 rfl ?_
    refine e_imul (pc := 150) dX7_film_150 ?_
    refine e_iconst (v := 2) (pc := 151) dX7_film_151 (by decide) ?_
    refine e_iload (pc := 152) dX7_film_152 rfl ?_
    refine e_imul (pc := 154) dX7_film_154 ?_
    refine e_iadd (pc := 155) dX7_film_155 ?_
    refine e_iload (pc := 156) dX7_film_156 rfl ?_
    refine ast_ycells (pc := 158) dX7_film_158 (i1 _ hl) ?_
    rw [up_setl, t1]
    refine e_aloadn (pc := 159) dX7_film_159 rfl ?_
    refine e_get (pc := 160) dX7_film_160 fX7_44 rfl rfl ?_
    refine e_bipush (v := 40) (pc := 163) dX7_film_163 (by decide) ?_
    refine e_iloadn (pc := 165) dX7_film_165 rfl ?_
    refine e_imul (pc := 166) dX7_film_166 ?_
    refine e_iconst (v := 2) (pc := 167) dX7_film_167 (by decide) ?_
    refine e_iload (pc := 168) dX7_film_168 rfl ?_
    refine e_imul (pc := 170) dX7_film_170 ?_
    refine e_iadd (pc := 171) dX7_film_171 ?_
    refine e_iconst (v := 1) (pc := 172) dX7_film_172 (by decide) ?_
    refine e_iadd (pc := 173) dX7_film_173 ?_
    refine e_lload (pc := 174) dX7_film_174 rfl ?_
    refine e_ldc2 (pc := 176) dX7_film_176 qX7_278 ?_
    refine e_lcmp (pc := 179) dX7_film_179 ?_
    refine e_if_le (pc := 180) dX7_film_180 (t := 189) (by decide) (fun c_180 => ?_) (fun c_180 => ?_)
    · skip
      refine e_lload (pc := 189) dX7_film_189 rfl ?_
      refine e_l2i (pc := 191) dX7_film_191 ?_
      refine ast_ycells (pc := 192) dX7_film_192 (i2 _ (by show (l.set _ _).length = 160; rw [List.length_set]; exact hl)) ?_
      rw [up_setl, t2]
      refine e_incC6 (pc := 193) dX7_film_193 (nI_1 i) (Nat.le_of_ble_eq_true rfl) rfl ?_
      refine e_goto (pc := 196) dX7_film_196 (t := 115) (by decide) ?_
      exact ih (i + 1) _ _ n1 d1 _ _ _ rfl (by omega) (by rw [List.length_set, List.length_set]; exact hl) hD1 (by rw [← hV]; unfold yclip; rw [if_neg (mc_cmp_le.mp c_180)])
    · skip
      refine e_ldcw (pc := 183) dX7_film_183 qX7_280 ?_
      refine e_goto (pc := 186) dX7_film_186 (t := 192) (by decide) ?_
      refine ast_ycells (pc := 192) dX7_film_192 (i2 _ (by show (l.set _ _).length = 160; rw [List.length_set]; exact hl)) ?_
      rw [up_setl, t2]
      refine e_incC6 (pc := 193) dX7_film_193 (nI_1 i) (Nat.le_of_ble_eq_true rfl) rfl ?_
      refine e_goto (pc := 196) dX7_film_196 (t := 115) (by decide) ?_
      exact ih (i + 1) _ _ n1 d1 _ _ _ rfl (by omega) (by rw [List.length_set, List.length_set]; exact hl) hD1 (by rw [← hV]; unfold yclip; rw [if_pos (mc_cg c_180)])
theorem sp_y_film {s u m n : Nat → Int32} {a c b d : Nat → List Int32} {q : List (Option Nat)} {h : Nat} {z : mc_W} {s0 k fr sm : Int32} (hG : yG m b) (hD : yD d) : mc_T yX7_film cX7_film 10 (some .int) 7 [.ref 29, .int s0, .int k, .int fr, .int sm] (WW s a q u c h m b n d z) (some (.int (yfm1 m s0 k fr sm))) (fun w' => ∃ n1 d1, yD d1 ∧ w' = WW s a q u c h m (yfmb m b s0 k fr sm) n1 d1 z) := by
  refine mc_start (own := RX7) (ini := false) rfl (by decide +kernel) (fun h => by cases h) (Nat.le_of_ble_eq_true rfl) ?_
  show mc_E _ _ _ _ _ [some (.ref 29), some (.int s0), some (.int k), some (.int fr), some (.int sm), none, none, none, none, none] [] _ _ _
  refine e_iloadn (pc := 0) dX7_film_0 rfl ?_
  refine e_iconst (v := 0) (pc := 1) dX7_film_1 (by decide) ?_
  refine e_iconst (v := 3) (pc := 2) dX7_film_2 (by decide) ?_
  refine e_csD (pc := 3) (sp_y_in) dX7_film_3 kX7_75 rfl rfl (mc_CR_of (Nat.le_of_ble_eq_true rfl) (Nat.le_of_ble_eq_true rfl) (Nat.le_refl _) (Nat.le_refl _)) (Nat.le_of_ble_eq_true rfl) ?_
  refine e_if_ne (pc := 6) dX7_film_6 (t := 12) (by decide) (fun c_6 => ?_) (fun c_6 => ?_)
  · skip
    refine e_aloadn (pc := 12) dX7_film_12 rfl ?_
    refine e_iloadn (pc := 13) dX7_film_13 rfl ?_
    refine e_cvD (pc := 14) (sp_y_isClerk) dX7_film_14 kX7_159 rfl rfl rfl rfl rfl (mc_CR_of (Nat.le_of_ble_eq_true rfl) (Nat.le_of_ble_eq_true rfl) (Nat.le_refl _) (Nat.le_refl _)) (Nat.le_of_ble_eq_true rfl) ?_
    refine e_if_ne (pc := 17) dX7_film_17 (t := 23) (by decide) (fun c_17 => ?_) (fun c_17 => ?_)
    · skip
      refine e_iloadn (pc := 23) dX7_film_23 rfl ?_
      refine e_iconst (v := 0) (pc := 24) dX7_film_24 (by decide) ?_
      refine e_sipush (v := 999) (pc := 25) dX7_film_25 (by decide) ?_
      refine e_csD (pc := 28) (sp_y_in) dX7_film_28 kX7_75 rfl rfl (mc_CR_of (Nat.le_of_ble_eq_true rfl) (Nat.le_of_ble_eq_true rfl) (Nat.le_refl _) (Nat.le_refl _)) (Nat.le_of_ble_eq_true rfl) ?_
      refine e_if_eq (pc := 31) dX7_film_31 (t := 56) (by decide) (fun c_31 => ?_) (fun c_31 => ?_)
      · skip
        refine e_bipush (v := -7) (pc := 56) dX7_film_56 (by decide) ?_
        exact e_iret (pc := 58) dX7_film_58 rfl (Nat.le_refl _) (Nat.le_refl _) (have e1 : yfm1 m s0 k fr sm = -7 := (by unfold yfm1; rw [if_neg (c := mc_wi s0 0 3 = false) (nbf (mc_b1.mp c_6)), if_neg (c := mc_wi k 0 (m 2 - 1) = false) (nbf (mc_b1.mp c_17)), if_pos (Or.inl (mc_b0.mp c_31))]); have e2 : yfmc m s0 k fr sm = false := (by simp [yfmc, mc_b0.mp c_31]); ⟨by rw [e1], n, d, hD, by unfold yfmb; rw [e2]; rfl⟩)
      · skip
        refine e_iload (pc := 34) dX7_film_34 rfl ?_
        refine e_iconst (v := 0) (pc := 36) dX7_film_36 (by decide) ?_
        refine e_sipush (v := 9920) (pc := 37) dX7_film_37 (by decide) ?_
        refine e_csD (pc := 40) (sp_y_in) dX7_film_40 kX7_75 rfl rfl (mc_CR_of (Nat.le_of_ble_eq_true rfl) (Nat.le_of_ble_eq_true rfl) (Nat.le_refl _) (Nat.le_refl _)) (Nat.le_of_ble_eq_true rfl) ?_
        refine e_if_eq (pc := 43) dX7_film_43 (t := 56) (by decide) (fun c_43 => ?_) (fun c_43 => ?_)
        · skip
          refine e_bipush (v := -7) (pc := 56) dX7_film_56 (by decide) ?_
          exact e_iret (pc := 58) dX7_film_58 rfl (Nat.le_refl _) (Nat.le_refl _) (have e1 : yfm1 m s0 k fr sm = -7 := (by unfold yfm1; rw [if_neg (c := mc_wi s0 0 3 = false) (nbf (mc_b1.mp c_6)), if_neg (c := mc_wi k 0 (m 2 - 1) = false) (nbf (mc_b1.mp c_17)), if_pos (Or.inr (Or.inl (mc_b0.mp c_43)))]); have e2 : yfmc m s0 k fr sm = false := (by simp [yfmc, mc_b0.mp c_43]); ⟨by rw [e1], n, d, hD, by unfold yfmb; rw [e2]; rfl⟩)
        · skip
          refine e_iload (pc := 46) dX7_film_46 rfl ?_
          refine e_bipush (v := 100) (pc := 48) dX7_film_48 (by decide) ?_
          refine e_irem (pc := 50) dX7_film_50 (by decide) ?_
          refine e_bipush (v := 20) (pc := 51) dX7_film_51 (by decide) ?_
          refine e_icmp_le (pc := 53) dX7_film_53 (t := 59) (by decide) (fun c_53 => ?_) (fun c_53 => ?_)
          · skip
            refine e_iload (pc := 59) dX7_film_59 rfl ?_
            refine e_bipush (v := 100) (pc := 61) dX7_film_61 (by decide) ?_
            refine e_irem (pc := 63) dX7_film_63 (by decide) ?_
            refine e_isw5 (pc := 64) dX7_film_64 (Nat.le_of_ble_eq_true rfl) rfl ?_
            refine e_aloadn (pc := 66) dX7_film_66 rfl ?_
            refine e_get (pc := 67) dX7_film_67 fX7_38 rfl rfl ?_
            refine e_iloadn (pc := 70) dX7_film_70 rfl ?_
            refine e_iconst (v := 2) (pc := 71) dX7_film_71 (by decide) ?_
            refine ast_sheetSort (pc := 72) dX7_film_72 (sh7 hG.1 (mc_b1.mp c_6)) ?_
            refine e_aloadn (pc := 73) dX7_film_73 rfl ?_
            refine e_get (pc := 74) dX7_film_74 fX7_41 rfl rfl ?_
            refine e_iloadn (pc := 77) dX7_film_77 rfl ?_
            refine e_iconst (v := 2) (pc := 78) dX7_film_78 (by decide) ?_
            refine e_iload (pc := 79) dX7_film_79 rfl ?_
            refine e_imul (pc := 81) dX7_film_81 ?_
            refine ast_sheetSize (pc := 82) dX7_film_82 (sh8 hG.1 (mc_b1.mp c_6)) ?_
            refine e_iconst (v := 0) (pc := 83) dX7_film_83 (by decide) ?_
            refine e_isw6 (pc := 84) dX7_film_84 (Nat.le_of_ble_eq_true rfl) rfl ?_
            have q6 := mc_b1.mp c_6
            have q17 := mc_b1.mp c_17
            have q31 : mc_wi fr 0 999 = true := by simpa [mc_b0] using c_31
            have q43 : mc_wi sm 0 9920 = true := by simpa [mc_b0] using c_43
            have e1 : yfm1 m s0 k fr sm = sm - sm / 100 * 100 := by unfold yfm1; rw [if_neg (nbf q6), if_neg (nbf q17), if_neg (fun q => q.elim (nbf q31) (fun q => q.elim (nbf q43) (fun q => absurd q (Int32.not_lt.mpr c_53))))]
            have e2 : yfmb m b s0 k fr sm = yfmx m b s0 k fr sm := by unfold yfmb; rw [if_pos (by unfold yfmc; rw [q6, q17, q31, q43, decide_eq_true c_53]; rfl)]
            rw [e1, e2]
            clear e1 e2
            have hs4 : vp_in s0 4 := vp_in_w2 q6 (by decide) (by decide)
            obtain ⟨σ, h4, rfl⟩ := vp_in_of hs4 (by decide)
            have hf := mc_wi_iff.mp q31
            have hg := mc_wi_iff.mp q43
            rw [show (0 : Int32).toInt = 0 from rfl, show (999 : Int32).toInt = 999 from rfl] at hf
            rw [show (0 : Int32).toInt = 0 from rfl, show (9920 : Int32).toInt = 9920 from rfl] at hg
            obtain ⟨F, hF, rfl⟩ : ∃ F : Nat, F ≤ 999 ∧ fr = nI F := ⟨fr.toNatClampNeg, by have := tnc hf.1; omega, nI_back hf.1⟩
            obtain ⟨P, hP, rfl⟩ : ∃ P : Nat, P ≤ 9920 ∧ sm = nI P := ⟨sm.toNatClampNeg, by have := tnc hg.1; omega, nI_back hg.1⟩
            have eS : nI P / 100 = nI (P / 100) := pk_div (a := P) (d := 100) (by omega) (by decide) (by decide)
            have eR : nI P - nI P / 100 * 100 = nI (P % 100) := pk_rem (a := P) (d := 100) (by omega) (by decide) (by decide)
            have hR : P % 100 ≤ 20 := by
              have := c_53
              rw [eR, Int32.le_iff_toInt_le, nI_toInt (by omega), show (20 : Int32).toInt = 20 from rfl] at this
              omega
            unfold yfmx
            rw [eR, eS, nIc (n := σ) (by omega), nIc (n := F) (by omega), nIc (n := P / 100) (by omega), nIc (n := P % 100) (by omega)]
            have KF := lp_y_film (s := s) (a := a) (q := q) (u := u) (c := c) (h := h) (z := z) (B := mc_up (mc_up b 7 ((b 7).set σ 2)) 8 ((b 8).set σ (2 * nI (P % 100)))) (k0 := k) (sm := nI P) (σ := σ) (F := F) (S := P / 100) (N := P % 100) ⟨⟨hG.1.1, hG.1.2.1, hG.1.2.2.1, hG.1.2.2.2.1, hG.1.2.2.2.2.1, hG.1.2.2.2.2.2.1, hG.1.2.2.2.2.2.2.1, (by show ((b 7).set σ 2).length = 4; rw [List.length_set]; exact hG.1.2.2.2.2.2.2.2.1), (by show ((b 8).set σ _).length = 4; rw [List.length_set]; exact hG.1.2.2.2.2.2.2.2.2.1), hG.1.2.2.2.2.2.2.2.2.2⟩, hG.2.1, hG.2.2.1, hG.2.2.2.1, hG.2.2.2.2.1, hG.2.2.2.2.2⟩ q17 h4 hF (by omega) hR eS (P % 100) 0 (yzr σ 40 0 (b 9)) _ n d none none none rfl (by omega) (by rw [yzr_len]; exact hG.1.2.2.2.2.2.2.2.2.2) hD (yflm_congr (m := m) (B := mc_up (mc_up b 7 ((b 7).set σ 2)) 8 ((b 8).set σ (2 * nI (P % 100)))) (b := b) (k := k) (fun _ => rfl) σ F (P / 100) (P % 100) 0 (yzr σ 40 0 (b 9)))
            refine lp_y_film0 h4 ?_ 40 0 _ _ (mc_up_self _ 9).symm (by omega) hG.1.2.2.2.2.2.2.2.2.2 rfl
            refine e_iconst (v := 0) (pc := 112) dX7_film_112 (by decide) ?_
            refine e_isw6 (pc := 113) dX7_film_113 (Nat.le_of_ble_eq_true rfl) rfl ?_
            exact KF
          · skip
            refine e_bipush (v := -7) (pc := 56) dX7_film_56 (by decide) ?_
            exact e_iret (pc := 58) dX7_film_58 rfl (Nat.le_refl _) (Nat.le_refl _) (have e1 : yfm1 m s0 k fr sm = -7 := (by unfold yfm1; rw [if_neg (c := mc_wi s0 0 3 = false) (nbf (mc_b1.mp c_6)), if_neg (c := mc_wi k 0 (m 2 - 1) = false) (nbf (mc_b1.mp c_17)), if_pos (Or.inr (Or.inr (Int32.not_le.mp c_53)))]); have e2 : yfmc m s0 k fr sm = false := (by unfold yfmc; rw [decide_eq_false c_53, Bool.and_false]); ⟨by rw [e1], n, d, hD, by unfold yfmb; rw [e2]; rfl⟩)
    · skip
      refine e_bipush (v := -5) (pc := 20) dX7_film_20 (by decide) ?_
      exact e_iret (pc := 22) dX7_film_22 rfl (Nat.le_refl _) (Nat.le_refl _) (have e1 : yfm1 m s0 k fr sm = -5 := (by unfold yfm1; rw [if_neg (c := mc_wi s0 0 3 = false) (nbf (mc_b1.mp c_6)), if_pos (c := mc_wi k 0 (m 2 - 1) = false) (mc_b0.mp c_17)]); have e2 : yfmc m s0 k fr sm = false := (by simp [yfmc, mc_b0.mp c_17]); ⟨by rw [e1], n, d, hD, by unfold yfmb; rw [e2]; rfl⟩)
  · skip
    refine e_bipush (v := -2) (pc := 9) dX7_film_9 (by decide) ?_
    exact e_iret (pc := 11) dX7_film_11 rfl (Nat.le_refl _) (Nat.le_refl _) (have e1 : yfm1 m s0 k fr sm = -2 := (by unfold yfm1; rw [if_pos (c := mc_wi s0 0 3 = false) (mc_b0.mp c_6)]); have e2 : yfmc m s0 k fr sm = false := (by simp [yfmc, mc_b0.mp c_6]); ⟨by rw [e1], n, d, hD, by unfold yfmb; rw [e2]; rfl⟩)
