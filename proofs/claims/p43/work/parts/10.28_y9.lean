section Zj_28_y9
/-- the first that is most -/
def ymost (off : Nat → Int64) : Nat → Nat → Int32 → Int64 → Int32 × Int64
  | 0, _, be, mo => (be, mo)
  | f + 1, i, be, mo => if be = -1 ∨ mo < off i then ymost off f (i + 1) (nI i) (off i) else ymost off f (i + 1) be mo
/-- what clerk k reads himself of the figures xs -/
def yself (m : Nat → Int32) (b : Nat → List Int32) (k : Int32) (xs : List Int32) : Int64 := yrd (yfg m b k) (if yy_it (gt (b 0) k) = true then xs.reverse else xs)
def yslo (m : Nat → Int32) (b : Nat → List Int32) (k : Int32) (xs : List Int32) (i : Nat) : Int64 := yy_far (yself m b k (xs.set i (ysd (yfg m b k) (xs.getD i 0)))) (yself m b k xs)
def yslip (m : Nat → Int32) (b : Nat → List Int32) (k v w : Int32) : Int64 :=
  if mc_wi k 0 (m 2 - 1) = false then -5 else if (mc_wi v 0 99999 && mc_wi w 0 1) = false then -7
  else if w = 0 then (ymost (yslo m b k (ywr m b k v)) (ywr m b k v).length 0 (-1) 0).1.toInt64 else (ymost (yslo m b k (ywr m b k v)) (ywr m b k v).length 0 (-1) 0).2
theorem yF_set {xs : List Int32} {n : Nat → Int32} {d : Nat → List Int32} (hF : yF xs n d) (hx : xs.length ≤ 17) (i : Nat) (hi : i < xs.length) (x : Int32) : yF (xs.set i x) n (mc_up d 3 ((d 3).set i x)) := by
  obtain ⟨hD, h7, ht⟩ := hF
  refine ⟨yD_set3 hD _ _, by rw [List.length_set]; exact h7, ?_⟩
  show ((d 3).set i x).take _ = _
  rw [List.length_set]
  refine tk_of (by rw [List.length_set]) (by rw [List.length_set, hD.2.2.2]; omega) fun j hj => ?_
  rw [gD_set (by rw [hD.2.2.2]; omega), gD_set hi, tk_get ht hj]
theorem set_back {xs : List Int32} {i : Nat} {x : Int32} (hi : i < xs.length) : (xs.set i x).set i (xs.getD i 0) = xs := by
  rw [List.set_set]
  apply List.ext_getElem?
  intro j
  rw [List.getElem?_set]
  by_cases h : i = j
  · subst h
    rw [if_pos rfl, if_pos hi, List.getD_eq_getElem?_getD, List.getElem?_eq_getElem hi]; rfl
  · rw [if_neg h]
theorem mc_cg {x y : Int64} (h : ¬ lg_cmp x y ≤ 0) : y < x := Classical.not_not.mp (fun q => h (mc_cmp_le.mpr q))
set_option maxHeartbeats 1000000 in
theorem lp_y_slip {s u m n : Nat → Int32} {a c b : Nat → List Int32} {q : List (Option Nat)} {h : Nat} {z : mc_W} {k0 v w : Int32} {V : Int32 × Int64} {xs : List Int32} (hG : yG m b) (hc : mc_wi k0 0 (m 2 - 1) = true) (hx : xs.length ≤ 17) :
    ∀ (f i : Nat) (be : Int32) (mo : Int64) (d : Nat → List Int32) (x10 x11 x12 x13 : Option Value), i + f = xs.length → yF xs n d → ymost (yslo m b k0 xs) f i be mo = V →
      mc_E RX7 cX7_slip 14 (mc_JM (some .long) false 6 0 0 (fun r' w' => r' = some (.long (if w = 0 then V.1.toInt64 else V.2)) ∧ ∃ n1 d1, yD d1 ∧ w' = WW s a q u c h m b n1 d1 z)) 63 [some (.ref 29), some (.int k0), some (.int v), some (.int w), some (.long (yself m b k0 xs)), none, some (.int be), some (.long mo), none, some (.int (nI i)), x10, x11, x12, x13] [] (WW s a q u c h m b n d z) 0 0 := by
  intro f
  induction f with
  | zero =>
    intro i be mo d x10 x11 x12 x13 hi hF hV
    simp only [ymost] at hV
    subst hV
    refine e_iload (pc := 63) dX7_slip_63 rfl ?_
    refine e_aloadn (pc := 65) dX7_slip_65 rfl ?_
    refine e_get (pc := 66) dX7_slip_66 fX7_175 rfl rfl ?_
    refine e_icmp_ge (pc := 69) dX7_slip_69 (t := 180) (by decide) (fun _ => ?_) (fun c_69 => absurd (by rw [hF.2.1]; exact nI_le (by omega) (by omega)) c_69)
    refine e_iloadn (pc := 180) dX7_slip_180 rfl ?_
    refine e_if_ne (pc := 181) dX7_slip_181 (t := 190) (by decide) (fun c_181 => ?_) (fun c_181 => ?_)
    · skip
      refine e_lload (pc := 190) dX7_slip_190 rfl ?_
      exact e_lret (pc := 192) dX7_slip_192 rfl (Nat.le_refl _) (Nat.le_refl _) ⟨by rw [if_neg c_181], n, d, hF.1, rfl⟩
    · skip
      refine e_iload (pc := 184) dX7_slip_184 rfl ?_
      refine e_i2l (pc := 186) dX7_slip_186 ?_
      refine e_goto (pc := 187) dX7_slip_187 (t := 192) (by decide) ?_
      exact e_lret (pc := 192) dX7_slip_192 rfl (Nat.le_refl _) (Nat.le_refl _) ⟨by rw [if_pos c_181], n, d, hF.1, rfl⟩
  | succ f ih =>
    intro i be mo d x10 x11 x12 x13 hi hF hV
    simp only [ymost] at hV
    have hix : i < xs.length := by omega
    have iv : vp_in (nI i) (d 3).length := by rw [hF.1.2.2.2]; exact vp_in_nI (by omega) (by decide)
    have ex : (d 3).getD (nI i).toNatClampNeg 0 = xs.getD i 0 := by rw [nIc (by omega)]; exact tk_get hF.2.2 hix
    have hF2 : yF (xs.set i (ysd (yfg m b k0) (xs.getD i 0))) n (mc_up d 3 ((d 3).set (nI i).toNatClampNeg (ysd (yfg m b k0) (xs.getD i 0)))) := by rw [nIc (by omega)]; exact yF_set hF hx i hix _
    have hF3 : yF xs n (mc_up (mc_up d 3 ((d 3).set (nI i).toNatClampNeg (ysd (yfg m b k0) (xs.getD i 0)))) 3 (((mc_up d 3 ((d 3).set (nI i).toNatClampNeg (ysd (yfg m b k0) (xs.getD i 0)))) 3).set (nI i).toNatClampNeg (xs.getD i 0))) := by
      have := yF_set hF2 (by rw [List.length_set]; exact hx) i (by rw [List.length_set]; exact hix) (xs.getD i 0)
      rw [set_back hix] at this
      rw [nIc (by omega)] at this ⊢
      exact this
    have iv2 : vp_in (nI i) ((mc_up d 3 ((d 3).set (nI i).toNatClampNeg (ysd (yfg m b k0) (xs.getD i 0)))) 3).length := by rw [hF2.1.2.2.2]; exact vp_in_nI (by omega) (by decide)
    refine e_iload (pc := 63) dX7_slip_63 rfl ?_
    refine e_aloadn (pc := 65) dX7_slip_65 rfl ?_
    refine e_get (pc := 66) dX7_slip_66 fX7_175 rfl rfl ?_
    refine e_icmp_ge (pc := 69) dX7_slip_69 (t := 180) (by decide) (fun c_69 => absurd c_69 (by rw [hF.2.1]; exact nI_ge (by omega) (by omega))) (fun _ => ?_)
    refine e_aloadn (pc := 72) dX7_slip_72 rfl ?_
    refine e_get (pc := 73) dX7_slip_73 fX7_62 rfl rfl ?_
    refine e_iload (pc := 76) dX7_slip_76 rfl ?_
    refine aldv_figures (pc := 78) dX7_slip_78 iv ex ?_
    refine e_isw10 (pc := 79) dX7_slip_79 (Nat.le_of_ble_eq_true rfl) rfl ?_
    refine e_aloadn (pc := 81) dX7_slip_81 rfl ?_
    refine e_get (pc := 82) dX7_slip_82 fX7_62 rfl rfl ?_
    refine e_iload (pc := 85) dX7_slip_85 rfl ?_
    refine e_aloadn (pc := 87) dX7_slip_87 rfl ?_
    refine e_iloadn (pc := 88) dX7_slip_88 rfl ?_
    refine e_iload (pc := 89) dX7_slip_89 rfl ?_
    refine e_cvD (pc := 91) (sp_y_slipped (hG.k0 hc) (hG.k1 hc)) dX7_slip_91 kX7_230 rfl rfl rfl rfl rfl (mc_CR_of (Nat.le_of_ble_eq_true rfl) (Nat.le_of_ble_eq_true rfl) (Nat.le_refl _) (Nat.le_refl _)) (Nat.le_of_ble_eq_true rfl) ?_
    refine ast_figures (pc := 94) dX7_slip_94 iv ?_
    refine e_aloadn (pc := 95) dX7_slip_95 rfl ?_
    refine e_aloadn (pc := 96) dX7_slip_96 rfl ?_
    refine e_iloadn (pc := 97) dX7_slip_97 rfl ?_
    refine e_cvD (pc := 98) (sp_y_figuresOf (hG.k0 hc) (hG.k1 hc)) dX7_slip_98 kX7_169 rfl rfl rfl rfl rfl (mc_CR_of (Nat.le_of_ble_eq_true rfl) (Nat.le_of_ble_eq_true rfl) (Nat.le_refl _) (Nat.le_refl _)) (Nat.le_of_ble_eq_true rfl) ?_
    refine e_aloadn (pc := 101) dX7_slip_101 rfl ?_
    refine e_iloadn (pc := 102) dX7_slip_102 rfl ?_
    refine e_cvD (pc := 103) (sp_y_isTurned (hG.k0 hc)) dX7_slip_103 kX7_172 rfl rfl rfl rfl rfl (mc_CR_of (Nat.le_of_ble_eq_true rfl) (Nat.le_of_ble_eq_true rfl) (Nat.le_refl _) (Nat.le_refl _)) (Nat.le_of_ble_eq_true rfl) ?_
    refine e_cvD (pc := 106) (sp_y_readsBy hF2 (by rw [List.length_set]; exact hx)) dX7_slip_106 kX7_194 rfl rfl rfl rfl rfl (mc_CR_of (Nat.le_of_ble_eq_true rfl) (Nat.le_of_ble_eq_true rfl) (Nat.le_refl _) (Nat.le_refl _)) (Nat.le_of_ble_eq_true rfl) ?_
    refine e_lload (pc := 109) dX7_slip_109 rfl ?_
    refine e_csD (pc := 111) (sp_y_far) dX7_slip_111 kX7_208 rfl rfl (mc_CR_of (Nat.le_of_ble_eq_true rfl) (Nat.le_of_ble_eq_true rfl) (Nat.le_refl _) (Nat.le_refl _)) (Nat.le_of_ble_eq_true rfl) ?_
    refine e_lsw11 (pc := 114) dX7_slip_114 (Nat.le_of_ble_eq_true rfl) rfl ?_
    refine e_aloadn (pc := 116) dX7_slip_116 rfl ?_
    refine e_get (pc := 117) dX7_slip_117 fX7_62 rfl rfl ?_
    refine e_iload (pc := 120) dX7_slip_120 rfl ?_
    refine e_iload (pc := 122) dX7_slip_122 rfl ?_
    refine ast_figures (pc := 124) dX7_slip_124 iv2 ?_
    refine e_iload (pc := 125) dX7_slip_125 rfl ?_
    refine e_iconst (v := -1) (pc := 127) dX7_slip_127 (by decide) ?_
    refine e_icmp_eq (pc := 128) dX7_slip_128 (t := 139) (by decide) (fun c_128 => ?_) (fun c_128 => ?_)
    · skip
      refine e_iconst (v := 1) (pc := 139) dX7_slip_139 (by decide) ?_
      refine e_goto (pc := 140) dX7_slip_140 (t := 144) (by decide) ?_
      refine e_isw13 (pc := 144) dX7_slip_144 (Nat.le_of_ble_eq_true rfl) rfl ?_
      refine e_iload (pc := 146) dX7_slip_146 rfl ?_
      refine e_if_eq (pc := 148) dX7_slip_148 (t := 156) (by decide) (fun c_148 => absurd c_148 (by decide)) (fun _ => ?_)
      refine e_iload (pc := 151) dX7_slip_151 rfl ?_
      refine e_goto (pc := 153) dX7_slip_153 (t := 158) (by decide) ?_
      refine e_isw6 (pc := 158) dX7_slip_158 (Nat.le_of_ble_eq_true rfl) rfl ?_
      refine e_iload (pc := 160) dX7_slip_160 rfl ?_
      refine e_if_eq (pc := 162) dX7_slip_162 (t := 170) (by decide) (fun c_162 => absurd c_162 (by decide)) (fun _ => ?_)
      refine e_lload (pc := 165) dX7_slip_165 rfl ?_
      refine e_goto (pc := 167) dX7_slip_167 (t := 172) (by decide) ?_
      refine e_lsw7 (pc := 172) dX7_slip_172 (Nat.le_of_ble_eq_true rfl) rfl ?_
      refine e_incC9 (pc := 174) dX7_slip_174 (nI_1 i) (Nat.le_of_ble_eq_true rfl) rfl ?_
      refine e_goto (pc := 177) dX7_slip_177 (t := 63) (by decide) ?_
      exact ih (i + 1) _ _ _ _ _ _ _ (by omega) hF3 (by rw [← hV, if_pos (c := be = -1 ∨ mo < yslo m b k0 xs i) (Or.inl c_128)] <;> rfl)
    · skip
      refine e_lload (pc := 131) dX7_slip_131 rfl ?_
      refine e_lload (pc := 133) dX7_slip_133 rfl ?_
      refine e_lcmp (pc := 135) dX7_slip_135 ?_
      refine e_if_le (pc := 136) dX7_slip_136 (t := 143) (by decide) (fun c_136 => ?_) (fun c_136 => ?_)
      · skip
        refine e_iconst (v := 0) (pc := 143) dX7_slip_143 (by decide) ?_
        refine e_isw13 (pc := 144) dX7_slip_144 (Nat.le_of_ble_eq_true rfl) rfl ?_
        refine e_iload (pc := 146) dX7_slip_146 rfl ?_
        refine e_if_eq (pc := 148) dX7_slip_148 (t := 156) (by decide) (fun _ => ?_) (fun c_148 => absurd (by decide) c_148)
        refine e_iload (pc := 156) dX7_slip_156 rfl ?_
        refine e_isw6 (pc := 158) dX7_slip_158 (Nat.le_of_ble_eq_true rfl) rfl ?_
        refine e_iload (pc := 160) dX7_slip_160 rfl ?_
        refine e_if_eq (pc := 162) dX7_slip_162 (t := 170) (by decide) (fun _ => ?_) (fun c_162 => absurd (by decide) c_162)
        refine e_lload (pc := 170) dX7_slip_170 rfl ?_
        refine e_lsw7 (pc := 172) dX7_slip_172 (Nat.le_of_ble_eq_true rfl) rfl ?_
        refine e_incC9 (pc := 174) dX7_slip_174 (nI_1 i) (Nat.le_of_ble_eq_true rfl) rfl ?_
        refine e_goto (pc := 177) dX7_slip_177 (t := 63) (by decide) ?_
        exact ih (i + 1) _ _ _ _ _ _ _ (by omega) hF3 (by rw [← hV, if_neg (c := be = -1 ∨ mo < yslo m b k0 xs i) (fun q => q.elim c_128 (mc_cmp_le.mp c_136))] <;> rfl)
      · skip
        refine e_iconst (v := 1) (pc := 139) dX7_slip_139 (by decide) ?_
        refine e_goto (pc := 140) dX7_slip_140 (t := 144) (by decide) ?_
        refine e_isw13 (pc := 144) dX7_slip_144 (Nat.le_of_ble_eq_true rfl) rfl ?_
        refine e_iload (pc := 146) dX7_slip_146 rfl ?_
        refine e_if_eq (pc := 148) dX7_slip_148 (t := 156) (by decide) (fun c_148 => absurd c_148 (by decide)) (fun _ => ?_)
        refine e_iload (pc := 151) dX7_slip_151 rfl ?_
        refine e_goto (pc := 153) dX7_slip_153 (t := 158) (by decide) ?_
        refine e_isw6 (pc := 158) dX7_slip_158 (Nat.le_of_ble_eq_true rfl) rfl ?_
        refine e_iload (pc := 160) dX7_slip_160 rfl ?_
        refine e_if_eq (pc := 162) dX7_slip_162 (t := 170) (by decide) (fun c_162 => absurd c_162 (by decide)) (fun _ => ?_)
        refine e_lload (pc := 165) dX7_slip_165 rfl ?_
        refine e_goto (pc := 167) dX7_slip_167 (t := 172) (by decide) ?_
        refine e_lsw7 (pc := 172) dX7_slip_172 (Nat.le_of_ble_eq_true rfl) rfl ?_
        refine e_incC9 (pc := 174) dX7_slip_174 (nI_1 i) (Nat.le_of_ble_eq_true rfl) rfl ?_
        refine e_goto (pc := 177) dX7_slip_177 (t := 63) (by decide) ?_
        exact ih (i + 1) _ _ _ _ _ _ _ (by omega) hF3 (by rw [← hV, if_pos (c := be = -1 ∨ mo < yslo m b k0 xs i) (Or.inr (mc_cg c_136))] <;> rfl)
theorem sp_y_slip {s u m n : Nat → Int32} {a c b d : Nat → List Int32} {q : List (Option Nat)} {h : Nat} {z : mc_W} {k v w : Int32} (hG : yG m b) (hD : yD d) : mc_T yX7_slip cX7_slip 14 (some .long) 6 [.ref 29, .int k, .int v, .int w] (WW s a q u c h m b n d z) (some (.long (yslip m b k v w))) (fun w' => ∃ n1 d1, yD d1 ∧ w' = WW s a q u c h m b n1 d1 z) := by
  refine mc_start (own := RX7) (ini := false) rfl (by decide +kernel) (fun h => by cases h) (Nat.le_of_ble_eq_true rfl) ?_
  show mc_E _ _ _ _ _ [some (.ref 29), some (.int k), some (.int v), some (.int w), none, none, none, none, none, none, none, none, none, none] [] _ _ _
  refine e_aloadn (pc := 0) dX7_slip_0 rfl ?_
  refine e_iloadn (pc := 1) dX7_slip_1 rfl ?_
  refine e_cvD (pc := 2) (sp_y_isClerk) dX7_slip_2 kX7_159 rfl rfl rfl rfl rfl (mc_CR_of (Nat.le_of_ble_eq_true rfl) (Nat.le_of_ble_eq_true rfl) (Nat.le_refl _) (Nat.le_refl _)) (Nat.le_of_ble_eq_true rfl) ?_
  refine e_if_ne (pc := 5) dX7_slip_5 (t := 12) (by decide) (fun c_5 => ?_) (fun c_5 => ?_)
  · skip
    refine e_iloadn (pc := 12) dX7_slip_12 rfl ?_
    refine e_csD (pc := 13) (sp_y_isNumber) dX7_slip_13 kX7_162 rfl rfl (mc_CR_of (Nat.le_of_ble_eq_true rfl) (Nat.le_of_ble_eq_true rfl) (Nat.le_refl _) (Nat.le_refl _)) (Nat.le_of_ble_eq_true rfl) ?_
    refine e_if_eq (pc := 16) dX7_slip_16 (t := 28) (by decide) (fun c_16 => ?_) (fun c_16 => ?_)
    · skip
      refine e_ldc2 (pc := 28) dX7_slip_28 qX7_192 ?_
      exact e_lret (pc := 31) dX7_slip_31 rfl (Nat.le_refl _) (Nat.le_refl _) ⟨(by (try simp only [mc_cmp_le, mc_cmp_ge, mc_cmp_eq, mc_cmp_lt, mc_cmp_gt, mc_b0, mc_b1, Bool.not_eq_false, Bool.not_eq_true] at c_5 c_16); first | rfl | (simp [yslip, c_5, c_16]; done) | ((try simp only [← Int32.not_lt, ← Int64.not_lt, Classical.not_not] at c_5 c_16); simp [yslip, c_5, c_16])), n, d, hD, rfl⟩
    · skip
      refine e_iloadn (pc := 19) dX7_slip_19 rfl ?_
      refine e_iconst (v := 0) (pc := 20) dX7_slip_20 (by decide) ?_
      refine e_iconst (v := 1) (pc := 21) dX7_slip_21 (by decide) ?_
      refine e_csD (pc := 22) (sp_y_in) dX7_slip_22 kX7_75 rfl rfl (mc_CR_of (Nat.le_of_ble_eq_true rfl) (Nat.le_of_ble_eq_true rfl) (Nat.le_refl _) (Nat.le_refl _)) (Nat.le_of_ble_eq_true rfl) ?_
      refine e_if_ne (pc := 25) dX7_slip_25 (t := 32) (by decide) (fun c_25 => ?_) (fun c_25 => ?_)
      · skip
        refine e_aloadn (pc := 32) dX7_slip_32 rfl ?_
        refine e_iloadn (pc := 33) dX7_slip_33 rfl ?_
        refine e_iloadn (pc := 34) dX7_slip_34 rfl ?_
        refine e_cvY (pc := 35) (sp_y_writes hG.1 hG.V (hG.k0 (mc_b1.mp c_5)) (hG.k1 (mc_b1.mp c_5)) (hG.fg _) (hG.mk _ _ (by simpa [mc_b0] using c_16)) hD) dX7_slip_35 kX7_186 rfl rfl rfl rfl rfl (mc_CR_of (Nat.le_of_ble_eq_true rfl) (Nat.le_of_ble_eq_true rfl) (Nat.le_refl _) (Nat.le_refl _)) (Nat.le_of_ble_eq_true rfl) (fun w1 hw1 => ?_)
        obtain ⟨n1, d1, hF1, rfl⟩ := hw1
        refine e_aloadn (pc := 38) dX7_slip_38 rfl ?_
        refine e_aloadn (pc := 39) dX7_slip_39 rfl ?_
        refine e_iloadn (pc := 40) dX7_slip_40 rfl ?_
        refine e_cvD (pc := 41) (sp_y_figuresOf (hG.k0 (mc_b1.mp c_5)) (hG.k1 (mc_b1.mp c_5))) dX7_slip_41 kX7_169 rfl rfl rfl rfl rfl (mc_CR_of (Nat.le_of_ble_eq_true rfl) (Nat.le_of_ble_eq_true rfl) (Nat.le_refl _) (Nat.le_refl _)) (Nat.le_of_ble_eq_true rfl) ?_
        refine e_aloadn (pc := 44) dX7_slip_44 rfl ?_
        refine e_iloadn (pc := 45) dX7_slip_45 rfl ?_
        refine e_cvD (pc := 46) (sp_y_isTurned (hG.k0 (mc_b1.mp c_5))) dX7_slip_46 kX7_172 rfl rfl rfl rfl rfl (mc_CR_of (Nat.le_of_ble_eq_true rfl) (Nat.le_of_ble_eq_true rfl) (Nat.le_refl _) (Nat.le_refl _)) (Nat.le_of_ble_eq_true rfl) ?_
        refine e_cvD (pc := 49) (sp_y_readsBy hF1 (ywr_len m b k v)) dX7_slip_49 kX7_194 rfl rfl rfl rfl rfl (mc_CR_of (Nat.le_of_ble_eq_true rfl) (Nat.le_of_ble_eq_true rfl) (Nat.le_refl _) (Nat.le_refl _)) (Nat.le_of_ble_eq_true rfl) ?_
        refine e_lsw4 (pc := 52) dX7_slip_52 (Nat.le_of_ble_eq_true rfl) rfl ?_
        refine e_iconst (v := -1) (pc := 54) dX7_slip_54 (by decide) ?_
        refine e_isw6 (pc := 55) dX7_slip_55 (Nat.le_of_ble_eq_true rfl) rfl ?_
        refine e_lconst (v := 0) (pc := 57) dX7_slip_57 (by decide) ?_
        refine e_lsw7 (pc := 58) dX7_slip_58 (Nat.le_of_ble_eq_true rfl) rfl ?_
        refine e_iconst (v := 0) (pc := 60) dX7_slip_60 (by decide) ?_
        refine e_isw9 (pc := 61) dX7_slip_61 (Nat.le_of_ble_eq_true rfl) rfl ?_
        have K := lp_y_slip (n := n1) (s := s) (a := a) (q := q) (u := u) (c := c) (h := h) (z := z) (v := v) (w := w) (xs := ywr m b k v) hG (mc_b1.mp c_5) (ywr_len m b k v) (ywr m b k v).length 0 (-1) 0 d1 none none none none (by omega) hF1 rfl
        have q16 : mc_wi v 0 99999 = true := (by simpa [mc_b0] using c_16)
        unfold yslip
        rw [if_neg (c := mc_wi k 0 (m 2 - 1) = false) (by simp [mc_b1.mp c_5]), if_neg (c := (mc_wi v 0 99999 && mc_wi w 0 1) = false) (by simp [mc_b1.mp c_25, q16])]
        exact K
      · skip
        refine e_ldc2 (pc := 28) dX7_slip_28 qX7_192 ?_
        exact e_lret (pc := 31) dX7_slip_31 rfl (Nat.le_refl _) (Nat.le_refl _) ⟨(by (try simp only [mc_cmp_le, mc_cmp_ge, mc_cmp_eq, mc_cmp_lt, mc_cmp_gt, mc_b0, mc_b1, Bool.not_eq_false, Bool.not_eq_true] at c_5 c_16 c_25); first | rfl | (simp [yslip, c_5, c_16, c_25]; done) | ((try simp only [← Int32.not_lt, ← Int64.not_lt, Classical.not_not] at c_5 c_16 c_25); simp [yslip, c_5, c_16, c_25])), n, d, hD, rfl⟩
  · skip
    refine e_ldc2 (pc := 8) dX7_slip_8 qX7_190 ?_
    exact e_lret (pc := 11) dX7_slip_11 rfl (Nat.le_refl _) (Nat.le_refl _) ⟨(by (try simp only [mc_cmp_le, mc_cmp_ge, mc_cmp_eq, mc_cmp_lt, mc_cmp_gt, mc_b0, mc_b1, Bool.not_eq_false, Bool.not_eq_true] at c_5); first | rfl | (simp [yslip, c_5]; done) | ((try simp only [← Int32.not_lt, ← Int64.not_lt, Classical.not_not] at c_5); simp [yslip, c_5])), n, d, hD, rfl⟩
theorem mc_up_up {α : Type} (f : Nat → α) (k : Nat) (x y : α) : mc_up (mc_up f k x) k y = mc_up f k y := by
  funext j; unfold mc_up; by_cases h : j = k
  · rw [if_pos h, if_pos h]
  · rw [if_neg h, if_neg h, if_neg h]
theorem yG_base {m : Nat → Int32} {b : Nat → List Int32} (h : yG m b) {x : Nat} (h1 : 2 ≤ x) (h2 : x ≤ 12) : yG (mc_up m 0 (nI x)) b :=
  ⟨h.1, h.2.1, by show 2 ≤ (nI x).toInt ∧ (nI x).toInt ≤ 12; rw [nI_toInt (by omega)]; omega, h.2.2.2.1, h.2.2.2.2.1, h.2.2.2.2.2⟩
def yfew (off : Nat → Int32) : Nat → Nat → Int32 → Int32 → Int32 × Int32
  | 0, _, be, le => (be, le)
  | f + 1, i, be, le => if be = -1 ∨ off i < le then yfew off f (i + 1) (nI i) (off i) else yfew off f (i + 1) be le
def ysho (m : Nat → Int32) (b : Nat → List Int32) (s k : Int32) (i : Nat) : Int32 := yfa (mc_up m 0 (nI i)) b s k
def yshort (m : Nat → Int32) (b : Nat → List Int32) (s k w : Int32) : Int32 :=
  if ¬ ybw b s = 0 then ybw b s else if mc_wi k 0 (m 2 - 1) = false then -5 else if mc_wi w 0 1 = false then -7
  else if w = 0 then (yfew (ysho m b s k) 11 2 (-1) 0).1 else (yfew (ysho m b s k) 11 2 (-1) 0).2
set_option maxHeartbeats 1000000 in
theorem lp_y_short {s u m : Nat → Int32} {a c b : Nat → List Int32} {q : List (Option Nat)} {h : Nat} {z : mc_W} {s0 k0 w : Int32} {V : Int32 × Int32} (hG : yG m b) (hS : ySh b) (h0 : ybw b s0 = 0) (hc : mc_wi k0 0 (m 2 - 1) = true) :
    ∀ (f i : Nat) (be le : Int32) (m1 n : Nat → Int32) (d : Nat → List Int32) (x4 : Int32) (x9 x10 : Option Value), i + f = 13 → mc_is2 (some x9) = false → 2 ≤ i → (∀ x, mc_up m1 0 x = mc_up m 0 x) → yD d → yfew (ysho m b s0 k0) f i be le = V →
      mc_E RX7 cX7_shortest 11 (mc_JM (some .int) false 7 0 0 (fun r' w' => r' = some (.int (if w = 0 then V.1 else V.2)) ∧ ∃ n1 d1, yD d1 ∧ w' = WW s a q u c h m b n1 d1 z)) 53 [some (.ref 29), some (.int s0), some (.int k0), some (.int w), some (.int x4), some (.int (m 0)), some (.int be), some (.int le), some (.int (nI i)), x9, x10] [] (WW s a q u c h m1 b n d z) 0 0 := by
  have hs := (ybw0 h0)
  intro f
  induction f with
  | zero =>
    intro i be le m1 n d x4 x9 x10 hi h9 h2 hm1 hD hV
    have e13 : i = 13 := by omega
    subst e13
    simp only [yfew] at hV
    subst hV
    refine e_iload (pc := 53) dX7_shortest_53 rfl ?_
    refine e_bipush (v := 12) (pc := 55) dX7_shortest_55 (by decide) ?_
    refine e_icmp_gt (pc := 57) dX7_shortest_57 (t := 128) (by decide) (fun _ => ?_) (fun c_57 => absurd (by decide) c_57)
    refine e_aloadn (pc := 128) dX7_shortest_128 rfl ?_
    refine e_iload (pc := 129) dX7_shortest_129 rfl ?_
    refine put_y_base0 (pc := 131) dX7_shortest_131 pX7_7 ?_
    refine e_iloadn (pc := 134) dX7_shortest_134 rfl ?_
    refine e_if_ne (pc := 135) dX7_shortest_135 (t := 143) (by decide) (fun c_135 => ?_) (fun c_135 => ?_)
    · skip
      refine e_iload (pc := 143) dX7_shortest_143 rfl ?_
      exact e_iret (pc := 145) dX7_shortest_145 rfl (Nat.le_refl _) (Nat.le_refl _) ⟨by rw [if_neg c_135], n, d, hD, by rw [hm1, mc_up_self]⟩
    · skip
      refine e_iload (pc := 138) dX7_shortest_138 rfl ?_
      refine e_goto (pc := 140) dX7_shortest_140 (t := 145) (by decide) ?_
      exact e_iret (pc := 145) dX7_shortest_145 rfl (Nat.le_refl _) (Nat.le_refl _) ⟨by rw [if_pos c_135], n, d, hD, by rw [hm1, mc_up_self]⟩
  | succ f ih =>
    intro i be le m1 n d x4 x9 x10 hi h9 h2 hm1 hD hV
    simp only [yfew] at hV
    have hG2 : yG (mc_up m 0 (nI i)) b := yG_base hG h2 (by omega)
    have n12 : ¬ (12 : Int32) < nI i := nI_nlt (a := 12) (b := i) (by omega) (by decide)
    refine e_iload (pc := 53) dX7_shortest_53 rfl ?_
    refine e_bipush (v := 12) (pc := 55) dX7_shortest_55 (by decide) ?_
    refine e_icmp_gt (pc := 57) dX7_shortest_57 (t := 128) (by decide) (fun c_57 => absurd c_57 n12) (fun _ => ?_)
    refine e_aloadn (pc := 60) dX7_shortest_60 rfl ?_
    refine e_iload (pc := 61) dX7_shortest_61 rfl ?_
    refine put_y_base0 (pc := 63) dX7_shortest_63 pX7_7 ?_
    rw [hm1]
    refine e_aloadn (pc := 66) dX7_shortest_66 rfl ?_
    refine e_iloadn (pc := 67) dX7_shortest_67 rfl ?_
    refine e_iloadn (pc := 68) dX7_shortest_68 rfl ?_
    refine e_cvX (pc := 69) (sp_y_figuresAll hG2 hS hs.1 hc hs.2 hD) dX7_shortest_69 kX7_237 rfl rfl rfl rfl rfl (mc_CR_of (Nat.le_of_ble_eq_true rfl) (Nat.le_of_ble_eq_true rfl) (Nat.le_refl _) (Nat.le_refl _)) (Nat.le_of_ble_eq_true rfl) (fun w1 hw1 => ?_)
    obtain ⟨n1, d1, hD1, rfl⟩ := hw1
    refine e_isw9 (pc := 72) dX7_shortest_72 (Nat.le_of_ble_eq_true rfl) rfl ?_
    refine e_iload (pc := 74) dX7_shortest_74 rfl ?_
    refine e_iconst (v := -1) (pc := 76) dX7_shortest_76 (by decide) ?_
    refine e_icmp_eq (pc := 77) dX7_shortest_77 (t := 87) (by decide) (fun c_77 => ?_) (fun c_77 => ?_)
    · skip
      refine e_iconst (v := 1) (pc := 87) dX7_shortest_87 (by decide) ?_
      refine e_goto (pc := 88) dX7_shortest_88 (t := 92) (by decide) ?_
      refine e_isw10 (pc := 92) dX7_shortest_92 (Nat.le_of_ble_eq_true rfl) rfl ?_
      refine e_iload (pc := 94) dX7_shortest_94 rfl ?_
      refine e_if_eq (pc := 96) dX7_shortest_96 (t := 104) (by decide) (fun c_96 => absurd c_96 (by decide)) (fun _ => ?_)
      refine e_iload (pc := 99) dX7_shortest_99 rfl ?_
      refine e_goto (pc := 101) dX7_shortest_101 (t := 106) (by decide) ?_
      refine e_isw6 (pc := 106) dX7_shortest_106 (Nat.le_of_ble_eq_true rfl) rfl ?_
      refine e_iload (pc := 108) dX7_shortest_108 rfl ?_
      refine e_if_eq (pc := 110) dX7_shortest_110 (t := 118) (by decide) (fun c_110 => absurd c_110 (by decide)) (fun _ => ?_)
      refine e_iload (pc := 113) dX7_shortest_113 rfl ?_
      refine e_goto (pc := 115) dX7_shortest_115 (t := 120) (by decide) ?_
      refine e_isw7 (pc := 120) dX7_shortest_120 (Nat.le_of_ble_eq_true rfl) rfl ?_
      refine e_incC8 (pc := 122) dX7_shortest_122 (nI_1 i) (Nat.le_of_ble_eq_true rfl) rfl ?_
      refine e_goto (pc := 125) dX7_shortest_125 (t := 53) (by decide) ?_
      exact ih (i + 1) _ _ _ n1 d1 _ _ _ (by omega) rfl (by omega) (fun x => mc_up_up _ _ _ _) hD1 (by rw [← hV, if_pos (c := be = -1 ∨ ysho m b s0 k0 i < le) (Or.inl c_77)] <;> rfl)
    · skip
      refine e_iload (pc := 80) dX7_shortest_80 rfl ?_
      refine e_iload (pc := 82) dX7_shortest_82 rfl ?_
      refine e_icmp_ge (pc := 84) dX7_shortest_84 (t := 91) (by decide) (fun c_84 => ?_) (fun c_84 => ?_)
      · skip
        refine e_iconst (v := 0) (pc := 91) dX7_shortest_91 (by decide) ?_
        refine e_isw10 (pc := 92) dX7_shortest_92 (Nat.le_of_ble_eq_true rfl) rfl ?_
        refine e_iload (pc := 94) dX7_shortest_94 rfl ?_
        refine e_if_eq (pc := 96) dX7_shortest_96 (t := 104) (by decide) (fun _ => ?_) (fun c_96 => absurd (by decide) c_96)
        refine e_iload (pc := 104) dX7_shortest_104 rfl ?_
        refine e_isw6 (pc := 106) dX7_shortest_106 (Nat.le_of_ble_eq_true rfl) rfl ?_
        refine e_iload (pc := 108) dX7_shortest_108 rfl ?_
        refine e_if_eq (pc := 110) dX7_shortest_110 (t := 118) (by decide) (fun _ => ?_) (fun c_110 => absurd (by decide) c_110)
        refine e_iload (pc := 118) dX7_shortest_118 rfl ?_
        refine e_isw7 (pc := 120) dX7_shortest_120 (Nat.le_of_ble_eq_true rfl) rfl ?_
        refine e_incC8 (pc := 122) dX7_shortest_122 (nI_1 i) (Nat.le_of_ble_eq_true rfl) rfl ?_
        refine e_goto (pc := 125) dX7_shortest_125 (t := 53) (by decide) ?_
        exact ih (i + 1) _ _ _ n1 d1 _ _ _ (by omega) rfl (by omega) (fun x => mc_up_up _ _ _ _) hD1 (by rw [← hV, if_neg (c := be = -1 ∨ ysho m b s0 k0 i < le) (fun q => q.elim c_77 (Int32.not_lt.mpr c_84))] <;> rfl)
      · skip
        refine e_iconst (v := 1) (pc := 87) dX7_shortest_87 (by decide) ?_
        refine e_goto (pc := 88) dX7_shortest_88 (t := 92) (by decide) ?_
        refine e_isw10 (pc := 92) dX7_shortest_92 (Nat.le_of_ble_eq_true rfl) rfl ?_
        refine e_iload (pc := 94) dX7_shortest_94 rfl ?_
        refine e_if_eq (pc := 96) dX7_shortest_96 (t := 104) (by decide) (fun c_96 => absurd c_96 (by decide)) (fun _ => ?_)
        refine e_iload (pc := 99) dX7_shortest_99 rfl ?_
        refine e_goto (pc := 101) dX7_shortest_101 (t := 106) (by decide) ?_
        refine e_isw6 (pc := 106) dX7_shortest_106 (Nat.le_of_ble_eq_true rfl) rfl ?_
        refine e_iload (pc := 108) dX7_shortest_108 rfl ?_
        refine e_if_eq (pc := 110) dX7_shortest_110 (t := 118) (by decide) (fun c_110 => absurd c_110 (by decide)) (fun _ => ?_)
        refine e_iload (pc := 113) dX7_shortest_113 rfl ?_
        refine e_goto (pc := 115) dX7_shortest_115 (t := 120) (by decide) ?_
        refine e_isw7 (pc := 120) dX7_shortest_120 (Nat.le_of_ble_eq_true rfl) rfl ?_
        refine e_incC8 (pc := 122) dX7_shortest_122 (nI_1 i) (Nat.le_of_ble_eq_true rfl) rfl ?_
        refine e_goto (pc := 125) dX7_shortest_125 (t := 53) (by decide) ?_
        exact ih (i + 1) _ _ _ n1 d1 _ _ _ (by omega) rfl (by omega) (fun x => mc_up_up _ _ _ _) hD1 (by rw [← hV, if_pos (c := be = -1 ∨ ysho m b s0 k0 i < le) (Or.inr (Int32.not_le.mp c_84))] <;> rfl)
theorem sp_y_shortest {s u m n : Nat → Int32} {a c b d : Nat → List Int32} {q : List (Option Nat)} {h : Nat} {z : mc_W} {s0 k w : Int32} (hG : yG m b) (hS : ySh b) (hD : yD d) : mc_T yX7_shortest cX7_shortest 11 (some .int) 7 [.ref 29, .int s0, .int k, .int w] (WW s a q u c h m b n d z) (some (.int (yshort m b s0 k w))) (fun w' => ∃ n1 d1, yD d1 ∧ w' = WW s a q u c h m b n1 d1 z) := by
  refine mc_start (own := RX7) (ini := false) rfl (by decide +kernel) (fun h => by cases h) (Nat.le_of_ble_eq_true rfl) ?_
  show mc_E _ _ _ _ _ [some (.ref 29), some (.int s0), some (.int k), some (.int w), none, none, none, none, none, none, none] [] _ _ _
  refine e_aloadn (pc := 0) dX7_shortest_0 rfl ?_
  refine e_iloadn (pc := 1) dX7_shortest_1 rfl ?_
  refine e_cvD (pc := 2) (sp_y_bookWrong hG.1 hS) dX7_shortest_2 kX7_214 rfl rfl rfl rfl rfl (mc_CR_of (Nat.le_of_ble_eq_true rfl) (Nat.le_of_ble_eq_true rfl) (Nat.le_refl _) (Nat.le_refl _)) (Nat.le_of_ble_eq_true rfl) ?_
  refine e_isw4 (pc := 5) dX7_shortest_5 (Nat.le_of_ble_eq_true rfl) rfl ?_
  refine e_iload (pc := 7) dX7_shortest_7 rfl ?_
  refine e_if_eq (pc := 9) dX7_shortest_9 (t := 15) (by decide) (fun c_9 => ?_) (fun c_9 => ?_)
  · skip
    refine e_aloadn (pc := 15) dX7_shortest_15 rfl ?_
    refine e_iloadn (pc := 16) dX7_shortest_16 rfl ?_
    refine e_cvD (pc := 17) (sp_y_isClerk) dX7_shortest_17 kX7_159 rfl rfl rfl rfl rfl (mc_CR_of (Nat.le_of_ble_eq_true rfl) (Nat.le_of_ble_eq_true rfl) (Nat.le_refl _) (Nat.le_refl _)) (Nat.le_of_ble_eq_true rfl) ?_
    refine e_if_ne (pc := 20) dX7_shortest_20 (t := 26) (by decide) (fun c_20 => ?_) (fun c_20 => ?_)
    · skip
      refine e_iloadn (pc := 26) dX7_shortest_26 rfl ?_
      refine e_iconst (v := 0) (pc := 27) dX7_shortest_27 (by decide) ?_
      refine e_iconst (v := 1) (pc := 28) dX7_shortest_28 (by decide) ?_
      refine e_csD (pc := 29) (sp_y_in) dX7_shortest_29 kX7_75 rfl rfl (mc_CR_of (Nat.le_of_ble_eq_true rfl) (Nat.le_of_ble_eq_true rfl) (Nat.le_refl _) (Nat.le_refl _)) (Nat.le_of_ble_eq_true rfl) ?_
      refine e_if_ne (pc := 32) dX7_shortest_32 (t := 38) (by decide) (fun c_32 => ?_) (fun c_32 => ?_)
      · skip
        refine e_aloadn (pc := 38) dX7_shortest_38 rfl ?_
        refine e_get (pc := 39) dX7_shortest_39 fX7_7 rfl rfl ?_
        refine e_isw5 (pc := 42) dX7_shortest_42 (Nat.le_of_ble_eq_true rfl) rfl ?_
        refine e_iconst (v := -1) (pc := 44) dX7_shortest_44 (by decide) ?_
        refine e_isw6 (pc := 45) dX7_shortest_45 (Nat.le_of_ble_eq_true rfl) rfl ?_
        refine e_iconst (v := 0) (pc := 47) dX7_shortest_47 (by decide) ?_
        refine e_isw7 (pc := 48) dX7_shortest_48 (Nat.le_of_ble_eq_true rfl) rfl ?_
        refine e_iconst (v := 2) (pc := 50) dX7_shortest_50 (by decide) ?_
        refine e_isw8 (pc := 51) dX7_shortest_51 (Nat.le_of_ble_eq_true rfl) rfl ?_
        have K := lp_y_short (s := s) (a := a) (q := q) (u := u) (c := c) (h := h) (z := z) (w := w) hG hS c_9 (mc_b1.mp c_20) 11 2 (-1) 0 m n d (ybw b s0) none none (by omega) rfl (by omega) (fun _ => rfl) hD rfl
        unfold yshort
        rw [if_neg (fun q => q c_9), if_neg (c := mc_wi k 0 (m 2 - 1) = false) (by simp [mc_b1.mp c_20]), if_neg (c := mc_wi w 0 1 = false) (by simp [mc_b1.mp c_32])]
        exact K
      · skip
        refine e_bipush (v := -7) (pc := 35) dX7_shortest_35 (by decide) ?_
        exact e_iret (pc := 37) dX7_shortest_37 rfl (Nat.le_refl _) (Nat.le_refl _) ⟨(by (try simp only [mc_cmp_le, mc_cmp_ge, mc_cmp_eq, mc_cmp_lt, mc_cmp_gt, mc_b0, mc_b1, Bool.not_eq_false, Bool.not_eq_true] at c_9 c_20 c_32); first | rfl | (simp [yshort, c_9, c_20, c_32]; done) | ((try simp only [← Int32.not_lt, ← Int64.not_lt, Classical.not_not] at c_9 c_20 c_32); simp [yshort, c_9, c_20, c_32])), n, d, hD, rfl⟩
    · skip
      refine e_bipush (v := -5) (pc := 23) dX7_shortest_23 (by decide) ?_
      exact e_iret (pc := 25) dX7_shortest_25 rfl (Nat.le_refl _) (Nat.le_refl _) ⟨(by (try simp only [mc_cmp_le, mc_cmp_ge, mc_cmp_eq, mc_cmp_lt, mc_cmp_gt, mc_b0, mc_b1, Bool.not_eq_false, Bool.not_eq_true] at c_9 c_20); first | rfl | (simp [yshort, c_9, c_20]; done) | ((try simp only [← Int32.not_lt, ← Int64.not_lt, Classical.not_not] at c_9 c_20); simp [yshort, c_9, c_20])), n, d, hD, rfl⟩
  · skip
    refine e_iload (pc := 12) dX7_shortest_12 rfl ?_
    exact e_iret (pc := 14) dX7_shortest_14 rfl (Nat.le_refl _) (Nat.le_refl _) ⟨(by (try simp only [mc_cmp_le, mc_cmp_ge, mc_cmp_eq, mc_cmp_lt, mc_cmp_gt, mc_b0, mc_b1, Bool.not_eq_false, Bool.not_eq_true] at c_9); first | rfl | (simp [yshort, c_9]; done) | ((try simp only [← Int32.not_lt, ← Int64.not_lt, Classical.not_not] at c_9); simp [yshort, c_9])), n, d, hD, rfl⟩
end Zj_28_y9
section Zj_29_y10
/-! told books -/
/-- whether the numbers at the even places are numbers -/
def yevn (row : List Int32) : Nat → Nat → Bool
  | 0, _ => true
  | f + 1, i => if 2 * i < row.length then ynum (row.getD (2 * i) 0) && yevn row f (i + 1) else true
def ysw (b : Nat → List Int32) (s : Int32) : Int32 := if mc_wi s 0 3 = false then -2 else if gt (b 7) s = -1 then -11 else if yevn (yrow b s) 21 0 = true then (if (yrow b s).length % 2 = 0 then 0 else -2) else -2
theorem lp_y_sheetWrong {s u m n : Nat → Int32} {a c b d : Nat → List Int32} {q : List (Option Nat)} {h : Nat} {z : mc_W} {s0 V : Int32} (hL : yL b) (hS : ySh b) (hs : mc_wi s0 0 3 = true) :
    ∀ (f i : Nat), i + f = 21 → (if yevn (yrow b s0) f i = true then (if (yrow b s0).length % 2 = 0 then 0 else -2) else -2) = V →
      mc_E RX7 cX7_sheetWrong 3 (mc_JM (some .int) false 3 0 0 (fun r' w' => r' = some (.int V) ∧ w' = WW s a q u c h m b n d z)) 27 [some (.ref 29), some (.int s0), some (.int (nI (2 * i)))] [] (WW s a q u c h m b n d z) 0 0 := by
  obtain ⟨sz, hz, hlen, i7, i8, e8, i9, e9⟩ := yrow_facts hL hS hs
  have r2 : nI sz - nI sz / 2 * 2 = nI (sz % 2) := pk_rem (a := sz) (d := 2) (by omega) (by decide) (by decide)
  have END : ∀ i, i ≤ 21 → sz ≤ 2 * i → (if sz % 2 = 0 then 0 else -2) = V → mc_E RX7 cX7_sheetWrong 3 (mc_JM (some .int) false 3 0 0 (fun r' w' => r' = some (.int V) ∧ w' = WW s a q u c h m b n d z)) 27 [some (.ref 29), some (.int s0), some (.int (nI (2 * i)))] [] (WW s a q u c h m b n d z) 0 0 := by
    intro i hi hsi hV
    refine e_iloadn (pc := 27) dX7_sheetWrong_27 rfl ?_
    refine e_aloadn (pc := 28) dX7_sheetWrong_28 rfl ?_
    refine e_get (pc := 29) dX7_sheetWrong_29 fX7_41 rfl rfl ?_
    refine e_iloadn (pc := 32) dX7_sheetWrong_32 rfl ?_
    refine aldv_sheetSize (pc := 33) dX7_sheetWrong_33 i8 e8 ?_
    refine e_icmp_ge (pc := 34) dX7_sheetWrong_34 (t := 63) (by decide) (fun _ => ?_) (fun c_34 => absurd (nI_le hsi (by omega)) c_34)
    refine e_aloadn (pc := 63) dX7_sheetWrong_63 rfl ?_
    refine e_get (pc := 64) dX7_sheetWrong_64 fX7_41 rfl rfl ?_
    refine e_iloadn (pc := 67) dX7_sheetWrong_67 rfl ?_
    refine aldv_sheetSize (pc := 68) dX7_sheetWrong_68 i8 e8 ?_
    refine e_iconst (v := 2) (pc := 69) dX7_sheetWrong_69 (by decide) ?_
    refine e_irem (pc := 70) dX7_sheetWrong_70 (by decide) ?_
    refine e_top (r2) ?_
    refine e_if_ne (pc := 71) dX7_sheetWrong_71 (t := 78) (by decide) (fun c_71 => ?_) (fun c_71 => ?_)
    · skip
      refine e_bipush (v := -2) (pc := 78) dX7_sheetWrong_78 (by decide) ?_
      exact e_iret (pc := 80) dX7_sheetWrong_80 rfl (Nat.le_refl _) (Nat.le_refl _) ⟨by rw [← hV, if_neg (fun q => c_71 (by rw [q]; rfl))], rfl⟩
    · skip
      refine e_iconst (v := 0) (pc := 74) dX7_sheetWrong_74 (by decide) ?_
      refine e_goto (pc := 75) dX7_sheetWrong_75 (t := 80) (by decide) ?_
      exact e_iret (pc := 80) dX7_sheetWrong_80 rfl (Nat.le_refl _) (Nat.le_refl _) ⟨by rw [← hV, if_pos ((nI_eq (a := sz % 2) (b := 0) (by omega) (by decide)).mp c_71)], rfl⟩
  intro f
  induction f with
  | zero =>
    intro i hi hV
    rw [hlen] at hV
    exact END i (by omega) (by omega) hV
  | succ f ih =>
    intro i hi hV
    by_cases hsi : sz ≤ 2 * i
    · rw [hlen, show yevn (yrow b s0) (f + 1) i = true by unfold yevn; rw [if_neg (by omega)]] at hV
      exact END i (by omega) hsi hV
    have g3 : 2 * i < sz := by omega
    have ey : yevn (yrow b s0) (f + 1) i = (ynum ((yrow b s0).getD (2 * i) 0) && yevn (yrow b s0) f (i + 1)) := by rw [yevn, if_pos (by omega)]
    have ex := e9 (2 * i) g3
    refine e_iloadn (pc := 27) dX7_sheetWrong_27 rfl ?_
    refine e_aloadn (pc := 28) dX7_sheetWrong_28 rfl ?_
    refine e_get (pc := 29) dX7_sheetWrong_29 fX7_41 rfl rfl ?_
    refine e_iloadn (pc := 32) dX7_sheetWrong_32 rfl ?_
    refine aldv_sheetSize (pc := 33) dX7_sheetWrong_33 i8 e8 ?_
    refine e_icmp_ge (pc := 34) dX7_sheetWrong_34 (t := 63) (by decide) (fun c_34 => absurd c_34 (nI_ge g3 (by omega))) (fun _ => ?_)
    refine e_aloadn (pc := 37) dX7_sheetWrong_37 rfl ?_
    refine e_get (pc := 38) dX7_sheetWrong_38 fX7_44 rfl rfl ?_
    refine e_bipush (v := 40) (pc := 41) dX7_sheetWrong_41 (by decide) ?_
    refine e_iloadn (pc := 43) dX7_sheetWrong_43 rfl ?_
    refine e_imul (pc := 44) dX7_sheetWrong_44 ?_
    refine e_iloadn (pc := 45) dX7_sheetWrong_45 rfl ?_
    refine e_iadd (pc := 46) dX7_sheetWrong_46 ?_
    refine aldv_ycells (pc := 47) dX7_sheetWrong_47 (i9 (2 * i) (by omega)) ex ?_
    refine e_csD (pc := 48) (sp_y_isNumber) dX7_sheetWrong_48 kX7_162 rfl rfl (mc_CR_of (Nat.le_of_ble_eq_true rfl) (Nat.le_of_ble_eq_true rfl) (Nat.le_refl _) (Nat.le_refl _)) (Nat.le_of_ble_eq_true rfl) ?_
    refine e_if_ne (pc := 51) dX7_sheetWrong_51 (t := 57) (by decide) (fun c_51 => ?_) (fun c_51 => ?_)
    · skip
      refine e_incC2 (pc := 57) dX7_sheetWrong_57 (show nI (2 * i) + Int32.ofInt 2 = nI (2 * (i + 1)) from nI_add (2 * i) 2) (Nat.le_of_ble_eq_true rfl) rfl ?_
      refine e_goto (pc := 60) dX7_sheetWrong_60 (t := 27) (by decide) ?_
      exact ih (i + 1) (by omega) (by rw [← hV, ey, show ynum ((yrow b s0).getD (2 * i) 0) = true from mc_b1.mp c_51]; rfl)
    · skip
      refine e_bipush (v := -2) (pc := 54) dX7_sheetWrong_54 (by decide) ?_
      exact e_iret (pc := 56) dX7_sheetWrong_56 rfl (Nat.le_refl _) (Nat.le_refl _) ⟨by rw [← hV, ey, show ynum ((yrow b s0).getD (2 * i) 0) = false from mc_b0.mp c_51]; rfl, rfl⟩
theorem sp_y_sheetWrong {s u m n : Nat → Int32} {a c b d : Nat → List Int32} {q : List (Option Nat)} {h : Nat} {z : mc_W} {s0 : Int32} (hL : yL b) (hS : ySh b) : mc_D yX7_sheetWrong cX7_sheetWrong 3 (some .int) 3 [.ref 29, .int s0] (WW s a q u c h m b n d z) (some (.int (ysw b s0))) (WW s a q u c h m b n d z) := by
  refine mc_start (own := RX7) (ini := false) rfl (by decide +kernel) (fun h => by cases h) (Nat.le_of_ble_eq_true rfl) ?_
  show mc_E _ _ _ _ _ [some (.ref 29), some (.int s0), none] [] _ _ _
  have i7 : mc_wi s0 0 3 = true → vp_in s0 (b 7).length := fun hs => (yrow_facts hL hS hs).choose_spec.2.2.1
  refine e_iloadn (pc := 0) dX7_sheetWrong_0 rfl ?_
  refine e_iconst (v := 0) (pc := 1) dX7_sheetWrong_1 (by decide) ?_
  refine e_iconst (v := 3) (pc := 2) dX7_sheetWrong_2 (by decide) ?_
  refine e_csD (pc := 3) (sp_y_in) dX7_sheetWrong_3 kX7_75 rfl rfl (mc_CR_of (Nat.le_of_ble_eq_true rfl) (Nat.le_of_ble_eq_true rfl) (Nat.le_refl _) (Nat.le_refl _)) (Nat.le_of_ble_eq_true rfl) ?_
  refine e_if_ne (pc := 6) dX7_sheetWrong_6 (t := 12) (by decide) (fun c_6 => ?_) (fun c_6 => ?_)
  · skip
    refine e_aloadn (pc := 12) dX7_sheetWrong_12 rfl ?_
    refine e_get (pc := 13) dX7_sheetWrong_13 fX7_38 rfl rfl ?_
    refine e_iloadn (pc := 16) dX7_sheetWrong_16 rfl ?_
    refine ald_sheetSort (pc := 17) dX7_sheetWrong_17 (i7 (mc_b1.mp c_6)) ?_
    refine e_iconst (v := -1) (pc := 18) dX7_sheetWrong_18 (by decide) ?_
    refine e_icmp_ne (pc := 19) dX7_sheetWrong_19 (t := 25) (by decide) (fun c_19 => ?_) (fun c_19 => ?_)
    · skip
      refine e_iconst (v := 0) (pc := 25) dX7_sheetWrong_25 (by decide) ?_
      refine e_isn2 (pc := 26) dX7_sheetWrong_26 (Nat.le_of_ble_eq_true rfl) rfl ?_
      exact lp_y_sheetWrong hL hS (mc_b1.mp c_6) 21 0 rfl (by unfold ysw; rw [if_neg (c := mc_wi s0 0 3 = false) (by simp [mc_b1.mp c_6]), if_neg (c := gt (b 7) s0 = -1) c_19])
    · skip
      refine e_bipush (v := -11) (pc := 22) dX7_sheetWrong_22 (by decide) ?_
      exact e_iret (pc := 24) dX7_sheetWrong_24 rfl (Nat.le_refl _) (Nat.le_refl _) ⟨by unfold ysw; rw [if_neg (by simp [mc_b1.mp c_6]), if_pos (c := gt (b 7) s0 = -1) c_19], rfl⟩
  · skip
    refine e_bipush (v := -2) (pc := 9) dX7_sheetWrong_9 (by decide) ?_
    exact e_iret (pc := 11) dX7_sheetWrong_11 rfl (Nat.le_refl _) (Nat.le_refl _) ⟨by unfold ysw; rw [if_pos (by simpa [mc_b0] using c_6)], rfl⟩
def ytw (m : Nat → Int32) (b : Nat → List Int32) (s k : Int32) : Int32 := if ¬ ysw b s = 0 then ysw b s else if mc_wi k 0 (m 2 - 1) = true then 0 else -5
theorem sp_y_toldWrong {s u m n : Nat → Int32} {a c b d : Nat → List Int32} {q : List (Option Nat)} {h : Nat} {z : mc_W} {s0 k : Int32} (hL : yL b) (hS : ySh b) : mc_D yX7_toldWrong cX7_toldWrong 4 (some .int) 4 [.ref 29, .int s0, .int k] (WW s a q u c h m b n d z) (some (.int (ytw m b s0 k))) (WW s a q u c h m b n d z) := by
  refine mc_start (own := RX7) (ini := false) rfl (by decide +kernel) (fun h => by cases h) (Nat.le_of_ble_eq_true rfl) ?_
  show mc_E _ _ _ _ _ [some (.ref 29), some (.int s0), some (.int k), none] [] _ _ _
  refine e_aloadn (pc := 0) dX7_toldWrong_0 rfl ?_
  refine e_iloadn (pc := 1) dX7_toldWrong_1 rfl ?_
  refine e_cvD (pc := 2) (sp_y_sheetWrong hL hS) dX7_toldWrong_2 kX7_269 rfl rfl rfl rfl rfl (mc_CR_of (Nat.le_of_ble_eq_true rfl) (Nat.le_of_ble_eq_true rfl) (Nat.le_refl _) (Nat.le_refl _)) (Nat.le_of_ble_eq_true rfl) ?_
  refine e_isn3 (pc := 5) dX7_toldWrong_5 (Nat.le_of_ble_eq_true rfl) rfl ?_
  refine e_iloadn (pc := 6) dX7_toldWrong_6 rfl ?_
  refine e_if_eq (pc := 7) dX7_toldWrong_7 (t := 14) (by decide) (fun c_7 => ?_) (fun c_7 => ?_)
  · skip
    refine e_aloadn (pc := 14) dX7_toldWrong_14 rfl ?_
    refine e_iloadn (pc := 15) dX7_toldWrong_15 rfl ?_
    refine e_cvD (pc := 16) (sp_y_isClerk) dX7_toldWrong_16 kX7_159 rfl rfl rfl rfl rfl (mc_CR_of (Nat.le_of_ble_eq_true rfl) (Nat.le_of_ble_eq_true rfl) (Nat.le_refl _) (Nat.le_refl _)) (Nat.le_of_ble_eq_true rfl) ?_
    refine e_if_eq (pc := 19) dX7_toldWrong_19 (t := 26) (by decide) (fun c_19 => ?_) (fun c_19 => ?_)
    · skip
      refine e_bipush (v := -5) (pc := 26) dX7_toldWrong_26 (by decide) ?_
      exact e_iret (pc := 28) dX7_toldWrong_28 rfl (Nat.le_refl _) (Nat.le_refl _) ⟨(by (try simp only [mc_cmp_le, mc_cmp_ge, mc_cmp_eq, mc_cmp_lt, mc_cmp_gt, mc_b0, mc_b1, Bool.not_eq_false, Bool.not_eq_true] at c_7 c_19); first | rfl | (simp [ytw, c_7, c_19]; done) | ((try simp only [← Int32.not_lt, ← Int64.not_lt, Classical.not_not] at c_7 c_19); simp [ytw, c_7, c_19])), rfl⟩
    · skip
      refine e_iconst (v := 0) (pc := 22) dX7_toldWrong_22 (by decide) ?_
      refine e_goto (pc := 23) dX7_toldWrong_23 (t := 28) (by decide) ?_
      exact e_iret (pc := 28) dX7_toldWrong_28 rfl (Nat.le_refl _) (Nat.le_refl _) ⟨(by (try simp only [mc_cmp_le, mc_cmp_ge, mc_cmp_eq, mc_cmp_lt, mc_cmp_gt, mc_b0, mc_b1, Bool.not_eq_false, Bool.not_eq_true] at c_7 c_19); first | rfl | (simp [ytw, c_7, c_19]; done) | ((try simp only [← Int32.not_lt, ← Int64.not_lt, Classical.not_not] at c_7 c_19); simp [ytw, c_7, c_19])), rfl⟩
  · skip
    refine e_iloadn (pc := 10) dX7_toldWrong_10 rfl ?_
    refine e_goto (pc := 11) dX7_toldWrong_11 (t := 28) (by decide) ?_
    exact e_iret (pc := 28) dX7_toldWrong_28 rfl (Nat.le_refl _) (Nat.le_refl _) ⟨(by (try simp only [mc_cmp_le, mc_cmp_ge, mc_cmp_eq, mc_cmp_lt, mc_cmp_gt, mc_b0, mc_b1, Bool.not_eq_false, Bool.not_eq_true] at c_7); first | rfl | (simp [ytw, c_7]; done) | ((try simp only [← Int32.not_lt, ← Int64.not_lt, Classical.not_not] at c_7); simp [ytw, c_7])), rfl⟩
theorem yevn_ok {row : List Int32} (f i : Nat) (h : yevn row f i = true) : ∀ j, i ≤ j → j < i + f → 2 * j < row.length → ynum (row.getD (2 * j) 0) = true := by
  induction f generalizing i with
  | zero => intro j h1 h2; omega
  | succ f ih =>
    intro j h1 h2 h3
    unfold yevn at h
    rw [if_pos (by omega), Bool.and_eq_true] at h
    by_cases hj : j = i
    · rw [hj]; exact h.1
    · exact ih (i + 1) h.2 j (by omega) (by omega) h3
theorem ysw0 {b : Nat → List Int32} {s : Int32} (hL : yL b) (hS : ySh b) (h : ysw b s = 0) : mc_wi s 0 3 = true ∧ (∀ j, 2 * j < (yrow b s).length → ynum ((yrow b s).getD (2 * j) 0) = true) ∧ (yrow b s).length % 2 = 0 := by
  unfold ysw at h
  by_cases h1 : mc_wi s 0 3 = false
  · rw [if_pos h1] at h; exact absurd h (by decide)
  · rw [if_neg h1] at h
    have hs : mc_wi s 0 3 = true := by simpa using h1
    by_cases h2 : gt (b 7) s = -1
    · rw [if_pos h2] at h; exact absurd h (by decide)
    · rw [if_neg h2] at h
      by_cases h3 : yevn (yrow b s) 21 0 = true
      · rw [if_pos h3] at h
        by_cases h4 : (yrow b s).length % 2 = 0
        · obtain ⟨sz, hz, hlen, -⟩ := yrow_facts hL hS hs
          exact ⟨hs, fun j hj => yevn_ok 21 0 h3 j (by omega) (by omega) hj, h4⟩
        · rw [if_neg h4] at h; exact absurd h (by decide)
      · rw [if_neg h3] at h; exact absurd h (by decide)
/-- the first row of two that is otherwise -/
def yunf (m : Nat → Int32) (b : Nat → List Int32) (k : Int32) (row : List Int32) : Nat → Nat → Int32
  | 0, _ => -1
  | f + 1, i => if ypl m b k (row.getD (2 * i) 0) = (row.getD (2 * i + 1) 0).toInt64 then yunf m b k row f (i + 1) else nI i
def yunl (m : Nat → Int32) (b : Nat → List Int32) (s k : Int32) : Int32 := yunf m b k (yrow b s) ((yrow b s).length / 2) 0
theorem lp_y_unlike {s u m : Nat → Int32} {a c b : Nat → List Int32} {q : List (Option Nat)} {h : Nat} {z : mc_W} {s0 k0 V : Int32} (hG : yG m b) (hS : ySh b) (h0 : ysw b s0 = 0) (hc : mc_wi k0 0 (m 2 - 1) = true) :
    ∀ (f i : Nat) (n : Nat → Int32) (d : Nat → List Int32), i + f = (yrow b s0).length / 2 → yD d → yunf m b k0 (yrow b s0) f i = V →
      mc_E RX7 cX7_unlike 4 (mc_JM (some .int) false 7 0 0 (fun r' w' => r' = some (.int V) ∧ ∃ n1 d1, yD d1 ∧ w' = WW s a q u c h m b n1 d1 z)) 2 [some (.ref 29), some (.int s0), some (.int k0), some (.int (nI i))] [] (WW s a q u c h m b n d z) 0 0 := by
  have hL := hG.1
  obtain ⟨hs, hnum, hev⟩ := ysw0 hL hS h0
  obtain ⟨sz, hz, hlen, i7, i8, e8, i9, e9⟩ := yrow_facts hL hS hs
  have r2 : nI sz / 2 = nI (sz / 2) := pk_div (a := sz) (d := 2) (by omega) (by decide) (by decide)
  have i92 : ∀ i, i < sz / 2 → vp_in (40 * s0 + 2 * nI i) (b 9).length ∧ vp_in (40 * s0 + 2 * nI i + 1) (b 9).length ∧ (b 9).getD (40 * s0 + 2 * nI i).toNatClampNeg 0 = (yrow b s0).getD (2 * i) 0 ∧ (b 9).getD (40 * s0 + 2 * nI i + 1).toNatClampNeg 0 = (yrow b s0).getD (2 * i + 1) 0 := fun i hi => by
    have e2 : (2 : Int32) * nI i = nI (2 * i) := pk_mul 2 i
    have e3 : 40 * s0 + 2 * nI i + 1 = 40 * s0 + nI (2 * i + 1) := by rw [e2, Int32.add_assoc, nI_1]
    rw [e3, e2]
    exact ⟨i9 _ (by omega), i9 _ (by omega), e9 _ (by omega), e9 _ (by omega)⟩
  intro f
  induction f with
  | zero =>
    intro i n d hi hD hV
    have hi2 : i = sz / 2 := by omega
    have hV : -1 = V := hV
    subst hV
    refine e_iloadn (pc := 2) dX7_unlike_2 rfl ?_
    refine e_aloadn (pc := 3) dX7_unlike_3 rfl ?_
    refine e_get (pc := 4) dX7_unlike_4 fX7_41 rfl rfl ?_
    refine e_iloadn (pc := 7) dX7_unlike_7 rfl ?_
    refine aldv_sheetSize (pc := 8) dX7_unlike_8 i8 e8 ?_
    refine e_iconst (v := 2) (pc := 9) dX7_unlike_9 (by decide) ?_
    refine e_idiv (pc := 10) dX7_unlike_10 (by decide) ?_
    refine e_top (r2) ?_
    refine e_icmp_ge (pc := 11) dX7_unlike_11 (t := 60) (by decide) (fun _ => ?_) (fun c_11 => absurd (by rw [hi2]; exact nI_le (Nat.le_refl _) (by omega)) c_11)
    refine e_iconst (v := -1) (pc := 60) dX7_unlike_60 (by decide) ?_
    exact e_iret (pc := 61) dX7_unlike_61 rfl (Nat.le_refl _) (Nat.le_refl _) ⟨rfl, n, d, hD, rfl⟩
  | succ f ih =>
    intro i n d hi hD hV
    have g3 : i < sz / 2 := by omega
    obtain ⟨j1, j2, j3, j4⟩ := i92 i g3
    have hv := hnum i (by omega)
    simp only [yunf] at hV
    refine e_iloadn (pc := 2) dX7_unlike_2 rfl ?_
    refine e_aloadn (pc := 3) dX7_unlike_3 rfl ?_
    refine e_get (pc := 4) dX7_unlike_4 fX7_41 rfl rfl ?_
    refine e_iloadn (pc := 7) dX7_unlike_7 rfl ?_
    refine aldv_sheetSize (pc := 8) dX7_unlike_8 i8 e8 ?_
    refine e_iconst (v := 2) (pc := 9) dX7_unlike_9 (by decide) ?_
    refine e_idiv (pc := 10) dX7_unlike_10 (by decide) ?_
    refine e_top (r2) ?_
    refine e_icmp_ge (pc := 11) dX7_unlike_11 (t := 60) (by decide) (fun c_11 => absurd c_11 (nI_ge g3 (by omega))) (fun _ => ?_)
    refine e_aloadn (pc := 14) dX7_unlike_14 rfl ?_
    refine e_iloadn (pc := 15) dX7_unlike_15 rfl ?_
    refine e_aloadn (pc := 16) dX7_unlike_16 rfl ?_
    refine e_get (pc := 17) dX7_unlike_17 fX7_44 rfl rfl ?_
    refine e_bipush (v := 40) (pc := 20) dX7_unlike_20 (by decide) ?_
    refine e_iloadn (pc := 22) dX7_unlike_22 rfl ?_
    refine e_imul (pc := 23) dX7_unlike_23 ?_
    refine e_iconst (v := 2) (pc := 24) dX7_unlike_24 (by decide) ?_
    refine e_iloadn (pc := 25) dX7_unlike_25 rfl ?_
    refine e_imul (pc := 26) dX7_unlike_26 ?_
    refine e_iadd (pc := 27) dX7_unlike_27 ?_
    refine aldv_ycells (pc := 28) dX7_unlike_28 j1 j3 ?_
    refine e_cvX (pc := 29) (sp_y_plainOf hG hc hv hD) dX7_unlike_29 kX7_198 rfl rfl rfl rfl rfl (mc_CR_of (Nat.le_of_ble_eq_true rfl) (Nat.le_of_ble_eq_true rfl) (Nat.le_refl _) (Nat.le_refl _)) (Nat.le_of_ble_eq_true rfl) (fun w1 hw1 => ?_)
    obtain ⟨n1, d1, hD1, rfl⟩ := hw1
    refine e_aloadn (pc := 32) dX7_unlike_32 rfl ?_
    refine e_get (pc := 33) dX7_unlike_33 fX7_44 rfl rfl ?_
    refine e_bipush (v := 40) (pc := 36) dX7_unlike_36 (by decide) ?_
    refine e_iloadn (pc := 38) dX7_unlike_38 rfl ?_
    refine e_imul (pc := 39) dX7_unlike_39 ?_
    refine e_iconst (v := 2) (pc := 40) dX7_unlike_40 (by decide) ?_
    refine e_iloadn (pc := 41) dX7_unlike_41 rfl ?_
    refine e_imul (pc := 42) dX7_unlike_42 ?_
    refine e_iadd (pc := 43) dX7_unlike_43 ?_
    refine e_iconst (v := 1) (pc := 44) dX7_unlike_44 (by decide) ?_
    refine e_iadd (pc := 45) dX7_unlike_45 ?_
    refine aldv_ycells (pc := 46) dX7_unlike_46 j2 j4 ?_
    refine e_i2l (pc := 47) dX7_unlike_47 ?_
    refine e_lcmp (pc := 48) dX7_unlike_48 ?_
    refine e_if_eq (pc := 49) dX7_unlike_49 (t := 54) (by decide) (fun c_49 => ?_) (fun c_49 => ?_)
    · skip
      refine e_incC3 (pc := 54) dX7_unlike_54 (nI_1 i) (Nat.le_of_ble_eq_true rfl) rfl ?_
      refine e_goto (pc := 57) dX7_unlike_57 (t := 2) (by decide) ?_
      exact ih (i + 1) n1 d1 (by omega) hD1 (by rw [← hV, if_pos (mc_cmp_eq.mp c_49)])
    · skip
      refine e_iloadn (pc := 52) dX7_unlike_52 rfl ?_
      exact e_iret (pc := 53) dX7_unlike_53 rfl (Nat.le_refl _) (Nat.le_refl _) ⟨by rw [← hV, if_neg (fun q => c_49 (mc_cmp_eq.mpr q))], n1, d1, hD1, rfl⟩
theorem sp_y_unlike {s u m n : Nat → Int32} {a c b d : Nat → List Int32} {q : List (Option Nat)} {h : Nat} {z : mc_W} {s0 k0 : Int32} (hG : yG m b) (hS : ySh b) (h0 : ysw b s0 = 0) (hc : mc_wi k0 0 (m 2 - 1) = true) (hD : yD d) : mc_T yX7_unlike cX7_unlike 4 (some .int) 7 [.ref 29, .int s0, .int k0] (WW s a q u c h m b n d z) (some (.int (yunl m b s0 k0))) (fun w' => ∃ n1 d1, yD d1 ∧ w' = WW s a q u c h m b n1 d1 z) := by
  refine mc_start (own := RX7) (ini := false) rfl (by decide +kernel) (fun h => by cases h) (Nat.le_of_ble_eq_true rfl) ?_
  show mc_E _ _ _ _ _ [some (.ref 29), some (.int s0), some (.int k0), none] [] _ _ _
  refine e_iconst (v := 0) (pc := 0) dX7_unlike_0 (by decide) ?_
  refine e_isn3 (pc := 1) dX7_unlike_1 (Nat.le_of_ble_eq_true rfl) rfl ?_
  exact lp_y_unlike hG hS h0 hc _ 0 n d (Nat.zero_add _) hD rfl
theorem ytw0 {m : Nat → Int32} {b : Nat → List Int32} {s k : Int32} (h : ytw m b s k = 0) : ysw b s = 0 ∧ mc_wi k 0 (m 2 - 1) = true := by
  unfold ytw at h
  by_cases h1 : ysw b s = 0
  · rw [if_neg (fun q => q h1)] at h
    by_cases h2 : mc_wi k 0 (m 2 - 1) = true
    · exact ⟨h1, h2⟩
    · rw [if_neg h2] at h; exact absurd h (by decide)
  · rw [if_pos h1] at h; exact absurd h h1
def yjudge (m : Nat → Int32) (b : Nat → List Int32) (s k : Int32) : Int32 := if ytw m b s k = 0 then yunl m b s k else ytw m b s k
theorem sp_y_judge {s u m n : Nat → Int32} {a c b d : Nat → List Int32} {q : List (Option Nat)} {h : Nat} {z : mc_W} {s0 k : Int32} (hG : yG m b) (hS : ySh b) (hD : yD d) : mc_T yX7_judge cX7_judge 4 (some .int) 8 [.ref 29, .int s0, .int k] (WW s a q u c h m b n d z) (some (.int (yjudge m b s0 k))) (fun w' => ∃ n1 d1, yD d1 ∧ w' = WW s a q u c h m b n1 d1 z) := by
  refine mc_start (own := RX7) (ini := false) rfl (by decide +kernel) (fun h => by cases h) (Nat.le_of_ble_eq_true rfl) ?_
  show mc_E _ _ _ _ _ [some (.ref 29), some (.int s0), some (.int k), none] [] _ _ _
  refine e_aloadn (pc := 0) dX7_judge_0 rfl ?_
  refine e_iloadn (pc := 1) dX7_judge_1 rfl ?_
  refine e_iloadn (pc := 2) dX7_judge_2 rfl ?_
  refine e_cvD (pc := 3) (sp_y_toldWrong hG.1 hS) dX7_judge_3 kX7_272 rfl rfl rfl rfl rfl (mc_CR_of (Nat.le_of_ble_eq_true rfl) (Nat.le_of_ble_eq_true rfl) (Nat.le_refl _) (Nat.le_refl _)) (Nat.le_of_ble_eq_true rfl) ?_
  refine e_isn3 (pc := 6) dX7_judge_6 (Nat.le_of_ble_eq_true rfl) rfl ?_
  refine e_iloadn (pc := 7) dX7_judge_7 rfl ?_
  refine e_if_ne (pc := 8) dX7_judge_8 (t := 20) (by decide) (fun c_8 => ?_) (fun c_8 => ?_)
  · skip
    refine e_iloadn (pc := 20) dX7_judge_20 rfl ?_
    exact e_iret (pc := 21) dX7_judge_21 rfl (Nat.le_refl _) (Nat.le_refl _) ⟨by unfold yjudge; rw [if_neg c_8], n, d, hD, rfl⟩
  · skip
    refine e_aloadn (pc := 11) dX7_judge_11 rfl ?_
    refine e_iloadn (pc := 12) dX7_judge_12 rfl ?_
    refine e_iloadn (pc := 13) dX7_judge_13 rfl ?_
    refine e_cvX (pc := 14) (sp_y_unlike hG hS (ytw0 c_8).1 (ytw0 c_8).2 hD) dX7_judge_14 kX7_275 rfl rfl rfl rfl rfl (mc_CR_of (Nat.le_of_ble_eq_true rfl) (Nat.le_of_ble_eq_true rfl) (Nat.le_refl _) (Nat.le_refl _)) (Nat.le_of_ble_eq_true rfl) (fun w1 hw1 => ?_)
    obtain ⟨n1, d1, hD1, rfl⟩ := hw1
    refine e_goto (pc := 17) dX7_judge_17 (t := 21) (by decide) ?_
    exact e_iret (pc := 21) dX7_judge_21 rfl (Nat.le_refl _) (Nat.le_refl _) ⟨by unfold yjudge; rw [if_pos c_8], n1, d1, hD1, rfl⟩
def ybits (off : Nat → Int32) : Nat → Nat → Int32 → Int32
  | 0, _, acc => acc
  | f + 1, i, acc => ybits off f (i + 1) (acc ||| (if off i = -1 then (1 : Int32) <<< (nI i &&& 31) else 0))
def ywhose (m : Nat → Int32) (b : Nat → List Int32) (s : Int32) : Int32 := if ¬ ysw b s = 0 then ysw b s else ybits (fun i => yunl m b s (nI i)) (m 2).toNatClampNeg 0 0
theorem lp_y_whose {s u m : Nat → Int32} {a c b : Nat → List Int32} {q : List (Option Nat)} {h : Nat} {z : mc_W} {s0 V x2 : Int32} (hG : yG m b) (hS : ySh b) (h0 : ysw b s0 = 0) :
    ∀ (f i : Nat) (acc : Int32) (n : Nat → Int32) (d : Nat → List Int32), i + f = (m 2).toNatClampNeg → yD d → ybits (fun i => yunl m b s0 (nI i)) f i acc = V →
      mc_E RX7 cX7_whose 5 (mc_JM (some .int) false 8 0 0 (fun r' w' => r' = some (.int V) ∧ ∃ n1 d1, yD d1 ∧ w' = WW s a q u c h m b n1 d1 z)) 17 [some (.ref 29), some (.int s0), some (.int x2), some (.int acc), some (.int (nI i))] [] (WW s a q u c h m b n d z) 0 0 := by
  have hm := nI_back hG.2.1.1
  have tm := tnc hG.2.1.1
  have hm5 := hG.2.1.2
  intro f
  induction f with
  | zero =>
    intro i acc n d hi hD hV
    have hi2 : i = (m 2).toNatClampNeg := by omega
    have hV : acc = V := hV
    subst hV
    refine e_iload (pc := 17) dX7_whose_17 rfl ?_
    refine e_aloadn (pc := 19) dX7_whose_19 rfl ?_
    refine e_get (pc := 20) dX7_whose_20 fX7_72 rfl rfl ?_
    refine e_icmp_ge (pc := 23) dX7_whose_23 (t := 54) (by decide) (fun _ => ?_) (fun c_23 => absurd (by rw [hi2, ← hm]; exact Int32.le_refl _) c_23)
    refine e_iloadn (pc := 54) dX7_whose_54 rfl ?_
    exact e_iret (pc := 55) dX7_whose_55 rfl (Nat.le_refl _) (Nat.le_refl _) ⟨rfl, n, d, hD, rfl⟩
  | succ f ih =>
    intro i acc n d hi hD hV
    have hci : mc_wi (nI i) 0 (m 2 - 1) = true := wi_nI (by omega)
    simp only [ybits] at hV
    refine e_iload (pc := 17) dX7_whose_17 rfl ?_
    refine e_aloadn (pc := 19) dX7_whose_19 rfl ?_
    refine e_get (pc := 20) dX7_whose_20 fX7_72 rfl rfl ?_
    refine e_icmp_ge (pc := 23) dX7_whose_23 (t := 54) (by decide) (fun c_23 => absurd c_23 (by rw [hm]; exact nI_ge (by omega) (by omega))) (fun _ => ?_)
    refine e_iloadn (pc := 26) dX7_whose_26 rfl ?_
    refine e_aloadn (pc := 27) dX7_whose_27 rfl ?_
    refine e_iloadn (pc := 28) dX7_whose_28 rfl ?_
    refine e_iload (pc := 29) dX7_whose_29 rfl ?_
    refine e_cvX (pc := 31) (sp_y_unlike hG hS h0 hci hD) dX7_whose_31 kX7_275 rfl rfl rfl rfl rfl (mc_CR_of (Nat.le_of_ble_eq_true rfl) (Nat.le_of_ble_eq_true rfl) (Nat.le_refl _) (Nat.le_refl _)) (Nat.le_of_ble_eq_true rfl) (fun w1 hw1 => ?_)
    obtain ⟨n1, d1, hD1, rfl⟩ := hw1
    refine e_iconst (v := -1) (pc := 34) dX7_whose_34 (by decide) ?_
    refine e_icmp_ne (pc := 35) dX7_whose_35 (t := 45) (by decide) (fun c_35 => ?_) (fun c_35 => ?_)
    · skip
      refine e_iconst (v := 0) (pc := 45) dX7_whose_45 (by decide) ?_
      refine e_ior (pc := 46) dX7_whose_46 ?_
      refine e_isn3 (pc := 47) dX7_whose_47 (Nat.le_of_ble_eq_true rfl) rfl ?_
      refine e_incC4 (pc := 48) dX7_whose_48 (nI_1 i) (Nat.le_of_ble_eq_true rfl) rfl ?_
      refine e_goto (pc := 51) dX7_whose_51 (t := 17) (by decide) ?_
      exact ih (i + 1) _ n1 d1 (by omega) hD1 (by rw [← hV, if_neg c_35])
    · skip
      refine e_iconst (v := 1) (pc := 38) dX7_whose_38 (by decide) ?_
      refine e_iload (pc := 39) dX7_whose_39 rfl ?_
      refine e_ishl (pc := 41) dX7_whose_41 ?_
      refine e_goto (pc := 42) dX7_whose_42 (t := 46) (by decide) ?_
      refine e_ior (pc := 46) dX7_whose_46 ?_
      refine e_isn3 (pc := 47) dX7_whose_47 (Nat.le_of_ble_eq_true rfl) rfl ?_
      refine e_incC4 (pc := 48) dX7_whose_48 (nI_1 i) (Nat.le_of_ble_eq_true rfl) rfl ?_
      refine e_goto (pc := 51) dX7_whose_51 (t := 17) (by decide) ?_
      exact ih (i + 1) _ n1 d1 (by omega) hD1 (by rw [← hV, if_pos c_35])
theorem sp_y_whose {s u m n : Nat → Int32} {a c b d : Nat → List Int32} {q : List (Option Nat)} {h : Nat} {z : mc_W} {s0 : Int32} (hG : yG m b) (hS : ySh b) (hD : yD d) : mc_T yX7_whose cX7_whose 5 (some .int) 8 [.ref 29, .int s0] (WW s a q u c h m b n d z) (some (.int (ywhose m b s0))) (fun w' => ∃ n1 d1, yD d1 ∧ w' = WW s a q u c h m b n1 d1 z) := by
  refine mc_start (own := RX7) (ini := false) rfl (by decide +kernel) (fun h => by cases h) (Nat.le_of_ble_eq_true rfl) ?_
  show mc_E _ _ _ _ _ [some (.ref 29), some (.int s0), none, none, none] [] _ _ _
  refine e_aloadn (pc := 0) dX7_whose_0 rfl ?_
  refine e_iloadn (pc := 1) dX7_whose_1 rfl ?_
  refine e_cvD (pc := 2) (sp_y_sheetWrong hG.1 hS) dX7_whose_2 kX7_269 rfl rfl rfl rfl rfl (mc_CR_of (Nat.le_of_ble_eq_true rfl) (Nat.le_of_ble_eq_true rfl) (Nat.le_refl _) (Nat.le_refl _)) (Nat.le_of_ble_eq_true rfl) ?_
  refine e_isn2 (pc := 5) dX7_whose_5 (Nat.le_of_ble_eq_true rfl) rfl ?_
  refine e_iloadn (pc := 6) dX7_whose_6 rfl ?_
  refine e_if_eq (pc := 7) dX7_whose_7 (t := 12) (by decide) (fun c_7 => ?_) (fun c_7 => ?_)
  · skip
    refine e_iconst (v := 0) (pc := 12) dX7_whose_12 (by decide) ?_
    refine e_isn3 (pc := 13) dX7_whose_13 (Nat.le_of_ble_eq_true rfl) rfl ?_
    refine e_iconst (v := 0) (pc := 14) dX7_whose_14 (by decide) ?_
    refine e_isw4 (pc := 15) dX7_whose_15 (Nat.le_of_ble_eq_true rfl) rfl ?_
    exact lp_y_whose hG hS c_7 _ 0 0 n d (Nat.zero_add _) hD (by unfold ywhose; rw [if_neg (fun q => q c_7)])
  · skip
    refine e_iloadn (pc := 10) dX7_whose_10 rfl ?_
    exact e_iret (pc := 11) dX7_whose_11 rfl (Nat.le_refl _) (Nat.le_refl _) ⟨by unfold ywhose; rw [if_pos c_7], n, d, hD, rfl⟩
theorem yG_rule {m : Nat → Int32} {b : Nat → List Int32} (h : yG m b) {t : Nat} (ht : (t : Int) < (m 4).toInt) : yG (mc_up m 5 (nI t)) b := by
  have h6 := h.2.2.2.1.2.2
  refine ⟨h.1, h.2.1, h.2.2.1, ?_, h.2.2.2.2.1, h.2.2.2.2.2⟩
  show 0 ≤ (nI t).toInt ∧ (nI t).toInt < (m 4).toInt ∧ (m 4).toInt ≤ 6
  rw [nI_toInt (by omega)]
  omega
def ylaws (m : Nat → Int32) (b : Nat → List Int32) (s k : Int32) : Int32 := if ¬ ytw m b s k = 0 then ytw m b s k else ybits (fun i => yunl (mc_up m 5 (nI i)) b s k) (m 4).toNatClampNeg 0 0
theorem lp_y_laws {s u m : Nat → Int32} {a c b : Nat → List Int32} {q : List (Option Nat)} {h : Nat} {z : mc_W} {s0 k0 V x3 : Int32} (hG : yG m b) (hS : ySh b) (h0 : ytw m b s0 k0 = 0) :
    ∀ (f i : Nat) (acc : Int32) (m1 n : Nat → Int32) (d : Nat → List Int32), i + f = (m 4).toNatClampNeg → (∀ x, mc_up m1 5 x = mc_up m 5 x) → yD d → ybits (fun i => yunl (mc_up m 5 (nI i)) b s0 k0) f i acc = V →
      mc_E RX7 cX7_laws 7 (mc_JM (some .int) false 8 0 0 (fun r' w' => r' = some (.int V) ∧ ∃ n1 d1, yD d1 ∧ w' = WW s a q u c h m b n1 d1 z)) 25 [some (.ref 29), some (.int s0), some (.int k0), some (.int x3), some (.int (m 5)), some (.int acc), some (.int (nI i))] [] (WW s a q u c h m1 b n d z) 0 0 := by
  have h4 : 0 ≤ (m 4).toInt := by have := hG.2.2.2.1; omega
  have hm := nI_back h4
  have tm := tnc h4
  have hm6 := hG.2.2.2.1.2.2
  have m14 : ∀ m1 : Nat → Int32, (∀ x, mc_up m1 5 x = mc_up m 5 x) → m1 4 = m 4 := fun m1 hm1 => congrFun (hm1 0) 4
  intro f
  induction f with
  | zero =>
    intro i acc m1 n d hi hm1 hD hV
    have hi2 : i = (m 4).toNatClampNeg := by omega
    have e4 := m14 m1 hm1
    have hV : acc = V := hV
    subst hV
    refine e_iload (pc := 25) dX7_laws_25 rfl ?_
    refine e_aloadn (pc := 27) dX7_laws_27 rfl ?_
    refine e_get (pc := 28) dX7_laws_28 fX7_80 rfl rfl ?_
    refine e_icmp_ge (pc := 31) dX7_laws_31 (t := 69) (by decide) (fun _ => ?_) (fun c_31 => absurd (by rw [e4, hi2, ← hm]; exact Int32.le_refl _) c_31)
    refine e_aloadn (pc := 69) dX7_laws_69 rfl ?_
    refine e_iload (pc := 70) dX7_laws_70 rfl ?_
    refine put_y_rule (pc := 72) dX7_laws_72 pX7_83 ?_
    refine e_iload (pc := 75) dX7_laws_75 rfl ?_
    exact e_iret (pc := 77) dX7_laws_77 rfl (Nat.le_refl _) (Nat.le_refl _) ⟨rfl, n, d, hD, by rw [hm1, mc_up_self]⟩
  | succ f ih =>
    intro i acc m1 n d hi hm1 hD hV
    have hG2 := yG_rule hG (t := i) (by omega)
    have e4 := m14 m1 hm1
    simp only [ybits] at hV
    refine e_iload (pc := 25) dX7_laws_25 rfl ?_
    refine e_aloadn (pc := 27) dX7_laws_27 rfl ?_
    refine e_get (pc := 28) dX7_laws_28 fX7_80 rfl rfl ?_
    refine e_icmp_ge (pc := 31) dX7_laws_31 (t := 69) (by decide) (fun c_31 => absurd c_31 (by rw [e4, hm]; exact nI_ge (by omega) (by omega))) (fun _ => ?_)
    refine e_aloadn (pc := 34) dX7_laws_34 rfl ?_
    refine e_iload (pc := 35) dX7_laws_35 rfl ?_
    refine put_y_rule (pc := 37) dX7_laws_37 pX7_83 ?_
    rw [hm1]
    refine e_iload (pc := 40) dX7_laws_40 rfl ?_
    refine e_aloadn (pc := 42) dX7_laws_42 rfl ?_
    refine e_iloadn (pc := 43) dX7_laws_43 rfl ?_
    refine e_iloadn (pc := 44) dX7_laws_44 rfl ?_
    refine e_cvX (pc := 45) (sp_y_unlike hG2 hS (ytw0 h0).1 (ytw0 h0).2 hD) dX7_laws_45 kX7_275 rfl rfl rfl rfl rfl (mc_CR_of (Nat.le_of_ble_eq_true rfl) (Nat.le_of_ble_eq_true rfl) (Nat.le_refl _) (Nat.le_refl _)) (Nat.le_of_ble_eq_true rfl) (fun w1 hw1 => ?_)
    obtain ⟨n1, d1, hD1, rfl⟩ := hw1
    refine e_iconst (v := -1) (pc := 48) dX7_laws_48 (by decide) ?_
    refine e_icmp_ne (pc := 49) dX7_laws_49 (t := 59) (by decide) (fun c_49 => ?_) (fun c_49 => ?_)
    · skip
      refine e_iconst (v := 0) (pc := 59) dX7_laws_59 (by decide) ?_
      refine e_ior (pc := 60) dX7_laws_60 ?_
      refine e_isw5 (pc := 61) dX7_laws_61 (Nat.le_of_ble_eq_true rfl) rfl ?_
      refine e_incC6 (pc := 63) dX7_laws_63 (nI_1 i) (Nat.le_of_ble_eq_true rfl) rfl ?_
      refine e_goto (pc := 66) dX7_laws_66 (t := 25) (by decide) ?_
      exact ih (i + 1) _ _ n1 d1 (by omega) (fun x => mc_up_up _ _ _ _) hD1 (by rw [← hV, if_neg c_49])
    · skip
      refine e_iconst (v := 1) (pc := 52) dX7_laws_52 (by decide) ?_
      refine e_iload (pc := 53) dX7_laws_53 rfl ?_
      refine e_ishl (pc := 55) dX7_laws_55 ?_
      refine e_goto (pc := 56) dX7_laws_56 (t := 60) (by decide) ?_
      refine e_ior (pc := 60) dX7_laws_60 ?_
      refine e_isw5 (pc := 61) dX7_laws_61 (Nat.le_of_ble_eq_true rfl) rfl ?_
      refine e_incC6 (pc := 63) dX7_laws_63 (nI_1 i) (Nat.le_of_ble_eq_true rfl) rfl ?_
      refine e_goto (pc := 66) dX7_laws_66 (t := 25) (by decide) ?_
      exact ih (i + 1) _ _ n1 d1 (by omega) (fun x => mc_up_up _ _ _ _) hD1 (by rw [← hV, if_pos c_49])
theorem sp_y_laws {s u m n : Nat → Int32} {a c b d : Nat → List Int32} {q : List (Option Nat)} {h : Nat} {z : mc_W} {s0 k : Int32} (hG : yG m b) (hS : ySh b) (hD : yD d) : mc_T yX7_laws cX7_laws 7 (some .int) 8 [.ref 29, .int s0, .int k] (WW s a q u c h m b n d z) (some (.int (ylaws m b s0 k))) (fun w' => ∃ n1 d1, yD d1 ∧ w' = WW s a q u c h m b n1 d1 z) := by
  refine mc_start (own := RX7) (ini := false) rfl (by decide +kernel) (fun h => by cases h) (Nat.le_of_ble_eq_true rfl) ?_
  show mc_E _ _ _ _ _ [some (.ref 29), some (.int s0), some (.int k), none, none, none, none] [] _ _ _
  refine e_aloadn (pc := 0) dX7_laws_0 rfl ?_
  refine e_iloadn (pc := 1) dX7_laws_1 rfl ?_
  refine e_iloadn (pc := 2) dX7_laws_2 rfl ?_
  refine e_cvD (pc := 3) (sp_y_toldWrong hG.1 hS) dX7_laws_3 kX7_272 rfl rfl rfl rfl rfl (mc_CR_of (Nat.le_of_ble_eq_true rfl) (Nat.le_of_ble_eq_true rfl) (Nat.le_refl _) (Nat.le_refl _)) (Nat.le_of_ble_eq_true rfl) ?_
  refine e_isn3 (pc := 6) dX7_laws_6 (Nat.le_of_ble_eq_true rfl) rfl ?_
  refine e_iloadn (pc := 7) dX7_laws_7 rfl ?_
  refine e_if_eq (pc := 8) dX7_laws_8 (t := 13) (by decide) (fun c_8 => ?_) (fun c_8 => ?_)
  · skip
    refine e_aloadn (pc := 13) dX7_laws_13 rfl ?_
    refine e_get (pc := 14) dX7_laws_14 fX7_83 rfl rfl ?_
    refine e_isw4 (pc := 17) dX7_laws_17 (Nat.le_of_ble_eq_true rfl) rfl ?_
    refine e_iconst (v := 0) (pc := 19) dX7_laws_19 (by decide) ?_
    refine e_isw5 (pc := 20) dX7_laws_20 (Nat.le_of_ble_eq_true rfl) rfl ?_
    refine e_iconst (v := 0) (pc := 22) dX7_laws_22 (by decide) ?_
    refine e_isw6 (pc := 23) dX7_laws_23 (Nat.le_of_ble_eq_true rfl) rfl ?_
    exact lp_y_laws hG hS c_8 _ 0 0 m n d (Nat.zero_add _) (fun _ => rfl) hD (by unfold ylaws; rw [if_neg (fun q => q c_8)])
  · skip
    refine e_iloadn (pc := 11) dX7_laws_11 rfl ?_
    exact e_iret (pc := 12) dX7_laws_12 rfl (Nat.le_refl _) (Nat.le_refl _) ⟨by unfold ylaws; rw [if_pos c_8], n, d, hD, rfl⟩
end Zj_29_y10
section Zj_30_y11
/-! years -/
def yab (y : Int32) : Int32 := if y < 0 then -y else y
def ylst (xs : List Int32) : Int32 := xs.getD (xs.length - 1) 0
def ylf (m : Nat → Int32) (b : Nat → List Int32) (k y : Int32) : Int32 := ylst (ywr m b k (yab y))
theorem yF_last {xs : List Int32} {n : Nat → Int32} {d : Nat → List Int32} (hF : yF xs n d) (hx : xs.length ≤ 17) (h : ¬ n 7 = 0) : vp_in (n 7 - 1) (d 3).length ∧ (d 3).getD (n 7 - 1).toNatClampNeg 0 = ylst xs := by
  obtain ⟨hD, h7, ht⟩ := hF
  have h1 : 1 ≤ xs.length := Nat.pos_of_ne_zero (fun q => h (by rw [h7, q]; rfl))
  rw [h7, nI_sub1 h1, nIc (by omega)]
  exact ⟨by rw [hD.2.2.2]; exact vp_in_nI (by omega) (by decide), tk_get ht (by omega)⟩
theorem yF_none {xs : List Int32} {n : Nat → Int32} {d : Nat → List Int32} (hF : yF xs n d) (hx : xs.length ≤ 17) (h : n 7 = 0) : ylst xs = 0 := by
  have h1 : xs.length = 0 := (nI_eq (a := xs.length) (b := 0) (by omega) (by decide)).mp (hF.2.1 ▸ h)
  rw [List.length_eq_zero_iff.mp h1]; rfl
theorem pk_addT {x y : Int32} (h1 : -2147483648 ≤ x.toInt + y.toInt) (h2 : x.toInt + y.toInt < 2147483648) : (x + y).toInt = x.toInt + y.toInt := by
  rw [Int32.toInt_add]; exact Int.bmod_eq_of_le (by omega) (by omega)
theorem pk_subT {x y : Int32} (h1 : -2147483648 ≤ x.toInt - y.toInt) (h2 : x.toInt - y.toInt < 2147483648) : (x - y).toInt = x.toInt - y.toInt := by
  rw [Int32.toInt_sub]; exact Int.bmod_eq_of_le (by omega) (by omega)
theorem pk_negT {x : Int32} (h1 : -2147483648 < x.toInt) : (-x).toInt = -x.toInt := by
  have := x.toInt_lt
  rw [Int32.toInt_neg]; exact Int.bmod_eq_of_le (by omega) (by omega)
theorem yab_num {y : Int32} (h1 : -99999 ≤ y.toInt) (h2 : y.toInt ≤ 99999) : mc_wi (yab y) 0 99999 = true := by
  have z0 : (0 : Int32).toInt = 0 := rfl
  have z9 : (99999 : Int32).toInt = 99999 := rfl
  rw [mc_wi_iff, z0, z9]
  unfold yab
  by_cases h : y < 0
  · rw [if_pos h, pk_negT (by omega)]
    rw [Int32.lt_iff_toInt_lt, z0] at h
    omega
  · rw [if_neg h]
    rw [Int32.lt_iff_toInt_lt, z0] at h
    omega
theorem yab_p {y : Int32} (h : 0 ≤ y) : yab y = y := if_neg (Int32.not_lt.mpr h)
theorem yab_n {y : Int32} (h : ¬ 0 ≤ y) : yab y = -y := if_pos (Int32.not_le.mp h)
theorem yr_bounds {y : Int32} (h : yy_yr y = true) : -999 ≤ y.toInt ∧ y.toInt ≤ 999 := by
  unfold yy_yr at h
  rw [Bool.and_eq_true, mc_wi_iff] at h
  exact h.1
theorem yr_num {y0 : Int32} (h : yy_yr y0 = true) {i : Nat} (hi : i ≤ 200) : mc_wi (yab (yy_ay (yy_az y0 + nI i))) 0 99999 = true := by
  obtain ⟨h1, h2⟩ := yr_bounds h
  have z0 : (0 : Int32).toInt = 0 := rfl
  have z1 : (1 : Int32).toInt = 1 := rfl
  have hA : -999 ≤ (yy_az y0).toInt ∧ (yy_az y0).toInt ≤ 999 := by
    unfold yy_az
    by_cases g : y0 < 0
    · rw [if_pos g]
      rw [Int32.lt_iff_toInt_lt, z0] at g
      rw [pk_addT (by rw [z1]; omega) (by rw [z1]; omega), z1]; omega
    · rw [if_neg g]; omega
  have hi2 : (nI i).toInt = i := nI_toInt (by omega)
  have hB : (yy_az y0 + nI i).toInt = (yy_az y0).toInt + i := by rw [pk_addT (by rw [hi2]; omega) (by rw [hi2]; omega), hi2]
  have hC : -1000 ≤ (yy_ay (yy_az y0 + nI i)).toInt ∧ (yy_ay (yy_az y0 + nI i)).toInt ≤ 1199 := by
    unfold yy_ay
    by_cases g : yy_az y0 + nI i < 1
    · rw [if_pos g, pk_subT (by rw [z1]; omega) (by rw [z1]; omega), z1]; omega
    · rw [if_neg g]; omega
  exact yab_num (by omega) (by omega)
theorem sp_y_lastFigure {s u m n : Nat → Int32} {a c b d : Nat → List Int32} {q : List (Option Nat)} {h : Nat} {z : mc_W} {k y : Int32} (hG : yG m b) (hk : mc_wi k 0 (m 2 - 1) = true) (hy : mc_wi (yab y) 0 99999 = true) (hD : yD d) : mc_T yX7_lastFigure cX7_lastFigure 3 (some .int) 6 [.ref 29, .int k, .int y] (WW s a q u c h m b n d z) (some (.int (ylf m b k y))) (fun w' => ∃ n1 d1, yD d1 ∧ w' = WW s a q u c h m b n1 d1 z) := by
  refine mc_start (own := RX7) (ini := false) rfl (by decide +kernel) (fun h => by cases h) (Nat.le_of_ble_eq_true rfl) ?_
  show mc_E _ _ _ _ _ [some (.ref 29), some (.int k), some (.int y)] [] _ _ _
  refine e_aloadn (pc := 0) dX7_lastFigure_0 rfl ?_
  refine e_iloadn (pc := 1) dX7_lastFigure_1 rfl ?_
  refine e_iloadn (pc := 2) dX7_lastFigure_2 rfl ?_
  refine e_if_ge (pc := 3) dX7_lastFigure_3 (t := 11) (by decide) (fun c_3 => ?_) (fun c_3 => ?_)
  · skip
    refine e_iloadn (pc := 11) dX7_lastFigure_11 rfl ?_
    refine e_cvY (pc := 12) (sp_y_writes hG.1 hG.V (hG.k0 hk) (hG.k1 hk) (hG.fg _) (hG.mk _ _ (by first | (rw [yab_p c_3] at hy; exact hy) | (rw [yab_n c_3] at hy; exact hy))) hD) dX7_lastFigure_12 kX7_186 rfl rfl rfl rfl rfl (mc_CR_of (Nat.le_of_ble_eq_true rfl) (Nat.le_of_ble_eq_true rfl) (Nat.le_refl _) (Nat.le_refl _)) (Nat.le_of_ble_eq_true rfl) (fun w1 hw1 => ?_)
    obtain ⟨n1, d1, hF1, rfl⟩ := hw1
    refine e_aloadn (pc := 15) dX7_lastFigure_15 rfl ?_
    refine e_get (pc := 16) dX7_lastFigure_16 fX7_175 rfl rfl ?_
    refine e_if_ne (pc := 19) dX7_lastFigure_19 (t := 26) (by decide) (fun c_19 => ?_) (fun c_19 => ?_)
    · skip
      refine e_aloadn (pc := 26) dX7_lastFigure_26 rfl ?_
      refine e_get (pc := 27) dX7_lastFigure_27 fX7_62 rfl rfl ?_
      refine e_aloadn (pc := 30) dX7_lastFigure_30 rfl ?_
      refine e_get (pc := 31) dX7_lastFigure_31 fX7_175 rfl rfl ?_
      refine e_iconst (v := 1) (pc := 34) dX7_lastFigure_34 (by decide) ?_
      refine e_isub (pc := 35) dX7_lastFigure_35 ?_
      refine aldv_figures (pc := 36) dX7_lastFigure_36 (yF_last hF1 (ywr_len m b k _) c_19).1 (yF_last hF1 (ywr_len m b k _) c_19).2 ?_
      exact e_iret (pc := 37) dX7_lastFigure_37 rfl (Nat.le_refl _) (Nat.le_refl _) ⟨by unfold ylf; rw [yab_p c_3], n1, d1, hF1.1, rfl⟩
    · skip
      refine e_iconst (v := 0) (pc := 22) dX7_lastFigure_22 (by decide) ?_
      refine e_goto (pc := 23) dX7_lastFigure_23 (t := 37) (by decide) ?_
      exact e_iret (pc := 37) dX7_lastFigure_37 rfl (Nat.le_refl _) (Nat.le_refl _) ⟨by unfold ylf; rw [yab_p c_3]; rw [yF_none hF1 (ywr_len m b k _) c_19], n1, d1, hF1.1, rfl⟩
  · skip
    refine e_iloadn (pc := 6) dX7_lastFigure_6 rfl ?_
    refine e_ineg (pc := 7) dX7_lastFigure_7 ?_
    refine e_goto (pc := 8) dX7_lastFigure_8 (t := 12) (by decide) ?_
    refine e_cvY (pc := 12) (sp_y_writes hG.1 hG.V (hG.k0 hk) (hG.k1 hk) (hG.fg _) (hG.mk _ _ (by first | (rw [yab_p c_3] at hy; exact hy) | (rw [yab_n c_3] at hy; exact hy))) hD) dX7_lastFigure_12 kX7_186 rfl rfl rfl rfl rfl (mc_CR_of (Nat.le_of_ble_eq_true rfl) (Nat.le_of_ble_eq_true rfl) (Nat.le_refl _) (Nat.le_refl _)) (Nat.le_of_ble_eq_true rfl) (fun w1 hw1 => ?_)
    obtain ⟨n1, d1, hF1, rfl⟩ := hw1
    refine e_aloadn (pc := 15) dX7_lastFigure_15 rfl ?_
    refine e_get (pc := 16) dX7_lastFigure_16 fX7_175 rfl rfl ?_
    refine e_if_ne (pc := 19) dX7_lastFigure_19 (t := 26) (by decide) (fun c_19 => ?_) (fun c_19 => ?_)
    · skip
      refine e_aloadn (pc := 26) dX7_lastFigure_26 rfl ?_
      refine e_get (pc := 27) dX7_lastFigure_27 fX7_62 rfl rfl ?_
      refine e_aloadn (pc := 30) dX7_lastFigure_30 rfl ?_
      refine e_get (pc := 31) dX7_lastFigure_31 fX7_175 rfl rfl ?_
      refine e_iconst (v := 1) (pc := 34) dX7_lastFigure_34 (by decide) ?_
      refine e_isub (pc := 35) dX7_lastFigure_35 ?_
      refine aldv_figures (pc := 36) dX7_lastFigure_36 (yF_last hF1 (ywr_len m b k _) c_19).1 (yF_last hF1 (ywr_len m b k _) c_19).2 ?_
      exact e_iret (pc := 37) dX7_lastFigure_37 rfl (Nat.le_refl _) (Nat.le_refl _) ⟨by unfold ylf; rw [yab_n c_3], n1, d1, hF1.1, rfl⟩
    · skip
      refine e_iconst (v := 0) (pc := 22) dX7_lastFigure_22 (by decide) ?_
      refine e_goto (pc := 23) dX7_lastFigure_23 (t := 37) (by decide) ?_
      exact e_iret (pc := 37) dX7_lastFigure_37 rfl (Nat.le_refl _) (Nat.le_refl _) ⟨by unfold ylf; rw [yab_n c_3]; rw [yF_none hF1 (ywr_len m b k _) c_19], n1, d1, hF1.1, rfl⟩
def yalf (Y L : Nat → Int32) (la : Int32) : Nat → Nat → Int32 → Int32 → Int32 × Int32
  | 0, _, cn, fi => (cn, fi)
  | f + 1, i, cn, fi => if Y i ≤ 999 ∧ L i = la then yalf Y L la f (i + 1) (cn + 1) (if cn = 0 then Y i else fi) else yalf Y L la f (i + 1) (cn + 0) fi
def yaY (m : Nat → Int32) (i : Nat) : Int32 := yy_ay (yy_az (m 1) + nI i)
def yali (m : Nat → Int32) (b : Nat → List Int32) (k yrs : Int32) : Int32 × Int32 := yalf (yaY m) (fun i => ylf m b k (yaY m i)) (ylf m b k (m 1)) (yrs.toNatClampNeg - 1) 1 0 (-100001)
def yalike (m : Nat → Int32) (b : Nat → List Int32) (k yrs w : Int32) : Int32 :=
  if mc_wi k 0 (m 2 - 1) = false then -100005 else if (mc_wi yrs 1 200 && mc_wi w 0 1) = false then -100007
  else if w = 0 then (yali m b k yrs).1 else (yali m b k yrs).2
set_option maxHeartbeats 1000000 in
theorem lp_y_alike {s u m : Nat → Int32} {a c b : Nat → List Int32} {q : List (Option Nat)} {h : Nat} {z : mc_W} {k0 w : Int32} {N : Nat} {V : Int32 × Int32} (hG : yG m b) (hc : mc_wi k0 0 (m 2 - 1) = true) (hy : yy_yr (m 1) = true) (hN : N ≤ 200) :
    ∀ (f i : Nat) (cn fi : Int32) (n : Nat → Int32) (d : Nat → List Int32) (x8 x9 : Option Value), i + f = N → yD d → yalf (yaY m) (fun i => ylf m b k0 (yaY m i)) (ylf m b k0 (m 1)) f i cn fi = V →
      mc_E RX7 cX7_alike 10 (mc_JM (some .int) false 7 0 0 (fun r' w' => r' = some (.int (if w = 0 then V.1 else V.2)) ∧ ∃ n1 d1, yD d1 ∧ w' = WW s a q u c h m b n1 d1 z)) 58 [some (.ref 29), some (.int k0), some (.int (nI N)), some (.int w), some (.int (ylf m b k0 (m 1))), some (.int cn), some (.int fi), some (.int (nI i)), x8, x9] [] (WW s a q u c h m b n d z) 0 0 := by
  intro f
  induction f with
  | zero =>
    intro i cn fi n d x8 x9 hi hD hV
    have e : i = N := by omega
    subst e
    simp only [yalf] at hV
    subst hV
    refine e_iload (pc := 58) dX7_alike_58 rfl ?_
    refine e_iloadn (pc := 60) dX7_alike_60 rfl ?_
    refine e_icmp_ge (pc := 61) dX7_alike_61 (t := 146) (by decide) (fun _ => ?_) (fun c_61 => absurd (Int32.le_refl _) c_61)
    refine e_iloadn (pc := 146) dX7_alike_146 rfl ?_
    refine e_if_ne (pc := 147) dX7_alike_147 (t := 155) (by decide) (fun c_147 => ?_) (fun c_147 => ?_)
    · skip
      refine e_iload (pc := 155) dX7_alike_155 rfl ?_
      exact e_iret (pc := 157) dX7_alike_157 rfl (Nat.le_refl _) (Nat.le_refl _) ⟨by rw [if_neg c_147], n, d, hD, rfl⟩
    · skip
      refine e_iload (pc := 150) dX7_alike_150 rfl ?_
      refine e_goto (pc := 152) dX7_alike_152 (t := 157) (by decide) ?_
      exact e_iret (pc := 157) dX7_alike_157 rfl (Nat.le_refl _) (Nat.le_refl _) ⟨by rw [if_pos c_147], n, d, hD, rfl⟩
  | succ f ih =>
    intro i cn fi n d x8 x9 hi hD hV
    simp only [yalf] at hV
    refine e_iload (pc := 58) dX7_alike_58 rfl ?_
    refine e_iloadn (pc := 60) dX7_alike_60 rfl ?_
    refine e_icmp_ge (pc := 61) dX7_alike_61 (t := 146) (by decide) (fun c_61 => absurd c_61 (nI_ge (by omega) (by omega))) (fun _ => ?_)
    refine e_aloadn (pc := 64) dX7_alike_64 rfl ?_
    refine e_get (pc := 65) dX7_alike_65 fX7_13 rfl rfl ?_
    refine e_csD (pc := 68) (sp_y_asIfZero) dX7_alike_68 kX7_256 rfl rfl (mc_CR_of (Nat.le_of_ble_eq_true rfl) (Nat.le_of_ble_eq_true rfl) (Nat.le_refl _) (Nat.le_refl _)) (Nat.le_of_ble_eq_true rfl) ?_
    refine e_iload (pc := 71) dX7_alike_71 rfl ?_
    refine e_iadd (pc := 73) dX7_alike_73 ?_
    refine e_csD (pc := 74) (sp_y_asYear) dX7_alike_74 kX7_260 rfl rfl (mc_CR_of (Nat.le_of_ble_eq_true rfl) (Nat.le_of_ble_eq_true rfl) (Nat.le_refl _) (Nat.le_refl _)) (Nat.le_of_ble_eq_true rfl) ?_
    refine e_isw8 (pc := 77) dX7_alike_77 (Nat.le_of_ble_eq_true rfl) rfl ?_
    refine e_iload (pc := 79) dX7_alike_79 rfl ?_
    refine e_sipush (v := 999) (pc := 81) dX7_alike_81 (by decide) ?_
    refine e_icmp_gt (pc := 84) dX7_alike_84 (t := 103) (by decide) (fun c_84 => ?_) (fun c_84 => ?_)
    · skip
      refine e_iconst (v := 0) (pc := 103) dX7_alike_103 (by decide) ?_
      refine e_isw9 (pc := 104) dX7_alike_104 (Nat.le_of_ble_eq_true rfl) rfl ?_
      refine e_iload (pc := 106) dX7_alike_106 rfl ?_
      refine e_if_eq (pc := 108) dX7_alike_108 (t := 121) (by decide) (fun _ => ?_) (fun c_108 => absurd (by decide) c_108)
      refine e_iload (pc := 121) dX7_alike_121 rfl ?_
      refine e_isw6 (pc := 123) dX7_alike_123 (Nat.le_of_ble_eq_true rfl) rfl ?_
      refine e_iload (pc := 125) dX7_alike_125 rfl ?_
      refine e_iload (pc := 127) dX7_alike_127 rfl ?_
      refine e_if_eq (pc := 129) dX7_alike_129 (t := 136) (by decide) (fun _ => ?_) (fun c_129 => absurd (by decide) c_129)
      refine e_iconst (v := 0) (pc := 136) dX7_alike_136 (by decide) ?_
      refine e_iadd (pc := 137) dX7_alike_137 ?_
      refine e_isw5 (pc := 138) dX7_alike_138 (Nat.le_of_ble_eq_true rfl) rfl ?_
      refine e_incC7 (pc := 140) dX7_alike_140 (nI_1 i) (Nat.le_of_ble_eq_true rfl) rfl ?_
      refine e_goto (pc := 143) dX7_alike_143 (t := 58) (by decide) ?_
      exact ih (i + 1) _ _ n d _ _ (by omega) hD (by rw [← hV, if_neg (fun q => absurd c_84 (Int32.not_lt.mpr q.1))] <;> rfl)
    · skip
      refine e_aloadn (pc := 87) dX7_alike_87 rfl ?_
      refine e_iloadn (pc := 88) dX7_alike_88 rfl ?_
      refine e_iload (pc := 89) dX7_alike_89 rfl ?_
      refine e_cvX (pc := 91) (sp_y_lastFigure hG hc (yr_num hy (by omega)) hD) dX7_alike_91 kX7_266 rfl rfl rfl rfl rfl (mc_CR_of (Nat.le_of_ble_eq_true rfl) (Nat.le_of_ble_eq_true rfl) (Nat.le_refl _) (Nat.le_refl _)) (Nat.le_of_ble_eq_true rfl) (fun w1 hw1 => ?_)
      obtain ⟨n1, d1, hD1, rfl⟩ := hw1
      refine e_iload (pc := 94) dX7_alike_94 rfl ?_
      refine e_icmp_ne (pc := 96) dX7_alike_96 (t := 103) (by decide) (fun c_96 => ?_) (fun c_96 => ?_)
      · skip
        refine e_iconst (v := 0) (pc := 103) dX7_alike_103 (by decide) ?_
        refine e_isw9 (pc := 104) dX7_alike_104 (Nat.le_of_ble_eq_true rfl) rfl ?_
        refine e_iload (pc := 106) dX7_alike_106 rfl ?_
        refine e_if_eq (pc := 108) dX7_alike_108 (t := 121) (by decide) (fun _ => ?_) (fun c_108 => absurd (by decide) c_108)
        refine e_iload (pc := 121) dX7_alike_121 rfl ?_
        refine e_isw6 (pc := 123) dX7_alike_123 (Nat.le_of_ble_eq_true rfl) rfl ?_
        refine e_iload (pc := 125) dX7_alike_125 rfl ?_
        refine e_iload (pc := 127) dX7_alike_127 rfl ?_
        refine e_if_eq (pc := 129) dX7_alike_129 (t := 136) (by decide) (fun _ => ?_) (fun c_129 => absurd (by decide) c_129)
        refine e_iconst (v := 0) (pc := 136) dX7_alike_136 (by decide) ?_
        refine e_iadd (pc := 137) dX7_alike_137 ?_
        refine e_isw5 (pc := 138) dX7_alike_138 (Nat.le_of_ble_eq_true rfl) rfl ?_
        refine e_incC7 (pc := 140) dX7_alike_140 (nI_1 i) (Nat.le_of_ble_eq_true rfl) rfl ?_
        refine e_goto (pc := 143) dX7_alike_143 (t := 58) (by decide) ?_
        exact ih (i + 1) _ _ n1 d1 _ _ (by omega) hD1 (by rw [← hV, if_neg (fun q => c_96 q.2)] <;> rfl)
      · skip
        refine e_iconst (v := 1) (pc := 99) dX7_alike_99 (by decide) ?_
        refine e_goto (pc := 100) dX7_alike_100 (t := 104) (by decide) ?_
        refine e_isw9 (pc := 104) dX7_alike_104 (Nat.le_of_ble_eq_true rfl) rfl ?_
        refine e_iload (pc := 106) dX7_alike_106 rfl ?_
        refine e_if_eq (pc := 108) dX7_alike_108 (t := 121) (by decide) (fun c_108 => absurd c_108 (by decide)) (fun _ => ?_)
        refine e_iload (pc := 111) dX7_alike_111 rfl ?_
        refine e_if_ne (pc := 113) dX7_alike_113 (t := 121) (by decide) (fun c_113 => ?_) (fun c_113 => ?_)
        · skip
          refine e_iload (pc := 121) dX7_alike_121 rfl ?_
          refine e_isw6 (pc := 123) dX7_alike_123 (Nat.le_of_ble_eq_true rfl) rfl ?_
          refine e_iload (pc := 125) dX7_alike_125 rfl ?_
          refine e_iload (pc := 127) dX7_alike_127 rfl ?_
          refine e_if_eq (pc := 129) dX7_alike_129 (t := 136) (by decide) (fun c_129 => absurd c_129 (by decide)) (fun _ => ?_)
          refine e_iconst (v := 1) (pc := 132) dX7_alike_132 (by decide) ?_
          refine e_goto (pc := 133) dX7_alike_133 (t := 137) (by decide) ?_
          refine e_iadd (pc := 137) dX7_alike_137 ?_
          refine e_isw5 (pc := 138) dX7_alike_138 (Nat.le_of_ble_eq_true rfl) rfl ?_
          refine e_incC7 (pc := 140) dX7_alike_140 (nI_1 i) (Nat.le_of_ble_eq_true rfl) rfl ?_
          refine e_goto (pc := 143) dX7_alike_143 (t := 58) (by decide) ?_
          exact ih (i + 1) _ _ n1 d1 _ _ (by omega) hD1 (by rw [← hV, if_pos ⟨Int32.not_lt.mp c_84, c_96⟩, if_neg c_113] <;> rfl)
        · skip
          refine e_iload (pc := 116) dX7_alike_116 rfl ?_
          refine e_goto (pc := 118) dX7_alike_118 (t := 123) (by decide) ?_
          refine e_isw6 (pc := 123) dX7_alike_123 (Nat.le_of_ble_eq_true rfl) rfl ?_
          refine e_iload (pc := 125) dX7_alike_125 rfl ?_
          refine e_iload (pc := 127) dX7_alike_127 rfl ?_
          refine e_if_eq (pc := 129) dX7_alike_129 (t := 136) (by decide) (fun c_129 => absurd c_129 (by decide)) (fun _ => ?_)
          refine e_iconst (v := 1) (pc := 132) dX7_alike_132 (by decide) ?_
          refine e_goto (pc := 133) dX7_alike_133 (t := 137) (by decide) ?_
          refine e_iadd (pc := 137) dX7_alike_137 ?_
          refine e_isw5 (pc := 138) dX7_alike_138 (Nat.le_of_ble_eq_true rfl) rfl ?_
          refine e_incC7 (pc := 140) dX7_alike_140 (nI_1 i) (Nat.le_of_ble_eq_true rfl) rfl ?_
          refine e_goto (pc := 143) dX7_alike_143 (t := 58) (by decide) ?_
          exact ih (i + 1) _ _ n1 d1 _ _ (by omega) hD1 (by rw [← hV, if_pos ⟨Int32.not_lt.mp c_84, c_96⟩, if_pos c_113] <;> rfl)
theorem sp_y_alike {s u m n : Nat → Int32} {a c b d : Nat → List Int32} {q : List (Option Nat)} {h : Nat} {z : mc_W} {k yrs w : Int32} (hG : yG m b) (hy : yy_yr (m 1) = true) (hD : yD d) : mc_T yX7_alike cX7_alike 10 (some .int) 7 [.ref 29, .int k, .int yrs, .int w] (WW s a q u c h m b n d z) (some (.int (yalike m b k yrs w))) (fun w' => ∃ n1 d1, yD d1 ∧ w' = WW s a q u c h m b n1 d1 z) := by
  refine mc_start (own := RX7) (ini := false) rfl (by decide +kernel) (fun h => by cases h) (Nat.le_of_ble_eq_true rfl) ?_
  show mc_E _ _ _ _ _ [some (.ref 29), some (.int k), some (.int yrs), some (.int w), none, none, none, none, none, none] [] _ _ _
  refine e_aloadn (pc := 0) dX7_alike_0 rfl ?_
  refine e_iloadn (pc := 1) dX7_alike_1 rfl ?_
  refine e_cvD (pc := 2) (sp_y_isClerk) dX7_alike_2 kX7_159 rfl rfl rfl rfl rfl (mc_CR_of (Nat.le_of_ble_eq_true rfl) (Nat.le_of_ble_eq_true rfl) (Nat.le_refl _) (Nat.le_refl _)) (Nat.le_of_ble_eq_true rfl) ?_
  refine e_if_ne (pc := 5) dX7_alike_5 (t := 12) (by decide) (fun c_5 => ?_) (fun c_5 => ?_)
  · skip
    refine e_iloadn (pc := 12) dX7_alike_12 rfl ?_
    refine e_iconst (v := 1) (pc := 13) dX7_alike_13 (by decide) ?_
    refine e_sipush (v := 200) (pc := 14) dX7_alike_14 (by decide) ?_
    refine e_csD (pc := 17) (sp_y_in) dX7_alike_17 kX7_75 rfl rfl (mc_CR_of (Nat.le_of_ble_eq_true rfl) (Nat.le_of_ble_eq_true rfl) (Nat.le_refl _) (Nat.le_refl _)) (Nat.le_of_ble_eq_true rfl) ?_
    refine e_if_eq (pc := 20) dX7_alike_20 (t := 32) (by decide) (fun c_20 => ?_) (fun c_20 => ?_)
    · skip
      refine e_ldcw (pc := 32) dX7_alike_32 qX7_265 ?_
      exact e_iret (pc := 35) dX7_alike_35 rfl (Nat.le_refl _) (Nat.le_refl _) ⟨(by (try simp only [mc_cmp_le, mc_cmp_ge, mc_cmp_eq, mc_cmp_lt, mc_cmp_gt, mc_b0, mc_b1, Bool.not_eq_false, Bool.not_eq_true] at c_5 c_20); first | rfl | (simp [yalike, c_5, c_20]; done) | ((try simp only [← Int32.not_lt, ← Int64.not_lt, Classical.not_not] at c_5 c_20); simp [yalike, c_5, c_20])), n, d, hD, rfl⟩
    · skip
      refine e_iloadn (pc := 23) dX7_alike_23 rfl ?_
      refine e_iconst (v := 0) (pc := 24) dX7_alike_24 (by decide) ?_
      refine e_iconst (v := 1) (pc := 25) dX7_alike_25 (by decide) ?_
      refine e_csD (pc := 26) (sp_y_in) dX7_alike_26 kX7_75 rfl rfl (mc_CR_of (Nat.le_of_ble_eq_true rfl) (Nat.le_of_ble_eq_true rfl) (Nat.le_refl _) (Nat.le_refl _)) (Nat.le_of_ble_eq_true rfl) ?_
      refine e_if_ne (pc := 29) dX7_alike_29 (t := 36) (by decide) (fun c_29 => ?_) (fun c_29 => ?_)
      · skip
        refine e_aloadn (pc := 36) dX7_alike_36 rfl ?_
        refine e_iloadn (pc := 37) dX7_alike_37 rfl ?_
        refine e_aloadn (pc := 38) dX7_alike_38 rfl ?_
        refine e_get (pc := 39) dX7_alike_39 fX7_13 rfl rfl ?_
        refine e_cvX (pc := 42) (sp_y_lastFigure hG (mc_b1.mp c_5) (yab_num (by have := yr_bounds hy; omega) (by have := yr_bounds hy; omega)) hD) dX7_alike_42 kX7_266 rfl rfl rfl rfl rfl (mc_CR_of (Nat.le_of_ble_eq_true rfl) (Nat.le_of_ble_eq_true rfl) (Nat.le_refl _) (Nat.le_refl _)) (Nat.le_of_ble_eq_true rfl) (fun w1 hw1 => ?_)
        obtain ⟨n1, d1, hD1, rfl⟩ := hw1
        refine e_isw4 (pc := 45) dX7_alike_45 (Nat.le_of_ble_eq_true rfl) rfl ?_
        refine e_iconst (v := 0) (pc := 47) dX7_alike_47 (by decide) ?_
        refine e_isw5 (pc := 48) dX7_alike_48 (Nat.le_of_ble_eq_true rfl) rfl ?_
        refine e_ldcw (pc := 50) dX7_alike_50 qX7_263 ?_
        refine e_isw6 (pc := 53) dX7_alike_53 (Nat.le_of_ble_eq_true rfl) rfl ?_
        refine e_iconst (v := 1) (pc := 55) dX7_alike_55 (by decide) ?_
        refine e_isw7 (pc := 56) dX7_alike_56 (Nat.le_of_ble_eq_true rfl) rfl ?_
        have q20 : mc_wi yrs 1 200 = true := by simpa [mc_b0] using c_20
        have hb := mc_wi_iff.mp q20
        have z1 : (1 : Int32).toInt = 1 := rfl
        have z2 : (200 : Int32).toInt = 200 := rfl
        rw [z1, z2] at hb
        have e := nI_back (x := yrs) (by omega)
        have t := tnc (x := yrs) (by omega)
        have K := lp_y_alike (s := s) (a := a) (q := q) (u := u) (c := c) (h := h) (z := z) (w := w) (N := yrs.toNatClampNeg) hG (mc_b1.mp c_5) hy (by omega) (yrs.toNatClampNeg - 1) 1 0 (-100001) n1 d1 none none (by omega) hD1 rfl
        rw [← e] at K
        unfold yalike
        rw [if_neg (c := mc_wi k 0 (m 2 - 1) = false) (by simp [mc_b1.mp c_5]), if_neg (c := (mc_wi yrs 1 200 && mc_wi w 0 1) = false) (by simp [mc_b1.mp c_29, q20])]
        exact K
      · skip
        refine e_ldcw (pc := 32) dX7_alike_32 qX7_265 ?_
        exact e_iret (pc := 35) dX7_alike_35 rfl (Nat.le_refl _) (Nat.le_refl _) ⟨(by (try simp only [mc_cmp_le, mc_cmp_ge, mc_cmp_eq, mc_cmp_lt, mc_cmp_gt, mc_b0, mc_b1, Bool.not_eq_false, Bool.not_eq_true] at c_5 c_20 c_29); first | rfl | (simp [yalike, c_5, c_20, c_29]; done) | ((try simp only [← Int32.not_lt, ← Int64.not_lt, Classical.not_not] at c_5 c_20 c_29); simp [yalike, c_5, c_20, c_29])), n, d, hD, rfl⟩
  · skip
    refine e_ldcw (pc := 8) dX7_alike_8 qX7_264 ?_
    exact e_iret (pc := 11) dX7_alike_11 rfl (Nat.le_refl _) (Nat.le_refl _) ⟨(by (try simp only [mc_cmp_le, mc_cmp_ge, mc_cmp_eq, mc_cmp_lt, mc_cmp_gt, mc_b0, mc_b1, Bool.not_eq_false, Bool.not_eq_true] at c_5); first | rfl | (simp [yalike, c_5]; done) | ((try simp only [← Int32.not_lt, ← Int64.not_lt, Classical.not_not] at c_5); simp [yalike, c_5])), n, d, hD, rfl⟩
end Zj_30_y11
section Zj_31_y12
/-! rings -/
theorem yL_2 {b : Nat → List Int32} (h : yL b) {l : List Int32} (hl : l.length = 36) : yL (mc_up b 2 l) :=
  ⟨h.1, h.2.1, hl, h.2.2.2.1, h.2.2.2.2.1, h.2.2.2.2.2.1, h.2.2.2.2.2.2.1, h.2.2.2.2.2.2.2.1, h.2.2.2.2.2.2.2.2.1, h.2.2.2.2.2.2.2.2.2⟩
theorem ow_at {f g : Nat} (hf : f < 6) (hg : g < 6) : 6 * nI f + nI g = nI (6 * f + g) := by
  rw [show (6 : Int32) * nI f = nI (6 * f) from pk_mul 6 f, nI_add]
theorem ow_in {f g : Nat} {l : List Int32} (hl : l.length = 36) (hf : f < 6) (hg : g < 6) : vp_in (6 * nI f + nI g) l.length := by
  rw [ow_at hf hg, hl]; exact vp_in_nI (by omega) (by decide)
theorem ow_get {f g : Nat} {l : List Int32} (hf : f < 6) (hg : g < 6) : l.getD (6 * nI f + nI g).toNatClampNeg 0 = l.getD (6 * f + g) 0 := by
  rw [ow_at hf hg, nIc (by omega)]
def yrS (o : List Int32) (f : Int32) (a : Nat) (s : Int32) (i : Nat) : Int32 := s ||| (if (nI a = f ∨ (s >>> (nI a &&& 31)) &&& 1 = 1) ∧ 0 < o.getD (6 * a + i) 0 then (1 : Int32) <<< (nI i &&& 31) else 0)
def yr1 (o : List Int32) (f : Int32) (a : Nat) : Nat → Nat → Int32 → Int32
  | 0, _, s => s
  | g + 1, i, s => yr1 o f a g (i + 1) (yrS o f a s i)
def yr2 (o : List Int32) (f : Int32) : Nat → Nat → Int32 → Int32
  | 0, _, s => s
  | g + 1, i, s => yr2 o f g (i + 1) (yr1 o f i 6 0 s)
def yr3 (o : List Int32) (f : Int32) : Nat → Int32 → Int32
  | 0, s => s
  | g + 1, s => yr3 o f g (yr2 o f 6 0 s)
/-- who is reached from f, by debts -/
def yreach (o : List Int32) (f : Int32) : Int32 := yr3 o f 6 0
theorem lp_y_r1 {s u m n : Nat → Int32} {a c b d : Nat → List Int32} {q : List (Option Nat)} {h : Nat} {z : mc_W} {Post : Option Value → mc_W → Prop} {f0 kx V : Int32} {ai : Nat} (hL : yL b) (ha : ai < 6)
    (hK : ∀ x6, mc_E RX7 cX7_reachedFrom 7 (mc_JM (some .int) false 1 0 0 Post) 91 [some (.ref 29), some (.int f0), some (.int V), some (.int kx), some (.int (nI ai)), some (.int (nI 6)), x6] [] (WW s a q u c h m b n d z) 0 0) :
    ∀ (g i : Nat) (S : Int32) (x6 : Option Value), i + g = 6 → yr1 (b 2) f0 ai g i S = V →
      mc_E RX7 cX7_reachedFrom 7 (mc_JM (some .int) false 1 0 0 Post) 23 [some (.ref 29), some (.int f0), some (.int S), some (.int kx), some (.int (nI ai)), some (.int (nI i)), x6] [] (WW s a q u c h m b n d z) 0 0 := by
  intro g
  induction g with
  | zero =>
    intro i S x6 hi hV
    have e : i = 6 := by omega
    subst e
    simp only [yr1] at hV
    subst hV
    refine e_iload (pc := 23) dX7_reachedFrom_23 rfl ?_
    refine e_bipush (v := 6) (pc := 25) dX7_reachedFrom_25 (by decide) ?_
    refine e_icmp_ge (pc := 27) dX7_reachedFrom_27 (t := 91) (by decide) (fun _ => ?_) (fun c_27 => absurd (by decide) c_27)
    exact hK _
  | succ g ih =>
    intro i S x6 hi hV
    simp only [yr1, yrS] at hV
    have hi6 : i < 6 := by omega
    refine e_iload (pc := 23) dX7_reachedFrom_23 rfl ?_
    refine e_bipush (v := 6) (pc := 25) dX7_reachedFrom_25 (by decide) ?_
    refine e_icmp_ge (pc := 27) dX7_reachedFrom_27 (t := 91) (by decide) (fun c_27 => absurd c_27 (nI_ge (by omega : i < 6) (by decide))) (fun _ => ?_)
    refine e_iload (pc := 30) dX7_reachedFrom_30 rfl ?_
    refine e_iloadn (pc := 32) dX7_reachedFrom_32 rfl ?_
    refine e_icmp_eq (pc := 33) dX7_reachedFrom_33 (t := 46) (by decide) (fun c_33 => ?_) (fun c_33 => ?_)
    · skip
      refine e_aloadn (pc := 46) dX7_reachedFrom_46 rfl ?_
      refine e_get (pc := 47) dX7_reachedFrom_47 fX7_23 rfl rfl ?_
      refine e_bipush (v := 6) (pc := 50) dX7_reachedFrom_50 (by decide) ?_
      refine e_iload (pc := 52) dX7_reachedFrom_52 rfl ?_
      refine e_imul (pc := 54) dX7_reachedFrom_54 ?_
      refine e_iload (pc := 55) dX7_reachedFrom_55 rfl ?_
      refine e_iadd (pc := 57) dX7_reachedFrom_57 ?_
      refine aldv_owes (pc := 58) dX7_reachedFrom_58 (ow_in hL.2.2.1 ha hi6) (ow_get ha hi6) ?_
      refine e_if_le (pc := 59) dX7_reachedFrom_59 (t := 66) (by decide) (fun c_59 => ?_) (fun c_59 => ?_)
      · skip
        refine e_iconst (v := 0) (pc := 66) dX7_reachedFrom_66 (by decide) ?_
        refine e_isw6 (pc := 67) dX7_reachedFrom_67 (Nat.le_of_ble_eq_true rfl) rfl ?_
        refine e_iloadn (pc := 69) dX7_reachedFrom_69 rfl ?_
        refine e_iload (pc := 70) dX7_reachedFrom_70 rfl ?_
        refine e_if_eq (pc := 72) dX7_reachedFrom_72 (t := 82) (by decide) (fun _ => ?_) (fun c_72 => absurd (by decide) c_72)
        refine e_iconst (v := 0) (pc := 82) dX7_reachedFrom_82 (by decide) ?_
        refine e_ior (pc := 83) dX7_reachedFrom_83 ?_
        refine e_isn2 (pc := 84) dX7_reachedFrom_84 (Nat.le_of_ble_eq_true rfl) rfl ?_
        refine e_incC5 (pc := 85) dX7_reachedFrom_85 (nI_1 i) (Nat.le_of_ble_eq_true rfl) rfl ?_
        refine e_goto (pc := 88) dX7_reachedFrom_88 (t := 23) (by decide) ?_
        exact ih (i + 1) _ _ (by omega) (by rw [← hV, if_neg (fun q => absurd q.2 (Int32.not_lt.mpr c_59))])
      · skip
        refine e_iconst (v := 1) (pc := 62) dX7_reachedFrom_62 (by decide) ?_
        refine e_goto (pc := 63) dX7_reachedFrom_63 (t := 67) (by decide) ?_
        refine e_isw6 (pc := 67) dX7_reachedFrom_67 (Nat.le_of_ble_eq_true rfl) rfl ?_
        refine e_iloadn (pc := 69) dX7_reachedFrom_69 rfl ?_
        refine e_iload (pc := 70) dX7_reachedFrom_70 rfl ?_
        refine e_if_eq (pc := 72) dX7_reachedFrom_72 (t := 82) (by decide) (fun c_72 => absurd c_72 (by decide)) (fun _ => ?_)
        refine e_iconst (v := 1) (pc := 75) dX7_reachedFrom_75 (by decide) ?_
        refine e_iload (pc := 76) dX7_reachedFrom_76 rfl ?_
        refine e_ishl (pc := 78) dX7_reachedFrom_78 ?_
        refine e_goto (pc := 79) dX7_reachedFrom_79 (t := 83) (by decide) ?_
        refine e_ior (pc := 83) dX7_reachedFrom_83 ?_
        refine e_isn2 (pc := 84) dX7_reachedFrom_84 (Nat.le_of_ble_eq_true rfl) rfl ?_
        refine e_incC5 (pc := 85) dX7_reachedFrom_85 (nI_1 i) (Nat.le_of_ble_eq_true rfl) rfl ?_
        refine e_goto (pc := 88) dX7_reachedFrom_88 (t := 23) (by decide) ?_
        exact ih (i + 1) _ _ (by omega) (by rw [← hV, if_pos ⟨(Or.inl c_33), Int32.not_le.mp c_59⟩])
    · skip
      refine e_iloadn (pc := 36) dX7_reachedFrom_36 rfl ?_
      refine e_iload (pc := 37) dX7_reachedFrom_37 rfl ?_
      refine e_ishr (pc := 39) dX7_reachedFrom_39 ?_
      refine e_iconst (v := 1) (pc := 40) dX7_reachedFrom_40 (by decide) ?_
      refine e_iand (pc := 41) dX7_reachedFrom_41 ?_
      refine e_iconst (v := 1) (pc := 42) dX7_reachedFrom_42 (by decide) ?_
      refine e_icmp_ne (pc := 43) dX7_reachedFrom_43 (t := 66) (by decide) (fun c_43 => ?_) (fun c_43 => ?_)
      · skip
        refine e_iconst (v := 0) (pc := 66) dX7_reachedFrom_66 (by decide) ?_
        refine e_isw6 (pc := 67) dX7_reachedFrom_67 (Nat.le_of_ble_eq_true rfl) rfl ?_
        refine e_iloadn (pc := 69) dX7_reachedFrom_69 rfl ?_
        refine e_iload (pc := 70) dX7_reachedFrom_70 rfl ?_
        refine e_if_eq (pc := 72) dX7_reachedFrom_72 (t := 82) (by decide) (fun _ => ?_) (fun c_72 => absurd (by decide) c_72)
        refine e_iconst (v := 0) (pc := 82) dX7_reachedFrom_82 (by decide) ?_
        refine e_ior (pc := 83) dX7_reachedFrom_83 ?_
        refine e_isn2 (pc := 84) dX7_reachedFrom_84 (Nat.le_of_ble_eq_true rfl) rfl ?_
        refine e_incC5 (pc := 85) dX7_reachedFrom_85 (nI_1 i) (Nat.le_of_ble_eq_true rfl) rfl ?_
        refine e_goto (pc := 88) dX7_reachedFrom_88 (t := 23) (by decide) ?_
        exact ih (i + 1) _ _ (by omega) (by rw [← hV, if_neg (fun q => q.1.elim c_33 c_43)])
      · skip
        refine e_aloadn (pc := 46) dX7_reachedFrom_46 rfl ?_
        refine e_get (pc := 47) dX7_reachedFrom_47 fX7_23 rfl rfl ?_
        refine e_bipush (v := 6) (pc := 50) dX7_reachedFrom_50 (by decide) ?_
        refine e_iload (pc := 52) dX7_reachedFrom_52 rfl ?_
        refine e_imul (pc := 54) dX7_reachedFrom_54 ?_
        refine e_iload (pc := 55) dX7_reachedFrom_55 rfl ?_
        refine e_iadd (pc := 57) dX7_reachedFrom_57 ?_
        refine aldv_owes (pc := 58) dX7_reachedFrom_58 (ow_in hL.2.2.1 ha hi6) (ow_get ha hi6) ?_
        refine e_if_le (pc := 59) dX7_reachedFrom_59 (t := 66) (by decide) (fun c_59 => ?_) (fun c_59 => ?_)
        · skip
          refine e_iconst (v := 0) (pc := 66) dX7_reachedFrom_66 (by decide) ?_
          refine e_isw6 (pc := 67) dX7_reachedFrom_67 (Nat.le_of_ble_eq_true rfl) rfl ?_
          refine e_iloadn (pc := 69) dX7_reachedFrom_69 rfl ?_
          refine e_iload (pc := 70) dX7_reachedFrom_70 rfl ?_
          refine e_if_eq (pc := 72) dX7_reachedFrom_72 (t := 82) (by decide) (fun _ => ?_) (fun c_72 => absurd (by decide) c_72)
          refine e_iconst (v := 0) (pc := 82) dX7_reachedFrom_82 (by decide) ?_
          refine e_ior (pc := 83) dX7_reachedFrom_83 ?_
          refine e_isn2 (pc := 84) dX7_reachedFrom_84 (Nat.le_of_ble_eq_true rfl) rfl ?_
          refine e_incC5 (pc := 85) dX7_reachedFrom_85 (nI_1 i) (Nat.le_of_ble_eq_true rfl) rfl ?_
          refine e_goto (pc := 88) dX7_reachedFrom_88 (t := 23) (by decide) ?_
          exact ih (i + 1) _ _ (by omega) (by rw [← hV, if_neg (fun q => absurd q.2 (Int32.not_lt.mpr c_59))])
        · skip
          refine e_iconst (v := 1) (pc := 62) dX7_reachedFrom_62 (by decide) ?_
          refine e_goto (pc := 63) dX7_reachedFrom_63 (t := 67) (by decide) ?_
          refine e_isw6 (pc := 67) dX7_reachedFrom_67 (Nat.le_of_ble_eq_true rfl) rfl ?_
          refine e_iloadn (pc := 69) dX7_reachedFrom_69 rfl ?_
          refine e_iload (pc := 70) dX7_reachedFrom_70 rfl ?_
          refine e_if_eq (pc := 72) dX7_reachedFrom_72 (t := 82) (by decide) (fun c_72 => absurd c_72 (by decide)) (fun _ => ?_)
          refine e_iconst (v := 1) (pc := 75) dX7_reachedFrom_75 (by decide) ?_
          refine e_iload (pc := 76) dX7_reachedFrom_76 rfl ?_
          refine e_ishl (pc := 78) dX7_reachedFrom_78 ?_
          refine e_goto (pc := 79) dX7_reachedFrom_79 (t := 83) (by decide) ?_
          refine e_ior (pc := 83) dX7_reachedFrom_83 ?_
          refine e_isn2 (pc := 84) dX7_reachedFrom_84 (Nat.le_of_ble_eq_true rfl) rfl ?_
          refine e_incC5 (pc := 85) dX7_reachedFrom_85 (nI_1 i) (Nat.le_of_ble_eq_true rfl) rfl ?_
          refine e_goto (pc := 88) dX7_reachedFrom_88 (t := 23) (by decide) ?_
          exact ih (i + 1) _ _ (by omega) (by rw [← hV, if_pos ⟨(Or.inr c_43), Int32.not_le.mp c_59⟩])
theorem lp_y_r2 {s u m n : Nat → Int32} {a c b d : Nat → List Int32} {q : List (Option Nat)} {h : Nat} {z : mc_W} {Post : Option Value → mc_W → Prop} {f0 kx V : Int32} (hL : yL b)
    (hK : ∀ x5 x6, mc_E RX7 cX7_reachedFrom 7 (mc_JM (some .int) false 1 0 0 Post) 97 [some (.ref 29), some (.int f0), some (.int V), some (.int kx), some (.int (nI 6)), x5, x6] [] (WW s a q u c h m b n d z) 0 0) :
    ∀ (g i : Nat) (S : Int32) (x5 x6 : Option Value), i + g = 6 → yr2 (b 2) f0 g i S = V →
      mc_E RX7 cX7_reachedFrom 7 (mc_JM (some .int) false 1 0 0 Post) 13 [some (.ref 29), some (.int f0), some (.int S), some (.int kx), some (.int (nI i)), x5, x6] [] (WW s a q u c h m b n d z) 0 0 := by
  intro g
  induction g with
  | zero =>
    intro i S x5 x6 hi hV
    have e : i = 6 := by omega
    subst e
    simp only [yr2] at hV
    subst hV
    refine e_iload (pc := 13) dX7_reachedFrom_13 rfl ?_
    refine e_bipush (v := 6) (pc := 15) dX7_reachedFrom_15 (by decide) ?_
    refine e_icmp_ge (pc := 17) dX7_reachedFrom_17 (t := 97) (by decide) (fun _ => ?_) (fun c_17 => absurd (by decide) c_17)
    exact hK _ _
  | succ g ih =>
    intro i S x5 x6 hi hV
    simp only [yr2] at hV
    have hi6 : i < 6 := by omega
    have MID : ∀ x6, mc_E RX7 cX7_reachedFrom 7 (mc_JM (some .int) false 1 0 0 Post) 91 [some (.ref 29), some (.int f0), some (.int (yr1 (b 2) f0 i 6 0 S)), some (.int kx), some (.int (nI i)), some (.int (nI 6)), x6] [] (WW s a q u c h m b n d z) 0 0 := by
      intro x6
      refine e_incC4 (pc := 91) dX7_reachedFrom_91 (nI_1 i) (Nat.le_of_ble_eq_true rfl) rfl ?_
      refine e_goto (pc := 94) dX7_reachedFrom_94 (t := 13) (by decide) ?_
      exact ih (i + 1) _ _ _ (by omega) hV
    refine e_iload (pc := 13) dX7_reachedFrom_13 rfl ?_
    refine e_bipush (v := 6) (pc := 15) dX7_reachedFrom_15 (by decide) ?_
    refine e_icmp_ge (pc := 17) dX7_reachedFrom_17 (t := 97) (by decide) (fun c_17 => absurd c_17 (nI_ge (by omega : i < 6) (by decide))) (fun _ => ?_)
    refine e_iconst (v := 0) (pc := 20) dX7_reachedFrom_20 (by decide) ?_
    refine e_isw5 (pc := 21) dX7_reachedFrom_21 (Nat.le_of_ble_eq_true rfl) rfl ?_
    exact lp_y_r1 hL hi6 MID 6 0 S _ (by omega) rfl
theorem lp_y_r3 {s u m n : Nat → Int32} {a c b d : Nat → List Int32} {q : List (Option Nat)} {h : Nat} {z : mc_W} {f0 V : Int32} (hL : yL b) :
    ∀ (g i : Nat) (S : Int32) (x4 x5 x6 : Option Value), i + g = 6 → yr3 (b 2) f0 g S = V →
      mc_E RX7 cX7_reachedFrom 7 (mc_JM (some .int) false 1 0 0 (fun r' w' => r' = some (.int V) ∧ w' = WW s a q u c h m b n d z)) 4 [some (.ref 29), some (.int f0), some (.int S), some (.int (nI i)), x4, x5, x6] [] (WW s a q u c h m b n d z) 0 0 := by
  intro g
  induction g with
  | zero =>
    intro i S x4 x5 x6 hi hV
    have e : i = 6 := by omega
    subst e
    simp only [yr3] at hV
    subst hV
    refine e_iloadn (pc := 4) dX7_reachedFrom_4 rfl ?_
    refine e_bipush (v := 6) (pc := 5) dX7_reachedFrom_5 (by decide) ?_
    refine e_icmp_ge (pc := 7) dX7_reachedFrom_7 (t := 103) (by decide) (fun _ => ?_) (fun c_7 => absurd (by decide) c_7)
    refine e_iloadn (pc := 103) dX7_reachedFrom_103 rfl ?_
    exact e_iret (pc := 104) dX7_reachedFrom_104 rfl (Nat.le_refl _) (Nat.le_refl _) ⟨rfl, rfl⟩
  | succ g ih =>
    intro i S x4 x5 x6 hi hV
    simp only [yr3] at hV
    have MID : ∀ x5 x6, mc_E RX7 cX7_reachedFrom 7 (mc_JM (some .int) false 1 0 0 (fun r' w' => r' = some (.int V) ∧ w' = WW s a q u c h m b n d z)) 97 [some (.ref 29), some (.int f0), some (.int (yr2 (b 2) f0 6 0 S)), some (.int (nI i)), some (.int (nI 6)), x5, x6] [] (WW s a q u c h m b n d z) 0 0 := by
      intro x5 x6
      refine e_incC3 (pc := 97) dX7_reachedFrom_97 (nI_1 i) (Nat.le_of_ble_eq_true rfl) rfl ?_
      refine e_goto (pc := 100) dX7_reachedFrom_100 (t := 4) (by decide) ?_
      exact ih (i + 1) _ _ _ _ (by omega) hV
    refine e_iloadn (pc := 4) dX7_reachedFrom_4 rfl ?_
    refine e_bipush (v := 6) (pc := 5) dX7_reachedFrom_5 (by decide) ?_
    refine e_icmp_ge (pc := 7) dX7_reachedFrom_7 (t := 103) (by decide) (fun c_7 => absurd c_7 (nI_ge (by omega : i < 6) (by decide))) (fun _ => ?_)
    refine e_iconst (v := 0) (pc := 10) dX7_reachedFrom_10 (by decide) ?_
    refine e_isw4 (pc := 11) dX7_reachedFrom_11 (Nat.le_of_ble_eq_true rfl) rfl ?_
    exact lp_y_r2 hL MID 6 0 S _ _ (by omega) rfl
theorem sp_y_reachedFrom {s u m n : Nat → Int32} {a c b d : Nat → List Int32} {q : List (Option Nat)} {h : Nat} {z : mc_W} {f0 : Int32} (hL : yL b) : mc_D yX7_reachedFrom cX7_reachedFrom 7 (some .int) 1 [.ref 29, .int f0] (WW s a q u c h m b n d z) (some (.int (yreach (b 2) f0))) (WW s a q u c h m b n d z) := by
  refine mc_start (own := RX7) (ini := false) rfl (by decide +kernel) (fun h => by cases h) (Nat.le_of_ble_eq_true rfl) ?_
  show mc_E _ _ _ _ _ [some (.ref 29), some (.int f0), none, none, none, none, none] [] _ _ _
  refine e_iconst (v := 0) (pc := 0) dX7_reachedFrom_0 (by decide) ?_
  refine e_isn2 (pc := 1) dX7_reachedFrom_1 (Nat.le_of_ble_eq_true rfl) rfl ?_
  refine e_iconst (v := 0) (pc := 2) dX7_reachedFrom_2 (by decide) ?_
  refine e_isn3 (pc := 3) dX7_reachedFrom_3 (Nat.le_of_ble_eq_true rfl) rfl ?_
  exact lp_y_r3 hL 6 0 0 none none none (by omega) rfl
def yrn (o : List Int32) : Nat → Nat → Int32 → Int32
  | 0, _, s => s
  | g + 1, i, s => yrn o g (i + 1) (s ||| (yreach o (nI i) &&& ((1 : Int32) <<< (nI i &&& 31))))
def yrings (o : List Int32) : Int32 := yrn o 6 0 0
theorem lp_y_rings {s u m n : Nat → Int32} {a c b d : Nat → List Int32} {q : List (Option Nat)} {h : Nat} {z : mc_W} {V : Int32} (hL : yL b) :
    ∀ (g i : Nat) (S : Int32), i + g = 6 → yrn (b 2) g i S = V →
      mc_E RX7 cX7_ringsNow 3 (mc_JM (some .int) false 2 0 0 (fun r' w' => r' = some (.int V) ∧ w' = WW s a q u c h m b n d z)) 4 [some (.ref 29), some (.int S), some (.int (nI i))] [] (WW s a q u c h m b n d z) 0 0 := by
  intro g
  induction g with
  | zero =>
    intro i S hi hV
    have e : i = 6 := by omega
    subst e
    simp only [yrn] at hV
    subst hV
    refine e_iloadn (pc := 4) dX7_ringsNow_4 rfl ?_
    refine e_bipush (v := 6) (pc := 5) dX7_ringsNow_5 (by decide) ?_
    refine e_icmp_ge (pc := 7) dX7_ringsNow_7 (t := 28) (by decide) (fun _ => ?_) (fun c_7 => absurd (by decide) c_7)
    refine e_iloadn (pc := 28) dX7_ringsNow_28 rfl ?_
    exact e_iret (pc := 29) dX7_ringsNow_29 rfl (Nat.le_refl _) (Nat.le_refl _) ⟨rfl, rfl⟩
  | succ g ih =>
    intro i S hi hV
    simp only [yrn] at hV
    refine e_iloadn (pc := 4) dX7_ringsNow_4 rfl ?_
    refine e_bipush (v := 6) (pc := 5) dX7_ringsNow_5 (by decide) ?_
    refine e_icmp_ge (pc := 7) dX7_ringsNow_7 (t := 28) (by decide) (fun c_7 => absurd c_7 (nI_ge (by omega : i < 6) (by decide))) (fun _ => ?_)
    refine e_iloadn (pc := 10) dX7_ringsNow_10 rfl ?_
    refine e_aloadn (pc := 11) dX7_ringsNow_11 rfl ?_
    refine e_iloadn (pc := 12) dX7_ringsNow_12 rfl ?_
    refine e_cvD (pc := 13) (sp_y_reachedFrom hL) dX7_ringsNow_13 kX7_244 rfl rfl rfl rfl rfl (mc_CR_of (Nat.le_of_ble_eq_true rfl) (Nat.le_of_ble_eq_true rfl) (Nat.le_refl _) (Nat.le_refl _)) (Nat.le_of_ble_eq_true rfl) ?_
    refine e_iconst (v := 1) (pc := 16) dX7_ringsNow_16 (by decide) ?_
    refine e_iloadn (pc := 17) dX7_ringsNow_17 rfl ?_
    refine e_ishl (pc := 18) dX7_ringsNow_18 ?_
    refine e_iand (pc := 19) dX7_ringsNow_19 ?_
    refine e_ior (pc := 20) dX7_ringsNow_20 ?_
    refine e_isn1 (pc := 21) dX7_ringsNow_21 (Nat.le_of_ble_eq_true rfl) rfl ?_
    refine e_incC2 (pc := 22) dX7_ringsNow_22 (nI_1 i) (Nat.le_of_ble_eq_true rfl) rfl ?_
    refine e_goto (pc := 25) dX7_ringsNow_25 (t := 4) (by decide) ?_
    exact ih (i + 1) _ (by omega) hV
theorem sp_y_ringsNow {s u m n : Nat → Int32} {a c b d : Nat → List Int32} {q : List (Option Nat)} {h : Nat} {z : mc_W} (hL : yL b) : mc_D yX7_ringsNow cX7_ringsNow 3 (some .int) 2 [.ref 29] (WW s a q u c h m b n d z) (some (.int (yrings (b 2)))) (WW s a q u c h m b n d z) := by
  refine mc_start (own := RX7) (ini := false) rfl (by decide +kernel) (fun h => by cases h) (Nat.le_of_ble_eq_true rfl) ?_
  show mc_E _ _ _ _ _ [some (.ref 29), none, none] [] _ _ _
  refine e_iconst (v := 0) (pc := 0) dX7_ringsNow_0 (by decide) ?_
  refine e_isn1 (pc := 1) dX7_ringsNow_1 (Nat.le_of_ble_eq_true rfl) rfl ?_
  refine e_iconst (v := 0) (pc := 2) dX7_ringsNow_2 (by decide) ?_
  refine e_isn2 (pc := 3) dX7_ringsNow_3 (Nat.le_of_ble_eq_true rfl) rfl ?_
  exact lp_y_rings hL 6 0 0 (by omega) rfl
theorem sp_y_rings {s u m n : Nat → Int32} {a c b d : Nat → List Int32} {q : List (Option Nat)} {h : Nat} {z : mc_W} (hL : yL b) : mc_D yX7_rings cX7_rings 1 (some .int) 3 [.ref 29] (WW s a q u c h m b n d z) (some (.int (yrings (b 2)))) (WW s a q u c h m b n d z) := by
  refine mc_start (own := RX7) (ini := false) rfl (by decide +kernel) (fun h => by cases h) (Nat.le_of_ble_eq_true rfl) ?_
  show mc_E _ _ _ _ _ [some (.ref 29)] [] _ _ _
  refine e_aloadn (pc := 0) dX7_rings_0 rfl ?_
  refine e_cvD (pc := 1) (sp_y_ringsNow hL) dX7_rings_1 kX7_247 rfl rfl rfl rfl rfl (mc_CR_of (Nat.le_of_ble_eq_true rfl) (Nat.le_of_ble_eq_true rfl) (Nat.le_refl _) (Nat.le_refl _)) (Nat.le_of_ble_eq_true rfl) ?_
  exact e_iret (pc := 4) dX7_rings_4 rfl (Nat.le_refl _) (Nat.le_refl _) ⟨rfl, rfl⟩
def yfor (o : List Int32) : Nat → Nat → Int32 → Int32 → Int32 × Int32
  | 0, _, be, fe => (be, fe)
  | g + 1, i, be, fe => if yy_ones (yrings (o.set i 0)) < fe then yfor o g (i + 1) (10 * (nI i / 6) + (nI i - nI i / 6 * 6)) (yy_ones (yrings (o.set i 0))) else yfor o g (i + 1) be fe
def yforgive (o : List Int32) (w : Int32) : Int32 := if mc_wi w 0 1 = false then -2 else if w = 0 then (yfor o 36 0 (-1) (yy_ones (yrings o))).1 else (yfor o 36 0 (-1) (yy_ones (yrings o))).2
theorem up_back {b : Nat → List Int32} {k : Nat} {i : Nat} {x v : Int32} (h : i < (b k).length) (hv : (b k).getD i 0 = v) : mc_up (mc_up b k ((b k).set i x)) k (((mc_up b k ((b k).set i x)) k).set i v) = b := by
  rw [mc_up_up]
  have e : ((mc_up b k ((b k).set i x)) k) = (b k).set i x := by unfold mc_up; rw [if_pos rfl]
  rw [e, ← hv, set_back h, mc_up_self]
theorem lp_y_forgive {s u m n : Nat → Int32} {a c b d : Nat → List Int32} {q : List (Option Nat)} {h : Nat} {z : mc_W} {w : Int32} {V : Int32 × Int32} (hL : yL b) :
    ∀ (g i : Nat) (be fe : Int32) (x5 x6 : Option Value), i + g = 36 → yfor (b 2) g i be fe = V →
      mc_E RX7 cX7_forgive 7 (mc_JM (some .int) false 3 0 0 (fun r' w' => r' = some (.int (if w = 0 then V.1 else V.2)) ∧ w' = WW s a q u c h m b n d z)) 25 [some (.ref 29), some (.int w), some (.int be), some (.int fe), some (.int (nI i)), x5, x6] [] (WW s a q u c h m b n d z) 0 0 := by
  intro g
  induction g with
  | zero =>
    intro i be fe x5 x6 hi hV
    have e : i = 36 := by omega
    subst e
    simp only [yfor] at hV
    subst hV
    refine e_iload (pc := 25) dX7_forgive_25 rfl ?_
    refine e_bipush (v := 36) (pc := 27) dX7_forgive_27 (by decide) ?_
    refine e_icmp_ge (pc := 29) dX7_forgive_29 (t := 111) (by decide) (fun _ => ?_) (fun c_29 => absurd (by decide) c_29)
    refine e_iloadn (pc := 111) dX7_forgive_111 rfl ?_
    refine e_if_ne (pc := 112) dX7_forgive_112 (t := 119) (by decide) (fun c_112 => ?_) (fun c_112 => ?_)
    · skip
      refine e_iloadn (pc := 119) dX7_forgive_119 rfl ?_
      exact e_iret (pc := 120) dX7_forgive_120 rfl (Nat.le_refl _) (Nat.le_refl _) ⟨by rw [if_neg c_112], rfl⟩
    · skip
      refine e_iloadn (pc := 115) dX7_forgive_115 rfl ?_
      refine e_goto (pc := 116) dX7_forgive_116 (t := 120) (by decide) ?_
      exact e_iret (pc := 120) dX7_forgive_120 rfl (Nat.le_refl _) (Nat.le_refl _) ⟨by rw [if_pos c_112], rfl⟩
  | succ g ih =>
    intro i be fe x5 x6 hi hV
    simp only [yfor] at hV
    have iv : vp_in (nI i) (b 2).length := by rw [hL.2.2.1]; exact vp_in_nI (by omega) (by decide)
    have ic : (nI i).toNatClampNeg = i := nIc (by omega)
    have ex : (b 2).getD (nI i).toNatClampNeg 0 = (b 2).getD i 0 := by rw [ic]
    have hL2 : yL (mc_up b 2 ((b 2).set (nI i).toNatClampNeg 0)) := yL_2 hL (by rw [List.length_set]; exact hL.2.2.1)
    have iv2 : vp_in (nI i) ((mc_up b 2 ((b 2).set (nI i).toNatClampNeg 0)) 2).length := by rw [hL2.2.2.1]; exact vp_in_nI (by omega) (by decide)
    have eb := up_back (b := b) (k := 2) (i := (nI i).toNatClampNeg) (x := 0) (v := (b 2).getD i 0) (by rw [ic, hL.2.2.1]; omega) ex
    have er : yrings ((mc_up b 2 ((b 2).set (nI i).toNatClampNeg 0)) 2) = yrings ((b 2).set i 0) := by rw [ic]; rfl
    refine e_iload (pc := 25) dX7_forgive_25 rfl ?_
    refine e_bipush (v := 36) (pc := 27) dX7_forgive_27 (by decide) ?_
    refine e_icmp_ge (pc := 29) dX7_forgive_29 (t := 111) (by decide) (fun c_29 => absurd c_29 (nI_ge (by omega : i < 36) (by decide))) (fun _ => ?_)
    refine e_aloadn (pc := 32) dX7_forgive_32 rfl ?_
    refine e_get (pc := 33) dX7_forgive_33 fX7_23 rfl rfl ?_
    refine e_iload (pc := 36) dX7_forgive_36 rfl ?_
    refine aldv_owes (pc := 38) dX7_forgive_38 iv ex ?_
    refine e_isw5 (pc := 39) dX7_forgive_39 (Nat.le_of_ble_eq_true rfl) rfl ?_
    refine e_aloadn (pc := 41) dX7_forgive_41 rfl ?_
    refine e_get (pc := 42) dX7_forgive_42 fX7_23 rfl rfl ?_
    refine e_iload (pc := 45) dX7_forgive_45 rfl ?_
    refine e_iconst (v := 0) (pc := 47) dX7_forgive_47 (by decide) ?_
    refine ast_owes (pc := 48) dX7_forgive_48 iv ?_
    refine e_aloadn (pc := 49) dX7_forgive_49 rfl ?_
    refine e_cvD (pc := 50) (sp_y_ringsNow hL2) dX7_forgive_50 kX7_247 rfl rfl rfl rfl rfl (mc_CR_of (Nat.le_of_ble_eq_true rfl) (Nat.le_of_ble_eq_true rfl) (Nat.le_refl _) (Nat.le_refl _)) (Nat.le_of_ble_eq_true rfl) ?_
    refine e_csD (pc := 53) (sp_y_ones) dX7_forgive_53 kX7_253 rfl rfl (mc_CR_of (Nat.le_of_ble_eq_true rfl) (Nat.le_of_ble_eq_true rfl) (Nat.le_refl _) (Nat.le_refl _)) (Nat.le_of_ble_eq_true rfl) ?_
    rw [er]
    refine e_isw6 (pc := 56) dX7_forgive_56 (Nat.le_of_ble_eq_true rfl) rfl ?_
    refine e_aloadn (pc := 58) dX7_forgive_58 rfl ?_
    refine e_get (pc := 59) dX7_forgive_59 fX7_23 rfl rfl ?_
    refine e_iload (pc := 62) dX7_forgive_62 rfl ?_
    refine e_iload (pc := 64) dX7_forgive_64 rfl ?_
    refine ast_owes (pc := 66) dX7_forgive_66 iv2 ?_
    rw [eb]
    refine e_iload (pc := 67) dX7_forgive_67 rfl ?_
    refine e_iloadn (pc := 69) dX7_forgive_69 rfl ?_
    refine e_icmp_ge (pc := 70) dX7_forgive_70 (t := 90) (by decide) (fun c_70 => ?_) (fun c_70 => ?_)
    · skip
      refine e_iloadn (pc := 90) dX7_forgive_90 rfl ?_
      refine e_isn2 (pc := 91) dX7_forgive_91 (Nat.le_of_ble_eq_true rfl) rfl ?_
      refine e_iload (pc := 92) dX7_forgive_92 rfl ?_
      refine e_iloadn (pc := 94) dX7_forgive_94 rfl ?_
      refine e_icmp_ge (pc := 95) dX7_forgive_95 (t := 103) (by decide) (fun c_95 => ?_) (fun c_95 => ?_)
      · skip
        refine e_iloadn (pc := 103) dX7_forgive_103 rfl ?_
        refine e_isn3 (pc := 104) dX7_forgive_104 (Nat.le_of_ble_eq_true rfl) rfl ?_
        refine e_incC4 (pc := 105) dX7_forgive_105 (nI_1 i) (Nat.le_of_ble_eq_true rfl) rfl ?_
        refine e_goto (pc := 108) dX7_forgive_108 (t := 25) (by decide) ?_
        exact ih (i + 1) _ _ _ _ (by omega) (by rw [← hV, if_neg (Int32.not_lt.mpr c_70)])
      · skip
        refine e_iload (pc := 98) dX7_forgive_98 rfl ?_
        refine e_goto (pc := 100) dX7_forgive_100 (t := 104) (by decide) ?_
        refine e_isn3 (pc := 104) dX7_forgive_104 (Nat.le_of_ble_eq_true rfl) rfl ?_
        refine e_incC4 (pc := 105) dX7_forgive_105 (nI_1 i) (Nat.le_of_ble_eq_true rfl) rfl ?_
        refine e_goto (pc := 108) dX7_forgive_108 (t := 25) (by decide) ?_
        exact absurd c_70 c_95
    · skip
      refine e_bipush (v := 10) (pc := 73) dX7_forgive_73 (by decide) ?_
      refine e_iload (pc := 75) dX7_forgive_75 rfl ?_
      refine e_bipush (v := 6) (pc := 77) dX7_forgive_77 (by decide) ?_
      refine e_idiv (pc := 79) dX7_forgive_79 (by decide) ?_
      refine e_imul (pc := 80) dX7_forgive_80 ?_
      refine e_iload (pc := 81) dX7_forgive_81 rfl ?_
      refine e_bipush (v := 6) (pc := 83) dX7_forgive_83 (by decide) ?_
      refine e_irem (pc := 85) dX7_forgive_85 (by decide) ?_
      refine e_iadd (pc := 86) dX7_forgive_86 ?_
      refine e_goto (pc := 87) dX7_forgive_87 (t := 91) (by decide) ?_
      refine e_isn2 (pc := 91) dX7_forgive_91 (Nat.le_of_ble_eq_true rfl) rfl ?_
      refine e_iload (pc := 92) dX7_forgive_92 rfl ?_
      refine e_iloadn (pc := 94) dX7_forgive_94 rfl ?_
      refine e_icmp_ge (pc := 95) dX7_forgive_95 (t := 103) (by decide) (fun c_95 => ?_) (fun c_95 => ?_)
      · skip
        refine e_iloadn (pc := 103) dX7_forgive_103 rfl ?_
        refine e_isn3 (pc := 104) dX7_forgive_104 (Nat.le_of_ble_eq_true rfl) rfl ?_
        refine e_incC4 (pc := 105) dX7_forgive_105 (nI_1 i) (Nat.le_of_ble_eq_true rfl) rfl ?_
        refine e_goto (pc := 108) dX7_forgive_108 (t := 25) (by decide) ?_
        exact absurd c_95 c_70
      · skip
        refine e_iload (pc := 98) dX7_forgive_98 rfl ?_
        refine e_goto (pc := 100) dX7_forgive_100 (t := 104) (by decide) ?_
        refine e_isn3 (pc := 104) dX7_forgive_104 (Nat.le_of_ble_eq_true rfl) rfl ?_
        refine e_incC4 (pc := 105) dX7_forgive_105 (nI_1 i) (Nat.le_of_ble_eq_true rfl) rfl ?_
        refine e_goto (pc := 108) dX7_forgive_108 (t := 25) (by decide) ?_
        exact ih (i + 1) _ _ _ _ (by omega) (by rw [← hV, if_pos (Int32.not_le.mp c_70)])
theorem sp_y_forgive {s u m n : Nat → Int32} {a c b d : Nat → List Int32} {q : List (Option Nat)} {h : Nat} {z : mc_W} {w : Int32} (hL : yL b) : mc_D yX7_forgive cX7_forgive 7 (some .int) 3 [.ref 29, .int w] (WW s a q u c h m b n d z) (some (.int (yforgive (b 2) w))) (WW s a q u c h m b n d z) := by
  refine mc_start (own := RX7) (ini := false) rfl (by decide +kernel) (fun h => by cases h) (Nat.le_of_ble_eq_true rfl) ?_
  show mc_E _ _ _ _ _ [some (.ref 29), some (.int w), none, none, none, none, none] [] _ _ _
  refine e_iloadn (pc := 0) dX7_forgive_0 rfl ?_
  refine e_iconst (v := 0) (pc := 1) dX7_forgive_1 (by decide) ?_
  refine e_iconst (v := 1) (pc := 2) dX7_forgive_2 (by decide) ?_
  refine e_csD (pc := 3) (sp_y_in) dX7_forgive_3 kX7_75 rfl rfl (mc_CR_of (Nat.le_of_ble_eq_true rfl) (Nat.le_of_ble_eq_true rfl) (Nat.le_refl _) (Nat.le_refl _)) (Nat.le_of_ble_eq_true rfl) ?_
  refine e_if_ne (pc := 6) dX7_forgive_6 (t := 12) (by decide) (fun c_6 => ?_) (fun c_6 => ?_)
  · skip
    refine e_iconst (v := -1) (pc := 12) dX7_forgive_12 (by decide) ?_
    refine e_isn2 (pc := 13) dX7_forgive_13 (Nat.le_of_ble_eq_true rfl) rfl ?_
    refine e_aloadn (pc := 14) dX7_forgive_14 rfl ?_
    refine e_cvD (pc := 15) (sp_y_ringsNow hL) dX7_forgive_15 kX7_247 rfl rfl rfl rfl rfl (mc_CR_of (Nat.le_of_ble_eq_true rfl) (Nat.le_of_ble_eq_true rfl) (Nat.le_refl _) (Nat.le_refl _)) (Nat.le_of_ble_eq_true rfl) ?_
    refine e_csD (pc := 18) (sp_y_ones) dX7_forgive_18 kX7_253 rfl rfl (mc_CR_of (Nat.le_of_ble_eq_true rfl) (Nat.le_of_ble_eq_true rfl) (Nat.le_refl _) (Nat.le_refl _)) (Nat.le_of_ble_eq_true rfl) ?_
    refine e_isn3 (pc := 21) dX7_forgive_21 (Nat.le_of_ble_eq_true rfl) rfl ?_
    refine e_iconst (v := 0) (pc := 22) dX7_forgive_22 (by decide) ?_
    refine e_isw4 (pc := 23) dX7_forgive_23 (Nat.le_of_ble_eq_true rfl) rfl ?_
    have K := lp_y_forgive (s := s) (a := a) (q := q) (u := u) (c := c) (h := h) (z := z) (m := m) (n := n) (d := d) (w := w) hL 36 0 (-1) (yy_ones (yrings (b 2))) none none (by omega) rfl
    unfold yforgive
    rw [if_neg (c := mc_wi w 0 1 = false) (by simp [mc_b1.mp c_6])]
    exact K
  · skip
    refine e_bipush (v := -2) (pc := 9) dX7_forgive_9 (by decide) ?_
    exact e_iret (pc := 11) dX7_forgive_11 rfl (Nat.le_refl _) (Nat.le_refl _) ⟨(by (try simp only [mc_cmp_le, mc_cmp_ge, mc_cmp_eq, mc_cmp_lt, mc_cmp_gt, mc_b0, mc_b1, Bool.not_eq_false, Bool.not_eq_true] at c_6); first | rfl | (simp [yforgive, c_6]; done) | ((try simp only [← Int32.not_lt, ← Int64.not_lt, Classical.not_not] at c_6); simp [yforgive, c_6])), rfl⟩
/-! paying -/
def ypat (fg : Int32) : Int32 := 6 * (fg / 10) + (fg - fg / 10 * 10)
def ypyc (m : Nat → Int32) (b : Nat → List Int32) (k fg mu : Int32) : Int32 :=
  if mc_wi k 0 (m 2 - 1) = false then -6 else if fg < 0 ∨ yy_fo (fg / 10) (fg - fg / 10 * 10) = false then -5 else if mc_wi mu 0 9999 = false then -7
  else if gt (b 2) (ypat fg) < mu then -3 else 0
def ypyv (m : Nat → Int32) (b : Nat → List Int32) (k fg mu : Int32) : Int32 :=
  if gt (b 2) (ypat fg) - mu = 0 then yy_wn (ymk m b k 0) 0 9999 else gt (b 2) (ypat fg) - mu
def ypay (m : Nat → Int32) (b : Nat → List Int32) (k fg mu : Int32) : Int32 := if ypyc m b k fg mu = 0 then ypyv m b k fg mu else ypyc m b k fg mu
def ypyb (m : Nat → Int32) (b : Nat → List Int32) (k fg mu : Int32) : Nat → List Int32 := if ypyc m b k fg mu = 0 then mc_up b 2 ((b 2).set (ypat fg).toNatClampNeg (ypyv m b k fg mu)) else b
theorem vp_clt {x : Int32} {n : Nat} (h : vp_in x n) : x.toNatClampNeg < n := by
  rw [vp_in_iff] at h
  have := tnc h.1
  omega
theorem up_set2 {b : Nat → List Int32} {k i : Nat} {x y : Int32} : mc_up (mc_up b k ((b k).set i x)) k (((mc_up b k ((b k).set i x)) k).set i y) = mc_up b k ((b k).set i y) := by
  have e : ((mc_up b k ((b k).set i x)) k) = (b k).set i x := by unfold mc_up; rw [if_pos rfl]
  rw [mc_up_up, e, List.set_set]
theorem up_get {b : Nat → List Int32} {k i : Nat} {x : Int32} (h : i < (b k).length) : ((mc_up b k ((b k).set i x)) k).getD i 0 = x := by
  have e : ((mc_up b k ((b k).set i x)) k) = (b k).set i x := by unfold mc_up; rw [if_pos rfl]
  rw [e, gD_set h, if_pos rfl]
theorem up_in {b : Nat → List Int32} {k : Nat} {i : Nat} {x j : Int32} (h : vp_in j (b k).length) : vp_in j ((mc_up b k ((b k).set i x)) k).length := by
  have e : ((mc_up b k ((b k).set i x)) k) = (b k).set i x := by unfold mc_up; rw [if_pos rfl]
  rw [e, List.length_set]; exact h
theorem yG_2 {m : Nat → Int32} {b : Nat → List Int32} (h : yG m b) {l : List Int32} (hl : l.length = 36) : yG m (mc_up b 2 l) :=
  ⟨yL_2 h.1 hl, h.2.1, h.2.2.1, h.2.2.2.1, h.2.2.2.2.1, h.2.2.2.2.2⟩
theorem sp_y_pay {s u m n : Nat → Int32} {a c b d : Nat → List Int32} {q : List (Option Nat)} {h : Nat} {z : mc_W} {k fg mu : Int32} (hG : yG m b) (hD : yD d) : mc_T yX7_pay cX7_pay 5 (some .int) 5 [.ref 29, .int k, .int fg, .int mu] (WW s a q u c h m b n d z) (some (.int (ypay m b k fg mu))) (fun w' => ∃ d1, yD d1 ∧ w' = WW s a q u c h m (ypyb m b k fg mu) n d1 z) := by
  refine mc_start (own := RX7) (ini := false) rfl (by decide +kernel) (fun h => by cases h) (Nat.le_of_ble_eq_true rfl) ?_
  show mc_E _ _ _ _ _ [some (.ref 29), some (.int k), some (.int fg), some (.int mu), none] [] _ _ _
  have hL := hG.1
  have hv : yy_fo (fg / 10) (fg - fg / 10 * 10) = true → vp_in (ypat fg) (b 2).length := fun h => by rw [hL.2.2.1]; exact vp_in_ow h
  have hG2 : ∀ i x, yG m (mc_up b 2 ((b 2).set i x)) := fun i x => yG_2 hG (by rw [List.length_set]; exact hL.2.2.1)
  refine e_aloadn (pc := 0) dX7_pay_0 rfl ?_
  refine e_iloadn (pc := 1) dX7_pay_1 rfl ?_
  refine e_cvD (pc := 2) (sp_y_isClerk) dX7_pay_2 kX7_159 rfl rfl rfl rfl rfl (mc_CR_of (Nat.le_of_ble_eq_true rfl) (Nat.le_of_ble_eq_true rfl) (Nat.le_refl _) (Nat.le_refl _)) (Nat.le_of_ble_eq_true rfl) ?_
  refine e_if_ne (pc := 5) dX7_pay_5 (t := 11) (by decide) (fun c_5 => ?_) (fun c_5 => ?_)
  · skip
    refine e_iloadn (pc := 11) dX7_pay_11 rfl ?_
    refine e_if_lt (pc := 12) dX7_pay_12 (t := 29) (by decide) (fun c_12 => ?_) (fun c_12 => ?_)
    · skip
      refine e_bipush (v := -5) (pc := 29) dX7_pay_29 (by decide) ?_
      exact e_iret (pc := 31) dX7_pay_31 rfl (Nat.le_refl _) (Nat.le_refl _) (have e0 : ypyc m b k fg mu = -5 := (by unfold ypyc; rw [if_neg (c := mc_wi k 0 (m 2 - 1) = false) (by simp [mc_b1.mp c_5]), if_pos (Or.inl c_12)]); ⟨by unfold ypay; rw [e0]; rfl, d, hD, by unfold ypyb; rw [e0]; rfl⟩)
    · skip
      refine e_iloadn (pc := 15) dX7_pay_15 rfl ?_
      refine e_bipush (v := 10) (pc := 16) dX7_pay_16 (by decide) ?_
      refine e_idiv (pc := 18) dX7_pay_18 (by decide) ?_
      refine e_iloadn (pc := 19) dX7_pay_19 rfl ?_
      refine e_bipush (v := 10) (pc := 20) dX7_pay_20 (by decide) ?_
      refine e_irem (pc := 22) dX7_pay_22 (by decide) ?_
      refine e_csD (pc := 23) (sp_y_areFolk) dX7_pay_23 kX7_240 rfl rfl (mc_CR_of (Nat.le_of_ble_eq_true rfl) (Nat.le_of_ble_eq_true rfl) (Nat.le_refl _) (Nat.le_refl _)) (Nat.le_of_ble_eq_true rfl) ?_
      refine e_if_ne (pc := 26) dX7_pay_26 (t := 32) (by decide) (fun c_26 => ?_) (fun c_26 => ?_)
      · skip
        refine e_iloadn (pc := 32) dX7_pay_32 rfl ?_
        refine e_iconst (v := 0) (pc := 33) dX7_pay_33 (by decide) ?_
        refine e_sipush (v := 9999) (pc := 34) dX7_pay_34 (by decide) ?_
        refine e_csD (pc := 37) (sp_y_in) dX7_pay_37 kX7_75 rfl rfl (mc_CR_of (Nat.le_of_ble_eq_true rfl) (Nat.le_of_ble_eq_true rfl) (Nat.le_refl _) (Nat.le_refl _)) (Nat.le_of_ble_eq_true rfl) ?_
        refine e_if_ne (pc := 40) dX7_pay_40 (t := 46) (by decide) (fun c_40 => ?_) (fun c_40 => ?_)
        · skip
          refine e_bipush (v := 6) (pc := 46) dX7_pay_46 (by decide) ?_
          refine e_iloadn (pc := 48) dX7_pay_48 rfl ?_
          refine e_bipush (v := 10) (pc := 49) dX7_pay_49 (by decide) ?_
          refine e_idiv (pc := 51) dX7_pay_51 (by decide) ?_
          refine e_imul (pc := 52) dX7_pay_52 ?_
          refine e_iloadn (pc := 53) dX7_pay_53 rfl ?_
          refine e_bipush (v := 10) (pc := 54) dX7_pay_54 (by decide) ?_
          refine e_irem (pc := 56) dX7_pay_56 (by decide) ?_
          refine e_iadd (pc := 57) dX7_pay_57 ?_
          refine e_isw4 (pc := 58) dX7_pay_58 (Nat.le_of_ble_eq_true rfl) rfl ?_
          refine e_aloadn (pc := 60) dX7_pay_60 rfl ?_
          refine e_get (pc := 61) dX7_pay_61 fX7_23 rfl rfl ?_
          refine e_iload (pc := 64) dX7_pay_64 rfl ?_
          refine ald_owes (pc := 66) dX7_pay_66 (hv (mc_b1.mp c_26)) ?_
          refine e_iloadn (pc := 67) dX7_pay_67 rfl ?_
          refine e_icmp_ge (pc := 68) dX7_pay_68 (t := 74) (by decide) (fun c_68 => ?_) (fun c_68 => ?_)
          · skip
            refine e_aloadn (pc := 74) dX7_pay_74 rfl ?_
            refine e_get (pc := 75) dX7_pay_75 fX7_23 rfl rfl ?_
            refine e_iload (pc := 78) dX7_pay_78 rfl ?_
            refine e_dup2 (pc := 80) dX7_pay_80 rfl rfl ?_
            refine ald_owes (pc := 81) dX7_pay_81 (hv (mc_b1.mp c_26)) ?_
            refine e_iloadn (pc := 82) dX7_pay_82 rfl ?_
            refine e_isub (pc := 83) dX7_pay_83 ?_
            refine ast_owes (pc := 84) dX7_pay_84 (hv (mc_b1.mp c_26)) ?_
            have e0 : ypyc m b k fg mu = 0 := by unfold ypyc; rw [if_neg (c := mc_wi k 0 (m 2 - 1) = false) (by simp [mc_b1.mp c_5]), if_neg (fun q => q.elim c_12 (by simp [mc_b1.mp c_26])), if_neg (c := mc_wi mu 0 9999 = false) (by simp [mc_b1.mp c_40]), if_neg (c := gt (b 2) (ypat fg) < mu) (Int32.not_lt.mpr c_68)]
            refine e_aloadn (pc := 85) dX7_pay_85 rfl ?_
            refine e_get (pc := 86) dX7_pay_86 fX7_23 rfl rfl ?_
            refine e_iload (pc := 89) dX7_pay_89 rfl ?_
            refine e_aloadn (pc := 91) dX7_pay_91 rfl ?_
            refine e_get (pc := 92) dX7_pay_92 fX7_23 rfl rfl ?_
            refine e_iload (pc := 95) dX7_pay_95 rfl ?_
            refine aldv_owes (pc := 97) dX7_pay_97 (up_in (hv (mc_b1.mp c_26))) (up_get (vp_clt (hv (mc_b1.mp c_26)))) ?_
            refine e_if_ne (pc := 98) dX7_pay_98 (t := 117) (by decide) (fun c_98 => ?_) (fun c_98 => ?_)
            · skip
              refine e_aloadn (pc := 117) dX7_pay_117 rfl ?_
              refine e_get (pc := 118) dX7_pay_118 fX7_23 rfl rfl ?_
              refine e_iload (pc := 121) dX7_pay_121 rfl ?_
              refine aldv_owes (pc := 123) dX7_pay_123 (up_in (hv (mc_b1.mp c_26))) (up_get (vp_clt (hv (mc_b1.mp c_26)))) ?_
              refine ast_owes (pc := 124) dX7_pay_124 (up_in (hv (mc_b1.mp c_26))) ?_
              rw [up_set2]
              refine e_aloadn (pc := 125) dX7_pay_125 rfl ?_
              refine e_get (pc := 126) dX7_pay_126 fX7_23 rfl rfl ?_
              refine e_iload (pc := 129) dX7_pay_129 rfl ?_
              refine aldv_owes (pc := 131) dX7_pay_131 (up_in (hv (mc_b1.mp c_26))) (up_get (vp_clt (hv (mc_b1.mp c_26)))) ?_
              exact e_iret (pc := 132) dX7_pay_132 rfl (Nat.le_refl _) (Nat.le_refl _) ⟨by unfold ypay; rw [e0, if_pos rfl]; unfold ypyv; rw [if_neg (c := gt (b 2) (ypat fg) - mu = 0) c_98]; rfl, d, hD, by unfold ypyb; rw [e0, if_pos rfl]; unfold ypyv; rw [if_neg (c := gt (b 2) (ypat fg) - mu = 0) c_98]; rfl⟩
            · skip
              refine e_aloadn (pc := 101) dX7_pay_101 rfl ?_
              refine e_iloadn (pc := 102) dX7_pay_102 rfl ?_
              refine e_iconst (v := 0) (pc := 103) dX7_pay_103 (by decide) ?_
              refine e_cvX (pc := 104) (sp_y_makesOf (hG2 _ _).1 (hG2 _ _).V ((hG2 _ _).k0 (mc_b1.mp c_5)) ((hG2 _ _).k1 (mc_b1.mp c_5)) hD) dX7_pay_104 kX7_178 rfl rfl rfl rfl rfl (mc_CR_of (Nat.le_of_ble_eq_true rfl) (Nat.le_of_ble_eq_true rfl) (Nat.le_refl _) (Nat.le_refl _)) (Nat.le_of_ble_eq_true rfl) (fun w1 hw1 => ?_)
              obtain ⟨d1, hD1, g3, rfl⟩ := hw1
              refine e_iconst (v := 0) (pc := 107) dX7_pay_107 (by decide) ?_
              refine e_sipush (v := 9999) (pc := 108) dX7_pay_108 (by decide) ?_
              refine e_csD (pc := 111) (sp_y_within) dX7_pay_111 kX7_156 rfl rfl (mc_CR_of (Nat.le_of_ble_eq_true rfl) (Nat.le_of_ble_eq_true rfl) (Nat.le_refl _) (Nat.le_refl _)) (Nat.le_of_ble_eq_true rfl) ?_
              refine e_goto (pc := 114) dX7_pay_114 (t := 124) (by decide) ?_
              refine ast_owes (pc := 124) dX7_pay_124 (up_in (hv (mc_b1.mp c_26))) ?_
              rw [up_set2]
              refine e_aloadn (pc := 125) dX7_pay_125 rfl ?_
              refine e_get (pc := 126) dX7_pay_126 fX7_23 rfl rfl ?_
              refine e_iload (pc := 129) dX7_pay_129 rfl ?_
              refine aldv_owes (pc := 131) dX7_pay_131 (up_in (hv (mc_b1.mp c_26))) (up_get (vp_clt (hv (mc_b1.mp c_26)))) ?_
              exact e_iret (pc := 132) dX7_pay_132 rfl (Nat.le_refl _) (Nat.le_refl _) ⟨by unfold ypay; rw [e0, if_pos rfl]; unfold ypyv; rw [if_pos (c := gt (b 2) (ypat fg) - mu = 0) c_98]; rfl, d1, hD1, by unfold ypyb; rw [e0, if_pos rfl]; unfold ypyv; rw [if_pos (c := gt (b 2) (ypat fg) - mu = 0) c_98]; rfl⟩
          · skip
            refine e_bipush (v := -3) (pc := 71) dX7_pay_71 (by decide) ?_
            exact e_iret (pc := 73) dX7_pay_73 rfl (Nat.le_refl _) (Nat.le_refl _) (have e0 : ypyc m b k fg mu = -3 := (by unfold ypyc; rw [if_neg (c := mc_wi k 0 (m 2 - 1) = false) (by simp [mc_b1.mp c_5]), if_neg (fun q => q.elim c_12 (by simp [mc_b1.mp c_26])), if_neg (c := mc_wi mu 0 9999 = false) (by simp [mc_b1.mp c_40]), if_pos (c := gt (b 2) (ypat fg) < mu) (Int32.not_le.mp c_68)]); ⟨by unfold ypay; rw [e0]; rfl, d, hD, by unfold ypyb; rw [e0]; rfl⟩)
        · skip
          refine e_bipush (v := -7) (pc := 43) dX7_pay_43 (by decide) ?_
          exact e_iret (pc := 45) dX7_pay_45 rfl (Nat.le_refl _) (Nat.le_refl _) (have e0 : ypyc m b k fg mu = -7 := (by unfold ypyc; rw [if_neg (c := mc_wi k 0 (m 2 - 1) = false) (by simp [mc_b1.mp c_5]), if_neg (fun q => q.elim c_12 (by simp [mc_b1.mp c_26])), if_pos (c := mc_wi mu 0 9999 = false) (mc_b0.mp c_40)]); ⟨by unfold ypay; rw [e0]; rfl, d, hD, by unfold ypyb; rw [e0]; rfl⟩)
      · skip
        refine e_bipush (v := -5) (pc := 29) dX7_pay_29 (by decide) ?_
        exact e_iret (pc := 31) dX7_pay_31 rfl (Nat.le_refl _) (Nat.le_refl _) (have e0 : ypyc m b k fg mu = -5 := (by unfold ypyc; rw [if_neg (c := mc_wi k 0 (m 2 - 1) = false) (by simp [mc_b1.mp c_5]), if_pos (Or.inr (mc_b0.mp c_26))]); ⟨by unfold ypay; rw [e0]; rfl, d, hD, by unfold ypyb; rw [e0]; rfl⟩)
  · skip
    refine e_bipush (v := -6) (pc := 8) dX7_pay_8 (by decide) ?_
    exact e_iret (pc := 10) dX7_pay_10 rfl (Nat.le_refl _) (Nat.le_refl _) (have e0 : ypyc m b k fg mu = -6 := (by unfold ypyc; rw [if_pos (c := mc_wi k 0 (m 2 - 1) = false) (mc_b0.mp c_5)]); ⟨by unfold ypay; rw [e0]; rfl, d, hD, by unfold ypyb; rw [e0]; rfl⟩)
end Zj_31_y12
section Zj_32_y13
/-! images, sheets -/
theorem up_setl {b : Nat → List Int32} {k i : Nat} {l : List Int32} {x : Int32} : mc_up (mc_up b k l) k (((mc_up b k l) k).set i x) = mc_up b k (l.set i x) := by
  have e : (mc_up b k l) k = l := by unfold mc_up; rw [if_pos rfl]
  rw [mc_up_up, e]
theorem ext36 {l r : List Int32} {N : Nat} (hl : l.length = N) (hr : r.length = N) (h : ∀ j, j < N → l.getD j 0 = r.getD j 0) : l = r := by
  have := tk_of (l := l) (xs := r) (N := N) hr.symm (by omega) h
  rw [← this, List.take_of_length_le (by omega)]
def yimm (m : Nat → Int32) : Nat → Int32 := mc_up (mc_up (mc_up (mc_up (mc_up m 6 1) 7 (m 2)) 8 (m 0)) 9 (m 1)) 10 (m 5)
def ybkm (m : Nat → Int32) : Nat → Int32 := if m 6 = 0 then m else mc_up (mc_up (mc_up (mc_up m 2 (m 7)) 0 (m 8)) 1 (m 9)) 5 (m 10)
def ybkb (m : Nat → Int32) (b : Nat → List Int32) : Nat → List Int32 := if m 6 = 0 then b else mc_up b 2 (b 6)
theorem lp_y_image {s u m n : Nat → Int32} {a c d : Nat → List Int32} {q : List (Option Nat)} {h : Nat} {z : mc_W} {B : Nat → List Int32} (h1 : (B 2).length = 36) :
    ∀ (g i : Nat) (l : List Int32) (b : Nat → List Int32), b = mc_up B 6 l → i + g = 36 → l.length = 36 → (∀ j, j < i → l.getD j 0 = (B 2).getD j 0) →
      mc_E RX7 cX7_image 2 (mc_JM (some .int) false 1 0 0 (fun r' w' => r' = some (.int (m 2)) ∧ w' = WW s a q u c h m (mc_up B 6 (B 2)) n d z)) 39 [some (.ref 29), some (.int (nI i))] [] (WW s a q u c h m b n d z) 0 0 := by
  intro g
  induction g with
  | zero =>
    intro i l b hb hi hl hx
    have e : i = 36 := by omega
    subst e
    have e2 : l = B 2 := ext36 hl h1 hx
    rw [e2] at hb
    subst hb
    refine e_iloadn (pc := 39) dX7_image_39 rfl ?_
    refine e_bipush (v := 36) (pc := 40) dX7_image_40 (by decide) ?_
    refine e_icmp_ge (pc := 42) dX7_image_42 (t := 63) (by decide) (fun _ => ?_) (fun c_42 => absurd (by decide) c_42)
    refine e_aloadn (pc := 63) dX7_image_63 rfl ?_
    refine e_get (pc := 64) dX7_image_64 fX7_72 rfl rfl ?_
    exact e_iret (pc := 67) dX7_image_67 rfl (Nat.le_refl _) (Nat.le_refl _) ⟨rfl, rfl⟩
  | succ g ih =>
    intro i l b hb hi hl hx
    subst hb
    have iv : vp_in (nI i) (B 2).length := by rw [h1]; exact vp_in_nI (by omega) (by decide)
    have iv2 : vp_in (nI i) ((mc_up B 6 l) 6).length := by show vp_in _ l.length; rw [hl]; exact vp_in_nI (by omega) (by decide)
    have ex : (B 2).getD (nI i).toNatClampNeg 0 = (B 2).getD i 0 := by rw [nIc (by omega)]
    refine e_iloadn (pc := 39) dX7_image_39 rfl ?_
    refine e_bipush (v := 36) (pc := 40) dX7_image_40 (by decide) ?_
    refine e_icmp_ge (pc := 42) dX7_image_42 (t := 63) (by decide) (fun c_42 => absurd c_42 (nI_ge (by omega : i < 36) (by decide))) (fun _ => ?_)
    refine e_aloadn (pc := 45) dX7_image_45 rfl ?_
    refine e_get (pc := 46) dX7_image_46 fX7_35 rfl rfl ?_
    refine e_iloadn (pc := 49) dX7_image_49 rfl ?_
    refine e_aloadn (pc := 50) dX7_image_50 rfl ?_
    refine e_get (pc := 51) dX7_image_51 fX7_23 rfl rfl ?_
    refine e_iloadn (pc := 54) dX7_image_54 rfl ?_
    refine aldv_owes (pc := 55) dX7_image_55 iv ex ?_
    refine ast_imageOwes (pc := 56) dX7_image_56 iv2 ?_
    rw [up_setl, nIc (by omega)]
    refine e_incC1 (pc := 57) dX7_image_57 (nI_1 i) (Nat.le_of_ble_eq_true rfl) rfl ?_
    refine e_goto (pc := 60) dX7_image_60 (t := 39) (by decide) ?_
    refine ih (i + 1) _ _ rfl (by omega) (by rw [List.length_set]; exact hl) (fun j hj => ?_)
    rw [gD_set (by omega)]
    by_cases e : j = i
    · rw [if_pos e, e]
    · rw [if_neg e]; exact hx j (by omega)
theorem sp_y_image {s u m n : Nat → Int32} {a c b d : Nat → List Int32} {q : List (Option Nat)} {h : Nat} {z : mc_W} (hL : yL b) : mc_D yX7_image cX7_image 2 (some .int) 1 [.ref 29] (WW s a q u c h m b n d z) (some (.int (m 2))) (WW s a q u c h (yimm m) (mc_up b 6 (b 2)) n d z) := by
  refine mc_start (own := RX7) (ini := false) rfl (by decide +kernel) (fun h => by cases h) (Nat.le_of_ble_eq_true rfl) ?_
  show mc_E _ _ _ _ _ [some (.ref 29), none] [] _ _ _
  refine e_aloadn (pc := 0) dX7_image_0 rfl ?_
  refine e_iconst (v := 1) (pc := 1) dX7_image_1 (by decide) ?_
  refine put_y_hasImage (pc := 2) dX7_image_2 pX7_292 rfl ?_
  refine e_aloadn (pc := 5) dX7_image_5 rfl ?_
  refine e_aloadn (pc := 6) dX7_image_6 rfl ?_
  refine e_get (pc := 7) dX7_image_7 fX7_72 rfl rfl ?_
  refine put_y_imageClerks (pc := 10) dX7_image_10 pX7_296 ?_
  refine e_aloadn (pc := 13) dX7_image_13 rfl ?_
  refine e_aloadn (pc := 14) dX7_image_14 rfl ?_
  refine e_get (pc := 15) dX7_image_15 fX7_7 rfl rfl ?_
  refine put_y_imageBase (pc := 18) dX7_image_18 pX7_299 ?_
  refine e_aloadn (pc := 21) dX7_image_21 rfl ?_
  refine e_aloadn (pc := 22) dX7_image_22 rfl ?_
  refine e_get (pc := 23) dX7_image_23 fX7_13 rfl rfl ?_
  refine put_y_imageYear (pc := 26) dX7_image_26 pX7_302 ?_
  refine e_aloadn (pc := 29) dX7_image_29 rfl ?_
  refine e_aloadn (pc := 30) dX7_image_30 rfl ?_
  refine e_get (pc := 31) dX7_image_31 fX7_83 rfl rfl ?_
  refine put_y_imageRule (pc := 34) dX7_image_34 pX7_305 ?_
  refine e_iconst (v := 0) (pc := 37) dX7_image_37 (by decide) ?_
  refine e_isn1 (pc := 38) dX7_image_38 (Nat.le_of_ble_eq_true rfl) rfl ?_
  exact lp_y_image (m := yimm m) (B := b) hL.2.2.1 36 0 (b 6) b (mc_up_self b 6).symm (by omega) hL.2.2.2.2.2.2.1 (fun j hj => absurd hj (by omega))
theorem lp_y_back {s u m n : Nat → Int32} {a c d : Nat → List Int32} {q : List (Option Nat)} {h : Nat} {z : mc_W} {B : Nat → List Int32} (h1 : (B 6).length = 36) :
    ∀ (g i : Nat) (l : List Int32) (b : Nat → List Int32), b = mc_up B 2 l → i + g = 36 → l.length = 36 → (∀ j, j < i → l.getD j 0 = (B 6).getD j 0) →
      mc_E RX7 cX7_back 2 (mc_JM (some .int) false 1 0 0 (fun r' w' => r' = some (.int (m 2)) ∧ w' = WW s a q u c h m (mc_up B 2 (B 6)) n d z)) 44 [some (.ref 29), some (.int (nI i))] [] (WW s a q u c h m b n d z) 0 0 := by
  intro g
  induction g with
  | zero =>
    intro i l b hb hi hl hx
    have e : i = 36 := by omega
    subst e
    have e2 : l = B 6 := ext36 hl h1 hx
    rw [e2] at hb
    subst hb
    refine e_iloadn (pc := 44) dX7_back_44 rfl ?_
    refine e_bipush (v := 36) (pc := 45) dX7_back_45 (by decide) ?_
    refine e_icmp_ge (pc := 47) dX7_back_47 (t := 68) (by decide) (fun _ => ?_) (fun c_47 => absurd (by decide) c_47)
    refine e_aloadn (pc := 68) dX7_back_68 rfl ?_
    refine e_get (pc := 69) dX7_back_69 fX7_72 rfl rfl ?_
    exact e_iret (pc := 72) dX7_back_72 rfl (Nat.le_refl _) (Nat.le_refl _) ⟨rfl, rfl⟩
  | succ g ih =>
    intro i l b hb hi hl hx
    subst hb
    have iv : vp_in (nI i) (B 6).length := by rw [h1]; exact vp_in_nI (by omega) (by decide)
    have iv2 : vp_in (nI i) ((mc_up B 2 l) 2).length := by show vp_in _ l.length; rw [hl]; exact vp_in_nI (by omega) (by decide)
    have ex : (B 6).getD (nI i).toNatClampNeg 0 = (B 6).getD i 0 := by rw [nIc (by omega)]
    refine e_iloadn (pc := 44) dX7_back_44 rfl ?_
    refine e_bipush (v := 36) (pc := 45) dX7_back_45 (by decide) ?_
    refine e_icmp_ge (pc := 47) dX7_back_47 (t := 68) (by decide) (fun c_47 => absurd c_47 (nI_ge (by omega : i < 36) (by decide))) (fun _ => ?_)
    refine e_aloadn (pc := 50) dX7_back_50 rfl ?_
    refine e_get (pc := 51) dX7_back_51 fX7_23 rfl rfl ?_
    refine e_iloadn (pc := 54) dX7_back_54 rfl ?_
    refine e_aloadn (pc := 55) dX7_back_55 rfl ?_
    refine e_get (pc := 56) dX7_back_56 fX7_35 rfl rfl ?_
    refine e_iloadn (pc := 59) dX7_back_59 rfl ?_
    refine aldv_imageOwes (pc := 60) dX7_back_60 iv ex ?_
    refine ast_owes (pc := 61) dX7_back_61 iv2 ?_
    rw [up_setl, nIc (by omega)]
    refine e_incC1 (pc := 62) dX7_back_62 (nI_1 i) (Nat.le_of_ble_eq_true rfl) rfl ?_
    refine e_goto (pc := 65) dX7_back_65 (t := 44) (by decide) ?_
    refine ih (i + 1) _ _ rfl (by omega) (by rw [List.length_set]; exact hl) (fun j hj => ?_)
    rw [gD_set (by omega)]
    by_cases e : j = i
    · rw [if_pos e, e]
    · rw [if_neg e]; exact hx j (by omega)
theorem sp_y_back {s u m n : Nat → Int32} {a c b d : Nat → List Int32} {q : List (Option Nat)} {h : Nat} {z : mc_W} (hL : yL b) : mc_D yX7_back cX7_back 2 (some .int) 1 [.ref 29] (WW s a q u c h m b n d z) (some (.int (if m 6 = 0 then -3 else m 7))) (WW s a q u c h (ybkm m) (ybkb m b) n d z) := by
  refine mc_start (own := RX7) (ini := false) rfl (by decide +kernel) (fun h => by cases h) (Nat.le_of_ble_eq_true rfl) ?_
  show mc_E _ _ _ _ _ [some (.ref 29), none] [] _ _ _
  refine e_aloadn (pc := 0) dX7_back_0 rfl ?_
  refine e_get (pc := 1) dX7_back_1 fX7_292 rfl rfl ?_
  refine e_if_ne (pc := 4) dX7_back_4 (t := 10) (by decide) (fun c_4 => ?_) (fun c_4 => ?_)
  · skip
    refine e_aloadn (pc := 10) dX7_back_10 rfl ?_
    refine e_aloadn (pc := 11) dX7_back_11 rfl ?_
    refine e_get (pc := 12) dX7_back_12 fX7_296 rfl rfl ?_
    refine put_y_clerks (pc := 15) dX7_back_15 pX7_72 ?_
    refine e_aloadn (pc := 18) dX7_back_18 rfl ?_
    refine e_aloadn (pc := 19) dX7_back_19 rfl ?_
    refine e_get (pc := 20) dX7_back_20 fX7_299 rfl rfl ?_
    refine put_y_base0 (pc := 23) dX7_back_23 pX7_7 ?_
    refine e_aloadn (pc := 26) dX7_back_26 rfl ?_
    refine e_aloadn (pc := 27) dX7_back_27 rfl ?_
    refine e_get (pc := 28) dX7_back_28 fX7_302 rfl rfl ?_
    refine put_y_year0 (pc := 31) dX7_back_31 pX7_13 ?_
    refine e_aloadn (pc := 34) dX7_back_34 rfl ?_
    refine e_aloadn (pc := 35) dX7_back_35 rfl ?_
    refine e_get (pc := 36) dX7_back_36 fX7_305 rfl rfl ?_
    refine put_y_rule (pc := 39) dX7_back_39 pX7_83 ?_
    refine e_iconst (v := 0) (pc := 42) dX7_back_42 (by decide) ?_
    refine e_isn1 (pc := 43) dX7_back_43 (Nat.le_of_ble_eq_true rfl) rfl ?_
    have K := lp_y_back (s := s) (a := a) (q := q) (u := u) (c := c) (h := h) (z := z) (n := n) (d := d) (m := mc_up (mc_up (mc_up (mc_up m 2 (m 7)) 0 (m 8)) 1 (m 9)) 5 (m 10)) (B := b) hL.2.2.2.2.2.2.1 36 0 (b 2) b (mc_up_self b 2).symm (by omega) hL.2.2.1 (fun j hj => absurd hj (by omega))
    unfold ybkm ybkb
    rw [if_neg c_4, if_neg c_4, if_neg c_4]
    exact K
  · skip
    refine e_bipush (v := -3) (pc := 7) dX7_back_7 (by decide) ?_
    exact e_iret (pc := 9) dX7_back_9 rfl (Nat.le_refl _) (Nat.le_refl _) ⟨by first | rw [if_pos (c := m 6 = 0) (by assumption)] | simp_all, by unfold ybkm ybkb; first | (rw [if_pos (c := m 6 = 0) (by assumption), if_pos (c := m 6 = 0) (by assumption)]) | simp_all⟩
def yzr (σ : Nat) : Nat → Nat → List Int32 → List Int32
  | 0, _, l => l
  | g + 1, i, l => yzr σ g (i + 1) (l.set (40 * σ + i) 0)
theorem yzr_len (σ : Nat) : ∀ g i l, (yzr σ g i l).length = l.length := by
  intro g
  induction g with
  | zero => intro i l; rfl
  | succ g ih => intro i l; unfold yzr; rw [ih, List.length_set]
theorem yzr_get (σ : Nat) : ∀ g i l j, l.length = 160 → 40 * σ + i + g ≤ 160 → (yzr σ g i l).getD j 0 = if 40 * σ + i ≤ j ∧ j < 40 * σ + i + g then 0 else l.getD j 0 := by
  intro g
  induction g with
  | zero => intro i l j h1 h2; rw [if_neg (by omega)]; rfl
  | succ g ih =>
    intro i l j h1 h2
    unfold yzr
    rw [ih (i + 1) _ j (by rw [List.length_set]; exact h1) (by omega), gD_set (by omega)]
    by_cases e2 : 40 * σ + (i + 1) ≤ j ∧ j < 40 * σ + (i + 1) + g
    · rw [if_pos e2, if_pos (by omega)]
    · rw [if_neg e2]
      by_cases e1 : j = 40 * σ + i
      · rw [if_pos e1, if_pos (by omega)]
      · rw [if_neg e1, if_neg (by omega)]
theorem cl_at {σ i : Nat} (hs : σ < 4) (hi : i < 40) : (40 * nI σ + nI i).toNatClampNeg = 40 * σ + i := by
  rw [show (40 : Int32) * nI σ = nI (40 * σ) from pk_mul 40 σ, nI_add, nIc (by omega)]
theorem cl_in {σ i : Nat} {l : List Int32} (hl : l.length = 160) (hs : σ < 4) (hi : i < 40) : vp_in (40 * nI σ + nI i) l.length := by
  rw [show (40 : Int32) * nI σ = nI (40 * σ) from pk_mul 40 σ, nI_add, hl]; exact vp_in_nI (by omega) (by decide)
def ysh1 (s0 so k : Int32) : Int32 := if (mc_wi s0 0 3 && mc_wi so (-1) 2) = false ∨ (¬ so = -1 ∧ 40 < k) then -2 else if ¬ so = -1 ∧ k < 0 then -14 else 1
def yshx (b : Nat → List Int32) (s0 so k : Int32) : Nat → List Int32 := mc_up (mc_up (mc_up b 7 ((b 7).set s0.toNatClampNeg so)) 8 ((b 8).set s0.toNatClampNeg k)) 9 (yzr s0.toNatClampNeg 40 0 (b 9))
def yshb (b : Nat → List Int32) (s0 so k : Int32) : Nat → List Int32 := if ysh1 s0 so k = 1 then yshx b s0 so (if so = -1 then 0 else k) else b
theorem lp_y_sheet {s u m n : Nat → Int32} {a c d : Nat → List Int32} {q : List (Option Nat)} {h : Nat} {z : mc_W} {Post : Option Value → mc_W → Prop} {B : Nat → List Int32} {L : List Int32} {σ : Nat} (hs : σ < 4) {so k0 : Int32}
    (hK : mc_E RX7 cX7_sheet 5 (mc_JM (some .int) false 2 0 0 Post) 96 [some (.ref 29), some (.int (nI σ)), some (.int so), some (.int k0), some (.int (nI 40))] [] (WW s a q u c h m (mc_up B 9 L) n d z) 0 0) :
    ∀ (g i : Nat) (l : List Int32) (b : Nat → List Int32), b = mc_up B 9 l → i + g = 40 → l.length = 160 → yzr σ g i l = L →
      mc_E RX7 cX7_sheet 5 (mc_JM (some .int) false 2 0 0 Post) 70 [some (.ref 29), some (.int (nI σ)), some (.int so), some (.int k0), some (.int (nI i))] [] (WW s a q u c h m b n d z) 0 0 := by
  intro g
  induction g with
  | zero =>
    intro i l b hb hi hl hx
    have e : i = 40 := by omega
    subst e
    have hx : l = L := hx
    subst hx hb
    refine e_iload (pc := 70) dX7_sheet_70 rfl ?_
    refine e_bipush (v := 40) (pc := 72) dX7_sheet_72 (by decide) ?_
    refine e_icmp_ge (pc := 74) dX7_sheet_74 (t := 96) (by decide) (fun _ => ?_) (fun c_74 => absurd (by decide) c_74)
    exact hK
  | succ g ih =>
    intro i l b hb hi hl hx
    subst hb
    have iv2 : vp_in (40 * nI σ + nI i) ((mc_up B 9 l) 9).length := cl_in hl hs (by omega)
    refine e_iload (pc := 70) dX7_sheet_70 rfl ?_
    refine e_bipush (v := 40) (pc := 72) dX7_sheet_72 (by decide) ?_
    refine e_icmp_ge (pc := 74) dX7_sheet_74 (t := 96) (by decide) (fun c_74 => absurd c_74 (nI_ge (by omega : i < 40) (by decide))) (fun _ => ?_)
    refine e_aloadn (pc := 77) dX7_sheet_77 rfl ?_
    refine e_get (pc := 78) dX7_sheet_78 fX7_44 rfl rfl ?_
    refine e_bipush (v := 40) (pc := 81) dX7_sheet_81 (by decide) ?_
    refine e_iloadn (pc := 83) dX7_sheet_83 rfl ?_
    refine e_imul (pc := 84) dX7_sheet_84 ?_
    refine e_iload (pc := 85) dX7_sheet_85 rfl ?_
    refine e_iadd (pc := 87) dX7_sheet_87 ?_
    refine e_iconst (v := 0) (pc := 88) dX7_sheet_88 (by decide) ?_
    refine ast_ycells (pc := 89) dX7_sheet_89 iv2 ?_
    rw [up_setl, cl_at hs (by omega)]
    refine e_incC4 (pc := 90) dX7_sheet_90 (nI_1 i) (Nat.le_of_ble_eq_true rfl) rfl ?_
    refine e_goto (pc := 93) dX7_sheet_93 (t := 70) (by decide) ?_
    exact ih (i + 1) _ _ rfl (by omega) (by rw [List.length_set]; exact hl) hx
theorem lp_y_sheet_end {s u m n : Nat → Int32} {a c b d : Nat → List Int32} {q : List (Option Nat)} {h : Nat} {z : mc_W} {x1 x2 x3 x4 : Option Value} :
    mc_E RX7 cX7_sheet 5 (mc_JM (some .int) false 2 0 0 (fun r' w' => r' = some (.int (1)) ∧ w' = WW s a q u c h m b n d z)) 96 [some (.ref 29), x1, x2, x3, x4] [] (WW s a q u c h m b n d z) 0 0 := by
  refine e_iconst (v := 1) (pc := 96) dX7_sheet_96 (by decide) ?_
  exact e_iret (pc := 97) dX7_sheet_97 rfl (Nat.le_refl _) (Nat.le_refl _) ⟨rfl, rfl⟩
theorem sp_y_sheet {s u m n : Nat → Int32} {a c b d : Nat → List Int32} {q : List (Option Nat)} {h : Nat} {z : mc_W} {s0 so k : Int32} (hL : yL b) : mc_D yX7_sheet cX7_sheet 5 (some .int) 2 [.ref 29, .int s0, .int so, .int k] (WW s a q u c h m b n d z) (some (.int (ysh1 s0 so k))) (WW s a q u c h m (yshb b s0 so k) n d z) := by
  refine mc_start (own := RX7) (ini := false) rfl (by decide +kernel) (fun h => by cases h) (Nat.le_of_ble_eq_true rfl) ?_
  show mc_E _ _ _ _ _ [some (.ref 29), some (.int s0), some (.int so), some (.int k), none] [] _ _ _
  have h7 : mc_wi s0 0 3 = true → vp_in s0 (b 7).length := fun h => by rw [hL.2.2.2.2.2.2.2.1]; exact vp_in_w2 h (by decide) (by decide)
  have h8 : mc_wi s0 0 3 = true → vp_in s0 (b 8).length := fun h => by rw [hL.2.2.2.2.2.2.2.2.1]; exact vp_in_w2 h (by decide) (by decide)
  refine e_iloadn (pc := 0) dX7_sheet_0 rfl ?_
  refine e_iconst (v := 0) (pc := 1) dX7_sheet_1 (by decide) ?_
  refine e_iconst (v := 3) (pc := 2) dX7_sheet_2 (by decide) ?_
  refine e_csD (pc := 3) (sp_y_in) dX7_sheet_3 kX7_75 rfl rfl (mc_CR_of (Nat.le_of_ble_eq_true rfl) (Nat.le_of_ble_eq_true rfl) (Nat.le_refl _) (Nat.le_refl _)) (Nat.le_of_ble_eq_true rfl) ?_
  refine e_if_eq (pc := 6) dX7_sheet_6 (t := 29) (by decide) (fun c_6 => ?_) (fun c_6 => ?_)
  · skip
    refine e_bipush (v := -2) (pc := 29) dX7_sheet_29 (by decide) ?_
    exact e_iret (pc := 31) dX7_sheet_31 rfl (Nat.le_refl _) (Nat.le_refl _) (have e1 : ysh1 s0 so k = -2 := (by unfold ysh1; rw [if_pos (Or.inl (by rw [mc_b0.mp c_6]; rfl))]); ⟨by rw [e1], by unfold yshb; rw [e1]; rfl⟩)
  · skip
    refine e_iloadn (pc := 9) dX7_sheet_9 rfl ?_
    refine e_iconst (v := -1) (pc := 10) dX7_sheet_10 (by decide) ?_
    refine e_iconst (v := 2) (pc := 11) dX7_sheet_11 (by decide) ?_
    refine e_csD (pc := 12) (sp_y_in) dX7_sheet_12 kX7_75 rfl rfl (mc_CR_of (Nat.le_of_ble_eq_true rfl) (Nat.le_of_ble_eq_true rfl) (Nat.le_refl _) (Nat.le_refl _)) (Nat.le_of_ble_eq_true rfl) ?_
    refine e_if_eq (pc := 15) dX7_sheet_15 (t := 29) (by decide) (fun c_15 => ?_) (fun c_15 => ?_)
    · skip
      refine e_bipush (v := -2) (pc := 29) dX7_sheet_29 (by decide) ?_
      exact e_iret (pc := 31) dX7_sheet_31 rfl (Nat.le_refl _) (Nat.le_refl _) (have e1 : ysh1 s0 so k = -2 := (by unfold ysh1; rw [if_pos (Or.inl (by rw [mc_b0.mp c_15, Bool.and_false]))]); ⟨by rw [e1], by unfold yshb; rw [e1]; rfl⟩)
    · skip
      refine e_iloadn (pc := 18) dX7_sheet_18 rfl ?_
      refine e_iconst (v := -1) (pc := 19) dX7_sheet_19 (by decide) ?_
      refine e_icmp_eq (pc := 20) dX7_sheet_20 (t := 32) (by decide) (fun c_20 => ?_) (fun c_20 => ?_)
      · skip
        refine e_iloadn (pc := 32) dX7_sheet_32 rfl ?_
        refine e_iconst (v := -1) (pc := 33) dX7_sheet_33 (by decide) ?_
        refine e_icmp_eq (pc := 34) dX7_sheet_34 (t := 44) (by decide) (fun _ => ?_) (fun c_34 => absurd c_20 c_34)
        refine e_aloadn (pc := 44) dX7_sheet_44 rfl ?_
        refine e_get (pc := 45) dX7_sheet_45 fX7_38 rfl rfl ?_
        refine e_iloadn (pc := 48) dX7_sheet_48 rfl ?_
        refine e_iloadn (pc := 49) dX7_sheet_49 rfl ?_
        refine ast_sheetSort (pc := 50) dX7_sheet_50 (h7 (by simpa [mc_b0] using c_6)) ?_
        refine e_aloadn (pc := 51) dX7_sheet_51 rfl ?_
        refine e_get (pc := 52) dX7_sheet_52 fX7_41 rfl rfl ?_
        refine e_iloadn (pc := 55) dX7_sheet_55 rfl ?_
        refine e_iloadn (pc := 56) dX7_sheet_56 rfl ?_
        refine e_iconst (v := -1) (pc := 57) dX7_sheet_57 (by decide) ?_
        refine e_icmp_ne (pc := 58) dX7_sheet_58 (t := 65) (by decide) (fun c_58 => absurd c_58 (fun q => q c_20)) (fun _ => ?_)
        refine e_iconst (v := 0) (pc := 61) dX7_sheet_61 (by decide) ?_
        refine e_goto (pc := 62) dX7_sheet_62 (t := 66) (by decide) ?_
        refine ast_sheetSize (pc := 66) dX7_sheet_66 (h8 (by simpa [mc_b0] using c_6)) ?_
        refine e_iconst (v := 0) (pc := 67) dX7_sheet_67 (by decide) ?_
        refine e_isw4 (pc := 68) dX7_sheet_68 (Nat.le_of_ble_eq_true rfl) rfl ?_
        have q6 : mc_wi s0 0 3 = true := by simpa [mc_b0] using c_6
        have q15 : mc_wi so (-1) 2 = true := by simpa [mc_b0] using c_15
        have e1 : ysh1 s0 so k = 1 := by unfold ysh1; rw [if_neg (fun q => q.elim (fun q => by simp [q15, q6] at q) (fun q => q.1 c_20)), if_neg (fun q => q.1 c_20)]
        have e2 : yshb b s0 so k = yshx b s0 so 0 := by unfold yshb; rw [if_pos e1, if_pos c_20]
        rw [e1, e2]
        clear h7 h8 e1 e2
        have hs4 : vp_in s0 4 := vp_in_w2 q6 (by decide) (by decide)
        obtain ⟨σ, h4, rfl⟩ := vp_in_of hs4 (by decide)
        refine lp_y_sheet h4 (lp_y_sheet_end) 40 0 _ _ (mc_up_self _ 9).symm (by omega) hL.2.2.2.2.2.2.2.2.2 ?_
        rw [nIc (n := σ) (by omega)]
        rfl
      · skip
        refine e_iloadn (pc := 23) dX7_sheet_23 rfl ?_
        refine e_bipush (v := 40) (pc := 24) dX7_sheet_24 (by decide) ?_
        refine e_icmp_le (pc := 26) dX7_sheet_26 (t := 32) (by decide) (fun c_26 => ?_) (fun c_26 => ?_)
        · skip
          refine e_iloadn (pc := 32) dX7_sheet_32 rfl ?_
          refine e_iconst (v := -1) (pc := 33) dX7_sheet_33 (by decide) ?_
          refine e_icmp_eq (pc := 34) dX7_sheet_34 (t := 44) (by decide) (fun c_34 => absurd c_34 c_20) (fun _ => ?_)
          refine e_iloadn (pc := 37) dX7_sheet_37 rfl ?_
          refine e_if_ge (pc := 38) dX7_sheet_38 (t := 44) (by decide) (fun c_38 => ?_) (fun c_38 => ?_)
          · skip
            refine e_aloadn (pc := 44) dX7_sheet_44 rfl ?_
            refine e_get (pc := 45) dX7_sheet_45 fX7_38 rfl rfl ?_
            refine e_iloadn (pc := 48) dX7_sheet_48 rfl ?_
            refine e_iloadn (pc := 49) dX7_sheet_49 rfl ?_
            refine ast_sheetSort (pc := 50) dX7_sheet_50 (h7 (by simpa [mc_b0] using c_6)) ?_
            refine e_aloadn (pc := 51) dX7_sheet_51 rfl ?_
            refine e_get (pc := 52) dX7_sheet_52 fX7_41 rfl rfl ?_
            refine e_iloadn (pc := 55) dX7_sheet_55 rfl ?_
            refine e_iloadn (pc := 56) dX7_sheet_56 rfl ?_
            refine e_iconst (v := -1) (pc := 57) dX7_sheet_57 (by decide) ?_
            refine e_icmp_ne (pc := 58) dX7_sheet_58 (t := 65) (by decide) (fun c_58 => ?_) (fun c_58 => ?_)
            · skip
              refine e_iloadn (pc := 65) dX7_sheet_65 rfl ?_
              refine ast_sheetSize (pc := 66) dX7_sheet_66 (h8 (by simpa [mc_b0] using c_6)) ?_
              refine e_iconst (v := 0) (pc := 67) dX7_sheet_67 (by decide) ?_
              refine e_isw4 (pc := 68) dX7_sheet_68 (Nat.le_of_ble_eq_true rfl) rfl ?_
              have q6 : mc_wi s0 0 3 = true := by simpa [mc_b0] using c_6
              have q15 : mc_wi so (-1) 2 = true := by simpa [mc_b0] using c_15
              have e1 : ysh1 s0 so k = 1 := by unfold ysh1; rw [if_neg (fun q => q.elim (fun q => by simp [q15, q6] at q) (fun q => absurd q.2 (Int32.not_lt.mpr c_26))), if_neg (fun q => absurd q.2 (Int32.not_lt.mpr c_38))]
              have e2 : yshb b s0 so k = yshx b s0 so k := by unfold yshb; rw [if_pos e1, if_neg c_20]
              rw [e1, e2]
              clear h7 h8 e1 e2
              have hs4 : vp_in s0 4 := vp_in_w2 q6 (by decide) (by decide)
              obtain ⟨σ, h4, rfl⟩ := vp_in_of hs4 (by decide)
              refine lp_y_sheet h4 (lp_y_sheet_end) 40 0 _ _ (mc_up_self _ 9).symm (by omega) hL.2.2.2.2.2.2.2.2.2 ?_
              rw [nIc (n := σ) (by omega)]
              rfl
            · skip
              refine e_iconst (v := 0) (pc := 61) dX7_sheet_61 (by decide) ?_
              refine e_goto (pc := 62) dX7_sheet_62 (t := 66) (by decide) ?_
              refine ast_sheetSize (pc := 66) dX7_sheet_66 (h8 (by simpa [mc_b0] using c_6)) ?_
              refine e_iconst (v := 0) (pc := 67) dX7_sheet_67 (by decide) ?_
              refine e_isw4 (pc := 68) dX7_sheet_68 (Nat.le_of_ble_eq_true rfl) rfl ?_
              exact absurd c_58 c_20
          · skip
            refine e_bipush (v := -14) (pc := 41) dX7_sheet_41 (by decide) ?_
            exact e_iret (pc := 43) dX7_sheet_43 rfl (Nat.le_refl _) (Nat.le_refl _) (have q6 : mc_wi s0 0 3 = true := (by simpa [mc_b0] using c_6); have q15 : mc_wi so (-1) 2 = true := (by simpa [mc_b0] using c_15); have e1 : ysh1 s0 so k = -14 := (by unfold ysh1; rw [if_neg (fun q => q.elim (fun q => by simp [q6, q15] at q) (fun q => absurd q.2 (Int32.not_lt.mpr c_26))), if_pos ⟨c_20, Int32.not_le.mp c_38⟩]); ⟨by rw [e1], by unfold yshb; rw [e1]; rfl⟩)
        · skip
          refine e_bipush (v := -2) (pc := 29) dX7_sheet_29 (by decide) ?_
          exact e_iret (pc := 31) dX7_sheet_31 rfl (Nat.le_refl _) (Nat.le_refl _) (have e1 : ysh1 s0 so k = -2 := (by unfold ysh1; rw [if_pos (Or.inr ⟨c_20, Int32.not_le.mp c_26⟩)]); ⟨by rw [e1], by unfold yshb; rw [e1]; rfl⟩)
end Zj_32_y13
section Zj_33_y14
/-! cells -/
theorem nbt {p : Bool} (h : p = false) : ¬ p = true := by simp [h]
theorem nbf {p : Bool} (h : p = true) : ¬ p = false := by simp [h]
theorem sh7 {b : Nat → List Int32} (hL : yL b) {s : Int32} (h : mc_wi s 0 3 = true) : vp_in s (b 7).length := by rw [hL.2.2.2.2.2.2.2.1]; exact vp_in_w2 h (by decide) (by decide)
theorem sh8 {b : Nat → List Int32} (hL : yL b) {s : Int32} (h : mc_wi s 0 3 = true) : vp_in s (b 8).length := by rw [hL.2.2.2.2.2.2.2.2.1]; exact vp_in_w2 h (by decide) (by decide)
theorem sh_size {b : Nat → List Int32} (hS : ySh b) {s : Int32} (h : mc_wi s 0 3 = true) : ∃ σ sz : Nat, σ < 4 ∧ s = nI σ ∧ sz ≤ 40 ∧ gt (b 8) s = nI sz := by
  have hs4 : vp_in s 4 := vp_in_w2 h (by decide) (by decide)
  obtain ⟨σ, h4, rfl⟩ := vp_in_of hs4 (by decide)
  obtain ⟨-, h1, h2⟩ := hS σ h4
  refine ⟨σ, ((b 8).getD σ 0).toNatClampNeg, h4, rfl, by have := tnc h1; omega, ?_⟩
  unfold gt
  rw [nIc (by omega)]
  exact nI_back h1
theorem cl_in2 {b : Nat → List Int32} (hL : yL b) (hS : ySh b) {s i : Int32} (h : mc_wi s 0 3 = true) (hi : mc_wi i 0 (gt (b 8) s - 1) = true) : vp_in (40 * s + i) (b 9).length := by
  obtain ⟨σ, sz, h4, rfl, hz, e⟩ := sh_size hS h
  rw [e, mc_wi_iff] at hi
  have z0 : (0 : Int32).toInt = 0 := rfl
  have z1 : (1 : Int32).toInt = 1 := rfl
  have t := nI_toInt (n := sz) (by omega)
  rw [pk_subT (by rw [t, z1]; omega) (by rw [t, z1]; omega), t, z0, z1] at hi
  rw [nI_back hi.1]
  have := tnc hi.1
  exact cl_in hL.2.2.2.2.2.2.2.2.2 h4 (by omega)
def ycl1 (b : Nat → List Int32) (s i : Int32) : Int32 := if mc_wi s 0 3 = false then -2 else if gt (b 7) s = -1 then -11 else if mc_wi i 0 (gt (b 8) s - 1) = false then -12 else 1
def yclv (b : Nat → List Int32) (s v : Int32) : Int32 := if gt (b 7) s = 0 then v.toInt8.toInt32 else if gt (b 7) s = 1 then v.toInt16.toInt32 else v
def yclb (b : Nat → List Int32) (s i v : Int32) : Nat → List Int32 := if ycl1 b s i = 1 then mc_up b 9 ((b 9).set (40 * s + i).toNatClampNeg (yclv b s v)) else b
theorem sp_y_cell {s u m n : Nat → Int32} {a c b d : Nat → List Int32} {q : List (Option Nat)} {h : Nat} {z : mc_W} {s0 i v : Int32} (hL : yL b) (hS : ySh b) : mc_D yX7_cell cX7_cell 4 (some .int) 2 [.ref 29, .int s0, .int i, .int v] (WW s a q u c h m b n d z) (some (.int (ycl1 b s0 i))) (WW s a q u c h m (yclb b s0 i v) n d z) := by
  refine mc_start (own := RX7) (ini := false) rfl (by decide +kernel) (fun h => by cases h) (Nat.le_of_ble_eq_true rfl) ?_
  show mc_E _ _ _ _ _ [some (.ref 29), some (.int s0), some (.int i), some (.int v)] [] _ _ _
  refine e_iloadn (pc := 0) dX7_cell_0 rfl ?_
  refine e_iconst (v := 0) (pc := 1) dX7_cell_1 (by decide) ?_
  refine e_iconst (v := 3) (pc := 2) dX7_cell_2 (by decide) ?_
  refine e_csD (pc := 3) (sp_y_in) dX7_cell_3 kX7_75 rfl rfl (mc_CR_of (Nat.le_of_ble_eq_true rfl) (Nat.le_of_ble_eq_true rfl) (Nat.le_refl _) (Nat.le_refl _)) (Nat.le_of_ble_eq_true rfl) ?_
  refine e_if_ne (pc := 6) dX7_cell_6 (t := 12) (by decide) (fun c_6 => ?_) (fun c_6 => ?_)
  · skip
    refine e_aloadn (pc := 12) dX7_cell_12 rfl ?_
    refine e_get (pc := 13) dX7_cell_13 fX7_38 rfl rfl ?_
    refine e_iloadn (pc := 16) dX7_cell_16 rfl ?_
    refine ald_sheetSort (pc := 17) dX7_cell_17 (sh7 hL (mc_b1.mp c_6)) ?_
    refine e_iconst (v := -1) (pc := 18) dX7_cell_18 (by decide) ?_
    refine e_icmp_ne (pc := 19) dX7_cell_19 (t := 25) (by decide) (fun c_19 => ?_) (fun c_19 => ?_)
    · skip
      refine e_iloadn (pc := 25) dX7_cell_25 rfl ?_
      refine e_iconst (v := 0) (pc := 26) dX7_cell_26 (by decide) ?_
      refine e_aloadn (pc := 27) dX7_cell_27 rfl ?_
      refine e_get (pc := 28) dX7_cell_28 fX7_41 rfl rfl ?_
      refine e_iloadn (pc := 31) dX7_cell_31 rfl ?_
      refine ald_sheetSize (pc := 32) dX7_cell_32 (sh8 hL (mc_b1.mp c_6)) ?_
      refine e_iconst (v := 1) (pc := 33) dX7_cell_33 (by decide) ?_
      refine e_isub (pc := 34) dX7_cell_34 ?_
      refine e_csD (pc := 35) (sp_y_in) dX7_cell_35 kX7_75 rfl rfl (mc_CR_of (Nat.le_of_ble_eq_true rfl) (Nat.le_of_ble_eq_true rfl) (Nat.le_refl _) (Nat.le_refl _)) (Nat.le_of_ble_eq_true rfl) ?_
      refine e_if_ne (pc := 38) dX7_cell_38 (t := 44) (by decide) (fun c_38 => ?_) (fun c_38 => ?_)
      · skip
        refine e_aloadn (pc := 44) dX7_cell_44 rfl ?_
        refine e_get (pc := 45) dX7_cell_45 fX7_44 rfl rfl ?_
        refine e_bipush (v := 40) (pc := 48) dX7_cell_48 (by decide) ?_
        refine e_iloadn (pc := 50) dX7_cell_50 rfl ?_
        refine e_imul (pc := 51) dX7_cell_51 ?_
        refine e_iloadn (pc := 52) dX7_cell_52 rfl ?_
        refine e_iadd (pc := 53) dX7_cell_53 ?_
        refine e_aloadn (pc := 54) dX7_cell_54 rfl ?_
        refine e_get (pc := 55) dX7_cell_55 fX7_38 rfl rfl ?_
        refine e_iloadn (pc := 58) dX7_cell_58 rfl ?_
        refine ald_sheetSort (pc := 59) dX7_cell_59 (sh7 hL (mc_b1.mp c_6)) ?_
        refine e_if_ne (pc := 60) dX7_cell_60 (t := 68) (by decide) (fun c_60 => ?_) (fun c_60 => ?_)
        · skip
          refine e_aloadn (pc := 68) dX7_cell_68 rfl ?_
          refine e_get (pc := 69) dX7_cell_69 fX7_38 rfl rfl ?_
          refine e_iloadn (pc := 72) dX7_cell_72 rfl ?_
          refine ald_sheetSort (pc := 73) dX7_cell_73 (sh7 hL (mc_b1.mp c_6)) ?_
          refine e_iconst (v := 1) (pc := 74) dX7_cell_74 (by decide) ?_
          refine e_icmp_ne (pc := 75) dX7_cell_75 (t := 83) (by decide) (fun c_75 => ?_) (fun c_75 => ?_)
          · skip
            refine e_iloadn (pc := 83) dX7_cell_83 rfl ?_
            refine ast_ycells (pc := 84) dX7_cell_84 (cl_in2 hL hS (mc_b1.mp c_6) (mc_b1.mp c_38)) ?_
            refine e_iconst (v := 1) (pc := 85) dX7_cell_85 (by decide) ?_
            exact e_iret (pc := 86) dX7_cell_86 rfl (Nat.le_refl _) (Nat.le_refl _) (have e1 : ycl1 b s0 i = 1 := (by unfold ycl1; rw [if_neg (c := mc_wi s0 0 3 = false) (by simp [mc_b1.mp c_6]), if_neg (c := gt (b 7) s0 = -1) c_19, if_neg (c := mc_wi i 0 (gt (b 8) s0 - 1) = false) (nbf (mc_b1.mp c_38))]); ⟨by rw [e1], by unfold yclb; rw [if_pos e1]; unfold yclv; rw [if_neg (c := gt (b 7) s0 = 0) c_60, if_neg (c := gt (b 7) s0 = 1) c_75]⟩)
          · skip
            refine e_iloadn (pc := 78) dX7_cell_78 rfl ?_
            refine e_i2s (pc := 79) dX7_cell_79 ?_
            refine e_goto (pc := 80) dX7_cell_80 (t := 84) (by decide) ?_
            refine ast_ycells (pc := 84) dX7_cell_84 (cl_in2 hL hS (mc_b1.mp c_6) (mc_b1.mp c_38)) ?_
            refine e_iconst (v := 1) (pc := 85) dX7_cell_85 (by decide) ?_
            exact e_iret (pc := 86) dX7_cell_86 rfl (Nat.le_refl _) (Nat.le_refl _) (have e1 : ycl1 b s0 i = 1 := (by unfold ycl1; rw [if_neg (c := mc_wi s0 0 3 = false) (by simp [mc_b1.mp c_6]), if_neg (c := gt (b 7) s0 = -1) c_19, if_neg (c := mc_wi i 0 (gt (b 8) s0 - 1) = false) (nbf (mc_b1.mp c_38))]); ⟨by rw [e1], by unfold yclb; rw [if_pos e1]; unfold yclv; rw [if_neg (c := gt (b 7) s0 = 0) c_60, if_pos (c := gt (b 7) s0 = 1) c_75]⟩)
        · skip
          refine e_iloadn (pc := 63) dX7_cell_63 rfl ?_
          refine e_i2b (pc := 64) dX7_cell_64 ?_
          refine e_goto (pc := 65) dX7_cell_65 (t := 84) (by decide) ?_
          refine ast_ycells (pc := 84) dX7_cell_84 (cl_in2 hL hS (mc_b1.mp c_6) (mc_b1.mp c_38)) ?_
          refine e_iconst (v := 1) (pc := 85) dX7_cell_85 (by decide) ?_
          exact e_iret (pc := 86) dX7_cell_86 rfl (Nat.le_refl _) (Nat.le_refl _) (have e1 : ycl1 b s0 i = 1 := (by unfold ycl1; rw [if_neg (c := mc_wi s0 0 3 = false) (by simp [mc_b1.mp c_6]), if_neg (c := gt (b 7) s0 = -1) c_19, if_neg (c := mc_wi i 0 (gt (b 8) s0 - 1) = false) (nbf (mc_b1.mp c_38))]); ⟨by rw [e1], by unfold yclb; rw [if_pos e1]; unfold yclv; rw [if_pos (c := gt (b 7) s0 = 0) c_60]⟩)
      · skip
        refine e_bipush (v := -12) (pc := 41) dX7_cell_41 (by decide) ?_
        exact e_iret (pc := 43) dX7_cell_43 rfl (Nat.le_refl _) (Nat.le_refl _) (have e1 : ycl1 b s0 i = -12 := (by unfold ycl1; rw [if_neg (c := mc_wi s0 0 3 = false) (by simp [mc_b1.mp c_6]), if_neg (c := gt (b 7) s0 = -1) c_19, if_pos (c := mc_wi i 0 (gt (b 8) s0 - 1) = false) (mc_b0.mp c_38)]); ⟨by rw [e1], by unfold yclb; rw [e1]; rfl⟩)
    · skip
      refine e_bipush (v := -11) (pc := 22) dX7_cell_22 (by decide) ?_
      exact e_iret (pc := 24) dX7_cell_24 rfl (Nat.le_refl _) (Nat.le_refl _) (have e1 : ycl1 b s0 i = -11 := (by unfold ycl1; rw [if_neg (c := mc_wi s0 0 3 = false) (by simp [mc_b1.mp c_6]), if_pos (c := gt (b 7) s0 = -1) c_19]); ⟨by rw [e1], by unfold yclb; rw [e1]; rfl⟩)
  · skip
    refine e_bipush (v := -2) (pc := 9) dX7_cell_9 (by decide) ?_
    exact e_iret (pc := 11) dX7_cell_11 rfl (Nat.le_refl _) (Nat.le_refl _) (have e1 : ycl1 b s0 i = -2 := (by unfold ycl1; rw [if_pos (c := mc_wi s0 0 3 = false) (mc_b0.mp c_6)]); ⟨by rw [e1], by unfold yclb; rw [e1]; rfl⟩)
/-! what is taken -/
def ytks (b : Nat → List Int32) (i : Int32) : Int32 := 0 + gt (b 2) (6 * (i - 5) + 0) + gt (b 2) (6 * (i - 5) + 1) + gt (b 2) (6 * (i - 5) + 2) + gt (b 2) (6 * (i - 5) + 3) + gt (b 2) (6 * (i - 5) + 4) + gt (b 2) (6 * (i - 5) + 5)
def ytk (m : Nat → Int32) (b : Nat → List Int32) (i k : Int32) : Int32 :=
  if mc_wi k 0 6 = false then -2 else if mc_wi i 0 10 = false then -12
  else if 5 ≤ i then (if ytks b i = 0 then -11 else if k = 6 then ytks b i else -13)
  else if i < m 2 then (if 6 ≤ k then -13 else if yy_un (gt (b 0) i) k = true then i else -13) else -11
theorem tk_in {b : Nat → List Int32} (hL : yL b) {i : Int32} (h : mc_wi i 0 10 = true) (h5 : 5 ≤ i) {g : Int32} (hg : mc_wi g 0 5 = true) : vp_in (6 * (i - 5) + g) (b 2).length := by
  rw [mc_wi_iff] at h hg
  rw [Int32.le_iff_toInt_le] at h5
  have z0 : (0 : Int32).toInt = 0 := rfl
  have z5 : (5 : Int32).toInt = 5 := rfl
  have z10 : (10 : Int32).toInt = 10 := rfl
  rw [z0, z10] at h
  rw [z0, z5] at hg
  rw [z5] at h5
  rw [nI_back (x := i) (by omega), nI_back (x := g) (by omega)]
  have ti := tnc (x := i) (by omega)
  have tg := tnc (x := g) (by omega)
  rw [show nI i.toNatClampNeg - 5 = nI (i.toNatClampNeg - 5) from pk_sub (a := i.toNatClampNeg) (b := 5) (by omega)]
  exact ow_in hL.2.2.1 (by omega) (by omega)
theorem tk_k {b : Nat → List Int32} (hL : yL b) {i : Int32} (h : mc_wi i 0 10 = true) (h5 : ¬ 5 ≤ i) : vp_in i (b 0).length := by
  rw [mc_wi_iff] at h
  rw [Int32.le_iff_toInt_le] at h5
  have z0 : (0 : Int32).toInt = 0 := rfl
  have z5 : (5 : Int32).toInt = 5 := rfl
  rw [z0] at h
  rw [z5] at h5
  rw [vp_in_iff, hL.1]; omega
theorem sp_y_taken {s u m n : Nat → Int32} {a c b d : Nat → List Int32} {q : List (Option Nat)} {h : Nat} {z : mc_W} {i k : Int32} (hL : yL b) : mc_D yX7_taken cX7_taken 5 (some .int) 2 [.ref 29, .int i, .int k] (WW s a q u c h m b n d z) (some (.int (ytk m b i k))) (WW s a q u c h m b n d z) := by
  refine mc_start (own := RX7) (ini := false) rfl (by decide +kernel) (fun h => by cases h) (Nat.le_of_ble_eq_true rfl) ?_
  show mc_E _ _ _ _ _ [some (.ref 29), some (.int i), some (.int k), none, none] [] _ _ _
  refine e_iloadn (pc := 0) dX7_taken_0 rfl ?_
  refine e_iconst (v := 0) (pc := 1) dX7_taken_1 (by decide) ?_
  refine e_bipush (v := 6) (pc := 2) dX7_taken_2 (by decide) ?_
  refine e_csD (pc := 4) (sp_y_in) dX7_taken_4 kX7_75 rfl rfl (mc_CR_of (Nat.le_of_ble_eq_true rfl) (Nat.le_of_ble_eq_true rfl) (Nat.le_refl _) (Nat.le_refl _)) (Nat.le_of_ble_eq_true rfl) ?_
  refine e_if_ne (pc := 7) dX7_taken_7 (t := 13) (by decide) (fun c_7 => ?_) (fun c_7 => ?_)
  · skip
    refine e_iloadn (pc := 13) dX7_taken_13 rfl ?_
    refine e_iconst (v := 0) (pc := 14) dX7_taken_14 (by decide) ?_
    refine e_bipush (v := 10) (pc := 15) dX7_taken_15 (by decide) ?_
    refine e_csD (pc := 17) (sp_y_in) dX7_taken_17 kX7_75 rfl rfl (mc_CR_of (Nat.le_of_ble_eq_true rfl) (Nat.le_of_ble_eq_true rfl) (Nat.le_refl _) (Nat.le_refl _)) (Nat.le_of_ble_eq_true rfl) ?_
    refine e_if_ne (pc := 20) dX7_taken_20 (t := 26) (by decide) (fun c_20 => ?_) (fun c_20 => ?_)
    · skip
      refine e_iloadn (pc := 26) dX7_taken_26 rfl ?_
      refine e_iconst (v := 5) (pc := 27) dX7_taken_27 (by decide) ?_
      refine e_icmp_ge (pc := 28) dX7_taken_28 (t := 70) (by decide) (fun c_28 => ?_) (fun c_28 => ?_)
      · skip
        refine e_iconst (v := 0) (pc := 70) dX7_taken_70 (by decide) ?_
        refine e_isn3 (pc := 71) dX7_taken_71 (Nat.le_of_ble_eq_true rfl) rfl ?_
        refine e_iconst (v := 0) (pc := 72) dX7_taken_72 (by decide) ?_
        refine e_isw4 (pc := 73) dX7_taken_73 (Nat.le_of_ble_eq_true rfl) rfl ?_
        refine e_iload (pc := 75) dX7_taken_75 rfl ?_
        refine e_bipush (v := 6) (pc := 77) dX7_taken_77 (by decide) ?_
        refine e_icmp_ge (pc := 79) dX7_taken_79 (t := 105) (by decide) (fun c_79 => absurd c_79 (by decide)) (fun _ => ?_)
        refine e_iloadn (pc := 82) dX7_taken_82 rfl ?_
        refine e_aloadn (pc := 83) dX7_taken_83 rfl ?_
        refine e_get (pc := 84) dX7_taken_84 fX7_23 rfl rfl ?_
        refine e_bipush (v := 6) (pc := 87) dX7_taken_87 (by decide) ?_
        refine e_iloadn (pc := 89) dX7_taken_89 rfl ?_
        refine e_iconst (v := 5) (pc := 90) dX7_taken_90 (by decide) ?_
        refine e_isub (pc := 91) dX7_taken_91 ?_
        refine e_imul (pc := 92) dX7_taken_92 ?_
        refine e_iload (pc := 93) dX7_taken_93 rfl ?_
        refine e_iadd (pc := 95) dX7_taken_95 ?_
        refine ald_owes (pc := 96) dX7_taken_96 (tk_in hL (mc_b1.mp c_20) c_28 (by decide)) ?_
        refine e_iadd (pc := 97) dX7_taken_97 ?_
        refine e_isn3 (pc := 98) dX7_taken_98 (Nat.le_of_ble_eq_true rfl) rfl ?_
        refine e_incC4 (pc := 99) (v := 1) dX7_taken_99 (by decide) (Nat.le_of_ble_eq_true rfl) rfl ?_
        refine e_goto (pc := 102) dX7_taken_102 (t := 75) (by decide) ?_
        refine e_iload (pc := 75) dX7_taken_75 rfl ?_
        refine e_bipush (v := 6) (pc := 77) dX7_taken_77 (by decide) ?_
        refine e_icmp_ge (pc := 79) dX7_taken_79 (t := 105) (by decide) (fun c_79 => absurd c_79 (by decide)) (fun _ => ?_)
        refine e_iloadn (pc := 82) dX7_taken_82 rfl ?_
        refine e_aloadn (pc := 83) dX7_taken_83 rfl ?_
        refine e_get (pc := 84) dX7_taken_84 fX7_23 rfl rfl ?_
        refine e_bipush (v := 6) (pc := 87) dX7_taken_87 (by decide) ?_
        refine e_iloadn (pc := 89) dX7_taken_89 rfl ?_
        refine e_iconst (v := 5) (pc := 90) dX7_taken_90 (by decide) ?_
        refine e_isub (pc := 91) dX7_taken_91 ?_
        refine e_imul (pc := 92) dX7_taken_92 ?_
        refine e_iload (pc := 93) dX7_taken_93 rfl ?_
        refine e_iadd (pc := 95) dX7_taken_95 ?_
        refine ald_owes (pc := 96) dX7_taken_96 (tk_in hL (mc_b1.mp c_20) c_28 (by decide)) ?_
        refine e_iadd (pc := 97) dX7_taken_97 ?_
        refine e_isn3 (pc := 98) dX7_taken_98 (Nat.le_of_ble_eq_true rfl) rfl ?_
        refine e_incC4 (pc := 99) (v := 2) dX7_taken_99 (by decide) (Nat.le_of_ble_eq_true rfl) rfl ?_
        refine e_goto (pc := 102) dX7_taken_102 (t := 75) (by decide) ?_
        refine e_iload (pc := 75) dX7_taken_75 rfl ?_
        refine e_bipush (v := 6) (pc := 77) dX7_taken_77 (by decide) ?_
        refine e_icmp_ge (pc := 79) dX7_taken_79 (t := 105) (by decide) (fun c_79 => absurd c_79 (by decide)) (fun _ => ?_)
        refine e_iloadn (pc := 82) dX7_taken_82 rfl ?_
        refine e_aloadn (pc := 83) dX7_taken_83 rfl ?_
        refine e_get (pc := 84) dX7_taken_84 fX7_23 rfl rfl ?_
        refine e_bipush (v := 6) (pc := 87) dX7_taken_87 (by decide) ?_
        refine e_iloadn (pc := 89) dX7_taken_89 rfl ?_
        refine e_iconst (v := 5) (pc := 90) dX7_taken_90 (by decide) ?_
        refine e_isub (pc := 91) dX7_taken_91 ?_
        refine e_imul (pc := 92) dX7_taken_92 ?_
        refine e_iload (pc := 93) dX7_taken_93 rfl ?_
        refine e_iadd (pc := 95) dX7_taken_95 ?_
        refine ald_owes (pc := 96) dX7_taken_96 (tk_in hL (mc_b1.mp c_20) c_28 (by decide)) ?_
        refine e_iadd (pc := 97) dX7_taken_97 ?_
        refine e_isn3 (pc := 98) dX7_taken_98 (Nat.le_of_ble_eq_true rfl) rfl ?_
        refine e_incC4 (pc := 99) (v := 3) dX7_taken_99 (by decide) (Nat.le_of_ble_eq_true rfl) rfl ?_
        refine e_goto (pc := 102) dX7_taken_102 (t := 75) (by decide) ?_
        refine e_iload (pc := 75) dX7_taken_75 rfl ?_
        refine e_bipush (v := 6) (pc := 77) dX7_taken_77 (by decide) ?_
        refine e_icmp_ge (pc := 79) dX7_taken_79 (t := 105) (by decide) (fun c_79 => absurd c_79 (by decide)) (fun _ => ?_)
        refine e_iloadn (pc := 82) dX7_taken_82 rfl ?_
        refine e_aloadn (pc := 83) dX7_taken_83 rfl ?_
        refine e_get (pc := 84) dX7_taken_84 fX7_23 rfl rfl ?_
        refine e_bipush (v := 6) (pc := 87) dX7_taken_87 (by decide) ?_
        refine e_iloadn (pc := 89) dX7_taken_89 rfl ?_
        refine e_iconst (v := 5) (pc := 90) dX7_taken_90 (by decide) ?_
        refine e_isub (pc := 91) dX7_taken_91 ?_
        refine e_imul (pc := 92) dX7_taken_92 ?_
        refine e_iload (pc := 93) dX7_taken_93 rfl ?_
        refine e_iadd (pc := 95) dX7_taken_95 ?_
        refine ald_owes (pc := 96) dX7_taken_96 (tk_in hL (mc_b1.mp c_20) c_28 (by decide)) ?_
        refine e_iadd (pc := 97) dX7_taken_97 ?_
        refine e_isn3 (pc := 98) dX7_taken_98 (Nat.le_of_ble_eq_true rfl) rfl ?_
        refine e_incC4 (pc := 99) (v := 4) dX7_taken_99 (by decide) (Nat.le_of_ble_eq_true rfl) rfl ?_
        refine e_goto (pc := 102) dX7_taken_102 (t := 75) (by decide) ?_
        refine e_iload (pc := 75) dX7_taken_75 rfl ?_
        refine e_bipush (v := 6) (pc := 77) dX7_taken_77 (by decide) ?_
        refine e_icmp_ge (pc := 79) dX7_taken_79 (t := 105) (by decide) (fun c_79 => absurd c_79 (by decide)) (fun _ => ?_)
        refine e_iloadn (pc := 82) dX7_taken_82 rfl ?_
        refine e_aloadn (pc := 83) dX7_taken_83 rfl ?_
        refine e_get (pc := 84) dX7_taken_84 fX7_23 rfl rfl ?_
        refine e_bipush (v := 6) (pc := 87) dX7_taken_87 (by decide) ?_
        refine e_iloadn (pc := 89) dX7_taken_89 rfl ?_
        refine e_iconst (v := 5) (pc := 90) dX7_taken_90 (by decide) ?_
        refine e_isub (pc := 91) dX7_taken_91 ?_
        refine e_imul (pc := 92) dX7_taken_92 ?_
        refine e_iload (pc := 93) dX7_taken_93 rfl ?_
        refine e_iadd (pc := 95) dX7_taken_95 ?_
        refine ald_owes (pc := 96) dX7_taken_96 (tk_in hL (mc_b1.mp c_20) c_28 (by decide)) ?_
        refine e_iadd (pc := 97) dX7_taken_97 ?_
        refine e_isn3 (pc := 98) dX7_taken_98 (Nat.le_of_ble_eq_true rfl) rfl ?_
        refine e_incC4 (pc := 99) (v := 5) dX7_taken_99 (by decide) (Nat.le_of_ble_eq_true rfl) rfl ?_
        refine e_goto (pc := 102) dX7_taken_102 (t := 75) (by decide) ?_
        refine e_iload (pc := 75) dX7_taken_75 rfl ?_
        refine e_bipush (v := 6) (pc := 77) dX7_taken_77 (by decide) ?_
        refine e_icmp_ge (pc := 79) dX7_taken_79 (t := 105) (by decide) (fun c_79 => absurd c_79 (by decide)) (fun _ => ?_)
        refine e_iloadn (pc := 82) dX7_taken_82 rfl ?_
        refine e_aloadn (pc := 83) dX7_taken_83 rfl ?_
        refine e_get (pc := 84) dX7_taken_84 fX7_23 rfl rfl ?_
        refine e_bipush (v := 6) (pc := 87) dX7_taken_87 (by decide) ?_
        refine e_iloadn (pc := 89) dX7_taken_89 rfl ?_
        refine e_iconst (v := 5) (pc := 90) dX7_taken_90 (by decide) ?_
        refine e_isub (pc := 91) dX7_taken_91 ?_
        refine e_imul (pc := 92) dX7_taken_92 ?_
        refine e_iload (pc := 93) dX7_taken_93 rfl ?_
        refine e_iadd (pc := 95) dX7_taken_95 ?_
        refine ald_owes (pc := 96) dX7_taken_96 (tk_in hL (mc_b1.mp c_20) c_28 (by decide)) ?_
        refine e_iadd (pc := 97) dX7_taken_97 ?_
        refine e_isn3 (pc := 98) dX7_taken_98 (Nat.le_of_ble_eq_true rfl) rfl ?_
        refine e_incC4 (pc := 99) (v := 6) dX7_taken_99 (by decide) (Nat.le_of_ble_eq_true rfl) rfl ?_
        refine e_goto (pc := 102) dX7_taken_102 (t := 75) (by decide) ?_
        refine e_iload (pc := 75) dX7_taken_75 rfl ?_
        refine e_bipush (v := 6) (pc := 77) dX7_taken_77 (by decide) ?_
        refine e_icmp_ge (pc := 79) dX7_taken_79 (t := 105) (by decide) (fun _ => ?_) (fun c_79 => absurd (by decide) c_79)
        refine e_iloadn (pc := 105) dX7_taken_105 rfl ?_
        refine e_if_ne (pc := 106) dX7_taken_106 (t := 114) (by decide) (fun c_106 => ?_) (fun c_106 => ?_)
        · skip
          refine e_iloadn (pc := 114) dX7_taken_114 rfl ?_
          refine e_bipush (v := 6) (pc := 115) dX7_taken_115 (by decide) ?_
          refine e_icmp_ne (pc := 117) dX7_taken_117 (t := 124) (by decide) (fun c_117 => ?_) (fun c_117 => ?_)
          · skip
            refine e_bipush (v := -13) (pc := 124) dX7_taken_124 (by decide) ?_
            exact e_iret (pc := 126) dX7_taken_126 rfl (Nat.le_refl _) (Nat.le_refl _) ⟨by unfold ytk; rw [if_neg (c := mc_wi k 0 6 = false) (nbf (mc_b1.mp c_7)), if_neg (c := mc_wi i 0 10 = false) (nbf (mc_b1.mp c_20)), if_pos c_28, if_neg (c := ytks b i = 0) c_106, if_neg c_117], rfl⟩
          · skip
            refine e_iloadn (pc := 120) dX7_taken_120 rfl ?_
            refine e_goto (pc := 121) dX7_taken_121 (t := 126) (by decide) ?_
            exact e_iret (pc := 126) dX7_taken_126 rfl (Nat.le_refl _) (Nat.le_refl _) ⟨by unfold ytk; rw [if_neg (c := mc_wi k 0 6 = false) (nbf (mc_b1.mp c_7)), if_neg (c := mc_wi i 0 10 = false) (nbf (mc_b1.mp c_20)), if_pos c_28, if_neg (c := ytks b i = 0) c_106, if_pos c_117]; rfl, rfl⟩
        · skip
          refine e_bipush (v := -11) (pc := 109) dX7_taken_109 (by decide) ?_
          refine e_goto (pc := 111) dX7_taken_111 (t := 126) (by decide) ?_
          exact e_iret (pc := 126) dX7_taken_126 rfl (Nat.le_refl _) (Nat.le_refl _) ⟨by unfold ytk; rw [if_neg (c := mc_wi k 0 6 = false) (nbf (mc_b1.mp c_7)), if_neg (c := mc_wi i 0 10 = false) (nbf (mc_b1.mp c_20)), if_pos c_28, if_pos (c := ytks b i = 0) c_106], rfl⟩
      · skip
        refine e_iloadn (pc := 31) dX7_taken_31 rfl ?_
        refine e_aloadn (pc := 32) dX7_taken_32 rfl ?_
        refine e_get (pc := 33) dX7_taken_33 fX7_72 rfl rfl ?_
        refine e_icmp_lt (pc := 36) dX7_taken_36 (t := 44) (by decide) (fun c_36 => ?_) (fun c_36 => ?_)
        · skip
          refine e_iloadn (pc := 44) dX7_taken_44 rfl ?_
          refine e_bipush (v := 6) (pc := 45) dX7_taken_45 (by decide) ?_
          refine e_icmp_ge (pc := 47) dX7_taken_47 (t := 67) (by decide) (fun c_47 => ?_) (fun c_47 => ?_)
          · skip
            refine e_bipush (v := -13) (pc := 67) dX7_taken_67 (by decide) ?_
            exact e_iret (pc := 69) dX7_taken_69 rfl (Nat.le_refl _) (Nat.le_refl _) ⟨by unfold ytk; rw [if_neg (c := mc_wi k 0 6 = false) (nbf (mc_b1.mp c_7)), if_neg (c := mc_wi i 0 10 = false) (nbf (mc_b1.mp c_20)), if_neg c_28, if_pos c_36, if_pos c_47], rfl⟩
          · skip
            refine e_aloadn (pc := 50) dX7_taken_50 rfl ?_
            refine e_get (pc := 51) dX7_taken_51 fX7_16 rfl rfl ?_
            refine e_iloadn (pc := 54) dX7_taken_54 rfl ?_
            refine ald_kind (pc := 55) dX7_taken_55 (tk_k hL (mc_b1.mp c_20) c_28) ?_
            refine e_iloadn (pc := 56) dX7_taken_56 rfl ?_
            refine e_csD (pc := 57) (sp_y_isUnder) dX7_taken_57 kX7_311 rfl rfl (mc_CR_of (Nat.le_of_ble_eq_true rfl) (Nat.le_of_ble_eq_true rfl) (Nat.le_refl _) (Nat.le_refl _)) (Nat.le_of_ble_eq_true rfl) ?_
            refine e_if_eq (pc := 60) dX7_taken_60 (t := 67) (by decide) (fun c_60 => ?_) (fun c_60 => ?_)
            · skip
              refine e_bipush (v := -13) (pc := 67) dX7_taken_67 (by decide) ?_
              exact e_iret (pc := 69) dX7_taken_69 rfl (Nat.le_refl _) (Nat.le_refl _) ⟨by unfold ytk; rw [if_neg (c := mc_wi k 0 6 = false) (nbf (mc_b1.mp c_7)), if_neg (c := mc_wi i 0 10 = false) (nbf (mc_b1.mp c_20)), if_neg c_28, if_pos c_36, if_neg c_47, if_neg (c := yy_un (gt (b 0) i) k = true) (nbt (mc_b0.mp c_60))], rfl⟩
            · skip
              refine e_iloadn (pc := 63) dX7_taken_63 rfl ?_
              refine e_goto (pc := 64) dX7_taken_64 (t := 69) (by decide) ?_
              exact e_iret (pc := 69) dX7_taken_69 rfl (Nat.le_refl _) (Nat.le_refl _) ⟨by unfold ytk; rw [if_neg (c := mc_wi k 0 6 = false) (nbf (mc_b1.mp c_7)), if_neg (c := mc_wi i 0 10 = false) (nbf (mc_b1.mp c_20)), if_neg c_28, if_pos c_36, if_neg c_47, if_pos (c := yy_un (gt (b 0) i) k = true) (mc_b1.mp c_60)], rfl⟩
        · skip
          refine e_bipush (v := -11) (pc := 39) dX7_taken_39 (by decide) ?_
          refine e_goto (pc := 41) dX7_taken_41 (t := 69) (by decide) ?_
          exact e_iret (pc := 69) dX7_taken_69 rfl (Nat.le_refl _) (Nat.le_refl _) ⟨by unfold ytk; rw [if_neg (c := mc_wi k 0 6 = false) (nbf (mc_b1.mp c_7)), if_neg (c := mc_wi i 0 10 = false) (nbf (mc_b1.mp c_20)), if_neg c_28, if_neg c_36], rfl⟩
    · skip
      refine e_bipush (v := -12) (pc := 23) dX7_taken_23 (by decide) ?_
      exact e_iret (pc := 25) dX7_taken_25 rfl (Nat.le_refl _) (Nat.le_refl _) ⟨by unfold ytk; rw [if_neg (c := mc_wi k 0 6 = false) (nbf (mc_b1.mp c_7)), if_pos (c := mc_wi i 0 10 = false) (mc_b0.mp c_20)], rfl⟩
  · skip
    refine e_bipush (v := -2) (pc := 10) dX7_taken_10 (by decide) ?_
    exact e_iret (pc := 12) dX7_taken_12 rfl (Nat.le_refl _) (Nat.le_refl _) ⟨by unfold ytk; rw [if_pos (c := mc_wi k 0 6 = false) (mc_b0.mp c_7)], rfl⟩
/-! feeding -/
def yfd (x : Nat → Int32) : Nat → Nat → Nat → List Int32 → List Int32
  | 0, _, _, l => l
  | g + 1, i, t, l => yfd x g (i + 1) (t + 1) (l.set t (x i))
theorem yfd_len (x : Nat → Int32) : ∀ g i t l, (yfd x g i t l).length = l.length := by
  intro g
  induction g with
  | zero => intro i t l; rfl
  | succ g ih => intro i t l; unfold yfd; rw [ih, List.length_set]
def yfx (x0 x1 x2 x3 x4 : Int32) (i : Nat) : Int32 := if i = 0 then x0 else if i = 1 then x1 else if i = 2 then x2 else if i = 3 then x3 else x4
def yfe1 (m : Nat → Int32) (k x0 x1 x2 x3 x4 : Int32) : Int32 := if (mc_wi k 1 5 && mc_wi x0 0 255 && mc_wi x1 0 255 && mc_wi x2 0 255 && mc_wi x3 0 255 && mc_wi x4 0 255) = false then -2 else if m 3 + k ≤ 160 then m 3 + k else -4
def yfem (m : Nat → Int32) (k x0 x1 x2 x3 x4 : Int32) : Nat → Int32 := if yfe1 m k x0 x1 x2 x3 x4 < 0 then m else mc_up m 3 (m 3 + k)
def yfeb (m : Nat → Int32) (b : Nat → List Int32) (k x0 x1 x2 x3 x4 : Int32) : Nat → List Int32 := if yfe1 m k x0 x1 x2 x3 x4 < 0 then b else mc_up b 3 (yfd (yfx x0 x1 x2 x3 x4) k.toNatClampNeg 0 (m 3).toNatClampNeg (b 3))
theorem lp_y_feed {s u n : Nat → Int32} {a c d : Nat → List Int32} {q : List (Option Nat)} {h : Nat} {z : mc_W} {M : Nat → Int32} {B : Nat → List Int32} {L : List Int32} {x0 x1 x2 x3 x4 : Int32} {N TT : Nat} (hN : N ≤ 5) (hT : TT ≤ 160) :
    ∀ (g i t : Nat) (l : List Int32) (m : Nat → Int32) (b : Nat → List Int32), m = mc_up M 3 (nI t) → b = mc_up B 3 l → i + g = N → t + g = TT → l.length = 160 → yfd (yfx x0 x1 x2 x3 x4) g i t l = L →
      mc_E RX7 cX7_feed 8 (mc_JM (some .int) false 3 0 0 (fun r' w' => r' = some (.int (nI TT)) ∧ w' = WW s a q u c h (mc_up M 3 (nI TT)) (mc_up B 3 L) n d z)) 68 [some (.ref 29), some (.int (nI N)), some (.int x0), some (.int x1), some (.int x2), some (.int x3), some (.int x4), some (.int (nI i))] [] (WW s a q u c h m b n d z) 0 0 := by
  intro g
  induction g with
  | zero =>
    intro i t l m b hm hb hi ht hl hx
    have e : i = N := by omega
    have e2 : t = TT := by omega
    subst e e2
    have hx : l = L := hx
    subst hx hb hm
    refine e_iload (pc := 68) dX7_feed_68 rfl ?_
    refine e_iloadn (pc := 70) dX7_feed_70 rfl ?_
    refine e_icmp_ge (pc := 71) dX7_feed_71 (t := 142) (by decide) (fun _ => ?_) (fun c_71 => absurd (Int32.le_refl _) c_71)
    refine e_aloadn (pc := 142) dX7_feed_142 rfl ?_
    refine e_get (pc := 143) dX7_feed_143 fX7_65 rfl rfl ?_
    exact e_iret (pc := 146) dX7_feed_146 rfl (Nat.le_refl _) (Nat.le_refl _) ⟨rfl, rfl⟩
  | succ g ih =>
    intro i t l m b hm hb hi ht hl hx
    subst hm hb
    have iv : vp_in (nI t) ((mc_up B 3 l) 3).length := by show vp_in _ l.length; rw [hl]; exact vp_in_nI (by omega) (by decide)
    have tc : (nI t).toNatClampNeg = t := nIc (by omega)
    have et : (mc_up M 3 (nI t)) 3 = nI t := rfl
    simp only [yfd] at hx
    have GO : ∀ v, v = yfx x0 x1 x2 x3 x4 i → mc_E RX7 cX7_feed 8 (mc_JM (some .int) false 3 0 0 (fun r' w' => r' = some (.int (nI TT)) ∧ w' = WW s a q u c h (mc_up M 3 (nI TT)) (mc_up B 3 L) n d z)) 68 [some (.ref 29), some (.int (nI N)), some (.int x0), some (.int x1), some (.int x2), some (.int x3), some (.int x4), some (.int (nI (i + 1)))] [] (WW s a q u c h (mc_up M 3 (nI (t + 1))) (mc_up B 3 (l.set t v)) n d z) 0 0 := by
      intro v hv
      rw [hv]
      exact ih (i + 1) (t + 1) _ _ _ rfl rfl (by omega) (by omega) (by rw [List.length_set]; exact hl) hx
    refine e_iload (pc := 68) dX7_feed_68 rfl ?_
    refine e_iloadn (pc := 70) dX7_feed_70 rfl ?_
    refine e_icmp_ge (pc := 71) dX7_feed_71 (t := 142) (by decide) (fun c_71 => absurd c_71 (nI_ge (by omega : i < N) (by omega))) (fun _ => ?_)
    refine e_aloadn (pc := 74) dX7_feed_74 rfl ?_
    refine e_get (pc := 75) dX7_feed_75 fX7_26 rfl rfl ?_
    refine e_aloadn (pc := 78) dX7_feed_78 rfl ?_
    refine e_get (pc := 79) dX7_feed_79 fX7_65 rfl rfl ?_
    refine e_iload (pc := 82) dX7_feed_82 rfl ?_
    refine e_if_ne (pc := 84) dX7_feed_84 (t := 91) (by decide) (fun c_84 => ?_) (fun c_84 => ?_)
    · skip
      refine e_iload (pc := 91) dX7_feed_91 rfl ?_
      refine e_iconst (v := 1) (pc := 93) dX7_feed_93 (by decide) ?_
      refine e_icmp_ne (pc := 94) dX7_feed_94 (t := 101) (by decide) (fun c_94 => ?_) (fun c_94 => ?_)
      · skip
        refine e_iload (pc := 101) dX7_feed_101 rfl ?_
        refine e_iconst (v := 2) (pc := 103) dX7_feed_103 (by decide) ?_
        refine e_icmp_ne (pc := 104) dX7_feed_104 (t := 112) (by decide) (fun c_104 => ?_) (fun c_104 => ?_)
        · skip
          refine e_iload (pc := 112) dX7_feed_112 rfl ?_
          refine e_iconst (v := 3) (pc := 114) dX7_feed_114 (by decide) ?_
          refine e_icmp_ne (pc := 115) dX7_feed_115 (t := 123) (by decide) (fun c_115 => ?_) (fun c_115 => ?_)
          · skip
            refine e_iload (pc := 123) dX7_feed_123 rfl ?_
            refine ast_ytape (pc := 125) dX7_feed_125 iv ?_
            rw [up_setl, et, tc]
            refine e_aloadn (pc := 126) dX7_feed_126 rfl ?_
            refine e_dup (pc := 127) dX7_feed_127 rfl ?_
            refine e_get (pc := 128) dX7_feed_128 fX7_65 rfl rfl ?_
            refine e_iconst (v := 1) (pc := 131) dX7_feed_131 (by decide) ?_
            refine e_iadd (pc := 132) dX7_feed_132 ?_
            refine e_top ((show (mc_up M 3 (nI t)) 3 + 1 = nI (t + 1) from nI_1 t)) ?_
            refine put_y_taped (pc := 133) dX7_feed_133 pX7_65 ?_
            rw [mc_up_up]
            refine e_incC7 (pc := 136) dX7_feed_136 (nI_1 i) (Nat.le_of_ble_eq_true rfl) rfl ?_
            refine e_goto (pc := 139) dX7_feed_139 (t := 68) (by decide) ?_
            exact GO _ (by unfold yfx; rw [if_neg (fun q => c_84 ((nI_eq (a := i) (b := 0) (by omega) (by decide)).mpr q))]; rw [if_neg (fun q => c_94 ((nI_eq (a := i) (b := 1) (by omega) (by decide)).mpr q))]; rw [if_neg (fun q => c_104 ((nI_eq (a := i) (b := 2) (by omega) (by decide)).mpr q))]; rw [if_neg (fun q => c_115 ((nI_eq (a := i) (b := 3) (by omega) (by decide)).mpr q))])
          · skip
            refine e_iload (pc := 118) dX7_feed_118 rfl ?_
            refine e_goto (pc := 120) dX7_feed_120 (t := 125) (by decide) ?_
            refine ast_ytape (pc := 125) dX7_feed_125 iv ?_
            rw [up_setl, et, tc]
            refine e_aloadn (pc := 126) dX7_feed_126 rfl ?_
            refine e_dup (pc := 127) dX7_feed_127 rfl ?_
            refine e_get (pc := 128) dX7_feed_128 fX7_65 rfl rfl ?_
            refine e_iconst (v := 1) (pc := 131) dX7_feed_131 (by decide) ?_
            refine e_iadd (pc := 132) dX7_feed_132 ?_
            refine e_top ((show (mc_up M 3 (nI t)) 3 + 1 = nI (t + 1) from nI_1 t)) ?_
            refine put_y_taped (pc := 133) dX7_feed_133 pX7_65 ?_
            rw [mc_up_up]
            refine e_incC7 (pc := 136) dX7_feed_136 (nI_1 i) (Nat.le_of_ble_eq_true rfl) rfl ?_
            refine e_goto (pc := 139) dX7_feed_139 (t := 68) (by decide) ?_
            exact GO _ (by unfold yfx; rw [if_neg (fun q => c_84 ((nI_eq (a := i) (b := 0) (by omega) (by decide)).mpr q))]; rw [if_neg (fun q => c_94 ((nI_eq (a := i) (b := 1) (by omega) (by decide)).mpr q))]; rw [if_neg (fun q => c_104 ((nI_eq (a := i) (b := 2) (by omega) (by decide)).mpr q))]; rw [if_pos ((nI_eq (a := i) (b := 3) (by omega) (by decide)).mp c_115)])
        · skip
          refine e_iload (pc := 107) dX7_feed_107 rfl ?_
          refine e_goto (pc := 109) dX7_feed_109 (t := 125) (by decide) ?_
          refine ast_ytape (pc := 125) dX7_feed_125 iv ?_
          rw [up_setl, et, tc]
          refine e_aloadn (pc := 126) dX7_feed_126 rfl ?_
          refine e_dup (pc := 127) dX7_feed_127 rfl ?_
          refine e_get (pc := 128) dX7_feed_128 fX7_65 rfl rfl ?_
          refine e_iconst (v := 1) (pc := 131) dX7_feed_131 (by decide) ?_
          refine e_iadd (pc := 132) dX7_feed_132 ?_
          refine e_top ((show (mc_up M 3 (nI t)) 3 + 1 = nI (t + 1) from nI_1 t)) ?_
          refine put_y_taped (pc := 133) dX7_feed_133 pX7_65 ?_
          rw [mc_up_up]
          refine e_incC7 (pc := 136) dX7_feed_136 (nI_1 i) (Nat.le_of_ble_eq_true rfl) rfl ?_
          refine e_goto (pc := 139) dX7_feed_139 (t := 68) (by decide) ?_
          exact GO _ (by unfold yfx; rw [if_neg (fun q => c_84 ((nI_eq (a := i) (b := 0) (by omega) (by decide)).mpr q))]; rw [if_neg (fun q => c_94 ((nI_eq (a := i) (b := 1) (by omega) (by decide)).mpr q))]; rw [if_pos ((nI_eq (a := i) (b := 2) (by omega) (by decide)).mp c_104)])
      · skip
        refine e_iloadn (pc := 97) dX7_feed_97 rfl ?_
        refine e_goto (pc := 98) dX7_feed_98 (t := 125) (by decide) ?_
        refine ast_ytape (pc := 125) dX7_feed_125 iv ?_
        rw [up_setl, et, tc]
        refine e_aloadn (pc := 126) dX7_feed_126 rfl ?_
        refine e_dup (pc := 127) dX7_feed_127 rfl ?_
        refine e_get (pc := 128) dX7_feed_128 fX7_65 rfl rfl ?_
        refine e_iconst (v := 1) (pc := 131) dX7_feed_131 (by decide) ?_
        refine e_iadd (pc := 132) dX7_feed_132 ?_
        refine e_top ((show (mc_up M 3 (nI t)) 3 + 1 = nI (t + 1) from nI_1 t)) ?_
        refine put_y_taped (pc := 133) dX7_feed_133 pX7_65 ?_
        rw [mc_up_up]
        refine e_incC7 (pc := 136) dX7_feed_136 (nI_1 i) (Nat.le_of_ble_eq_true rfl) rfl ?_
        refine e_goto (pc := 139) dX7_feed_139 (t := 68) (by decide) ?_
        exact GO _ (by unfold yfx; rw [if_neg (fun q => c_84 ((nI_eq (a := i) (b := 0) (by omega) (by decide)).mpr q))]; rw [if_pos ((nI_eq (a := i) (b := 1) (by omega) (by decide)).mp c_94)])
    · skip
      refine e_iloadn (pc := 87) dX7_feed_87 rfl ?_
      refine e_goto (pc := 88) dX7_feed_88 (t := 125) (by decide) ?_
      refine ast_ytape (pc := 125) dX7_feed_125 iv ?_
      rw [up_setl, et, tc]
      refine e_aloadn (pc := 126) dX7_feed_126 rfl ?_
      refine e_dup (pc := 127) dX7_feed_127 rfl ?_
      refine e_get (pc := 128) dX7_feed_128 fX7_65 rfl rfl ?_
      refine e_iconst (v := 1) (pc := 131) dX7_feed_131 (by decide) ?_
      refine e_iadd (pc := 132) dX7_feed_132 ?_
      refine e_top ((show (mc_up M 3 (nI t)) 3 + 1 = nI (t + 1) from nI_1 t)) ?_
      refine put_y_taped (pc := 133) dX7_feed_133 pX7_65 ?_
      rw [mc_up_up]
      refine e_incC7 (pc := 136) dX7_feed_136 (nI_1 i) (Nat.le_of_ble_eq_true rfl) rfl ?_
      refine e_goto (pc := 139) dX7_feed_139 (t := 68) (by decide) ?_
      exact GO _ (by unfold yfx; rw [if_pos ((nI_eq (a := i) (b := 0) (by omega) (by decide)).mp c_84)])
theorem sp_y_feed {s u m n : Nat → Int32} {a c b d : Nat → List Int32} {q : List (Option Nat)} {h : Nat} {z : mc_W} {k x0 x1 x2 x3 x4 : Int32} (hL : yL b) (h3 : 0 ≤ (m 3).toInt) (h3b : (m 3).toInt ≤ 160) : mc_D yX7_feed cX7_feed 8 (some .int) 3 [.ref 29, .int k, .int x0, .int x1, .int x2, .int x3, .int x4] (WW s a q u c h m b n d z) (some (.int (yfe1 m k x0 x1 x2 x3 x4))) (WW s a q u c h (yfem m k x0 x1 x2 x3 x4) (yfeb m b k x0 x1 x2 x3 x4) n d z) := by
  refine mc_start (own := RX7) (ini := false) rfl (by decide +kernel) (fun h => by cases h) (Nat.le_of_ble_eq_true rfl) ?_
  show mc_E _ _ _ _ _ [some (.ref 29), some (.int k), some (.int x0), some (.int x1), some (.int x2), some (.int x3), some (.int x4), none] [] _ _ _
  refine e_iloadn (pc := 0) dX7_feed_0 rfl ?_
  refine e_iconst (v := 1) (pc := 1) dX7_feed_1 (by decide) ?_
  refine e_iconst (v := 5) (pc := 2) dX7_feed_2 (by decide) ?_
  refine e_csD (pc := 3) (sp_y_in) dX7_feed_3 kX7_75 rfl rfl (mc_CR_of (Nat.le_of_ble_eq_true rfl) (Nat.le_of_ble_eq_true rfl) (Nat.le_refl _) (Nat.le_refl _)) (Nat.le_of_ble_eq_true rfl) ?_
  refine e_if_eq (pc := 6) dX7_feed_6 (t := 47) (by decide) (fun c_6 => ?_) (fun c_6 => ?_)
  · skip
    refine e_bipush (v := -2) (pc := 47) dX7_feed_47 (by decide) ?_
    exact e_iret (pc := 49) dX7_feed_49 rfl (Nat.le_refl _) (Nat.le_refl _) (have e0 : yfe1 m k x0 x1 x2 x3 x4 = -2 := (by unfold yfe1; rw [if_pos (by rw [mc_b0.mp c_6]; simp)]); ⟨by rw [e0], by unfold yfem yfeb; rw [e0]; rfl⟩)
  · skip
    refine e_iloadn (pc := 9) dX7_feed_9 rfl ?_
    refine e_csD (pc := 10) (sp_y_isByte) dX7_feed_10 kX7_90 rfl rfl (mc_CR_of (Nat.le_of_ble_eq_true rfl) (Nat.le_of_ble_eq_true rfl) (Nat.le_refl _) (Nat.le_refl _)) (Nat.le_of_ble_eq_true rfl) ?_
    refine e_if_eq (pc := 13) dX7_feed_13 (t := 47) (by decide) (fun c_13 => ?_) (fun c_13 => ?_)
    · skip
      refine e_bipush (v := -2) (pc := 47) dX7_feed_47 (by decide) ?_
      exact e_iret (pc := 49) dX7_feed_49 rfl (Nat.le_refl _) (Nat.le_refl _) (have e0 : yfe1 m k x0 x1 x2 x3 x4 = -2 := (by unfold yfe1; rw [if_pos (by rw [mc_b0.mp c_13]; simp)]); ⟨by rw [e0], by unfold yfem yfeb; rw [e0]; rfl⟩)
    · skip
      refine e_iloadn (pc := 16) dX7_feed_16 rfl ?_
      refine e_csD (pc := 17) (sp_y_isByte) dX7_feed_17 kX7_90 rfl rfl (mc_CR_of (Nat.le_of_ble_eq_true rfl) (Nat.le_of_ble_eq_true rfl) (Nat.le_refl _) (Nat.le_refl _)) (Nat.le_of_ble_eq_true rfl) ?_
      refine e_if_eq (pc := 20) dX7_feed_20 (t := 47) (by decide) (fun c_20 => ?_) (fun c_20 => ?_)
      · skip
        refine e_bipush (v := -2) (pc := 47) dX7_feed_47 (by decide) ?_
        exact e_iret (pc := 49) dX7_feed_49 rfl (Nat.le_refl _) (Nat.le_refl _) (have e0 : yfe1 m k x0 x1 x2 x3 x4 = -2 := (by unfold yfe1; rw [if_pos (by rw [mc_b0.mp c_20]; simp)]); ⟨by rw [e0], by unfold yfem yfeb; rw [e0]; rfl⟩)
      · skip
        refine e_iload (pc := 23) dX7_feed_23 rfl ?_
        refine e_csD (pc := 25) (sp_y_isByte) dX7_feed_25 kX7_90 rfl rfl (mc_CR_of (Nat.le_of_ble_eq_true rfl) (Nat.le_of_ble_eq_true rfl) (Nat.le_refl _) (Nat.le_refl _)) (Nat.le_of_ble_eq_true rfl) ?_
        refine e_if_eq (pc := 28) dX7_feed_28 (t := 47) (by decide) (fun c_28 => ?_) (fun c_28 => ?_)
        · skip
          refine e_bipush (v := -2) (pc := 47) dX7_feed_47 (by decide) ?_
          exact e_iret (pc := 49) dX7_feed_49 rfl (Nat.le_refl _) (Nat.le_refl _) (have e0 : yfe1 m k x0 x1 x2 x3 x4 = -2 := (by unfold yfe1; rw [if_pos (by rw [mc_b0.mp c_28]; simp)]); ⟨by rw [e0], by unfold yfem yfeb; rw [e0]; rfl⟩)
        · skip
          refine e_iload (pc := 31) dX7_feed_31 rfl ?_
          refine e_csD (pc := 33) (sp_y_isByte) dX7_feed_33 kX7_90 rfl rfl (mc_CR_of (Nat.le_of_ble_eq_true rfl) (Nat.le_of_ble_eq_true rfl) (Nat.le_refl _) (Nat.le_refl _)) (Nat.le_of_ble_eq_true rfl) ?_
          refine e_if_eq (pc := 36) dX7_feed_36 (t := 47) (by decide) (fun c_36 => ?_) (fun c_36 => ?_)
          · skip
            refine e_bipush (v := -2) (pc := 47) dX7_feed_47 (by decide) ?_
            exact e_iret (pc := 49) dX7_feed_49 rfl (Nat.le_refl _) (Nat.le_refl _) (have e0 : yfe1 m k x0 x1 x2 x3 x4 = -2 := (by unfold yfe1; rw [if_pos (by rw [mc_b0.mp c_36]; simp)]); ⟨by rw [e0], by unfold yfem yfeb; rw [e0]; rfl⟩)
          · skip
            refine e_iload (pc := 39) dX7_feed_39 rfl ?_
            refine e_csD (pc := 41) (sp_y_isByte) dX7_feed_41 kX7_90 rfl rfl (mc_CR_of (Nat.le_of_ble_eq_true rfl) (Nat.le_of_ble_eq_true rfl) (Nat.le_refl _) (Nat.le_refl _)) (Nat.le_of_ble_eq_true rfl) ?_
            refine e_if_ne (pc := 44) dX7_feed_44 (t := 50) (by decide) (fun c_44 => ?_) (fun c_44 => ?_)
            · skip
              refine e_aloadn (pc := 50) dX7_feed_50 rfl ?_
              refine e_get (pc := 51) dX7_feed_51 fX7_65 rfl rfl ?_
              have q6 : mc_wi k 1 5 = true := by simpa [mc_b0] using c_6
              have q13 : mc_wi x0 0 255 = true := by simpa [mc_b0] using c_13
              have q20 : mc_wi x1 0 255 = true := by simpa [mc_b0] using c_20
              have q28 : mc_wi x2 0 255 = true := by simpa [mc_b0] using c_28
              have q36 : mc_wi x3 0 255 = true := by simpa [mc_b0] using c_36
              have q44 : mc_wi x4 0 255 = true := by simpa [mc_b0] using c_44
              refine e_iloadn (pc := 54) dX7_feed_54 rfl ?_
              refine e_iadd (pc := 55) dX7_feed_55 ?_
              refine e_sipush (v := 160) (pc := 56) dX7_feed_56 (by decide) ?_
              refine e_icmp_le (pc := 59) dX7_feed_59 (t := 65) (by decide) (fun c_59 => ?_) (fun c_59 => ?_)
              · skip
                refine e_iconst (v := 0) (pc := 65) dX7_feed_65 (by decide) ?_
                refine e_isw7 (pc := 66) dX7_feed_66 (Nat.le_of_ble_eq_true rfl) rfl ?_
                have e0 : yfe1 m k x0 x1 x2 x3 x4 = m 3 + k := by unfold yfe1; rw [if_neg (by simp [q6, q13, q20, q28, q36, q44]), if_pos c_59]
                have hk := mc_wi_iff.mp q6
                have z1 : (1 : Int32).toInt = 1 := rfl
                have z5 : (5 : Int32).toInt = 5 := rfl
                have z0 : (0 : Int32).toInt = 0 := rfl
                have z160 : (160 : Int32).toInt = 160 := rfl
                rw [z1, z5] at hk
                have ek := nI_back (x := k) (by omega)
                have tk := tnc (x := k) (by omega)
                have e3 := nI_back h3
                have t3 := tnc h3
                have es : m 3 + k = nI ((m 3).toNatClampNeg + k.toNatClampNeg) := by rw [← nI_add, ← ek, ← e3]
                have c59 := c_59
                rw [Int32.le_iff_toInt_le, es, nI_toInt (by omega), z160] at c59
                have en : ¬ m 3 + k < 0 := by rw [Int32.lt_iff_toInt_lt, es, nI_toInt (by omega), z0]; omega
                have K := lp_y_feed (s := s) (a := a) (q := q) (u := u) (c := c) (h := h) (z := z) (n := n) (d := d) (x0 := x0) (x1 := x1) (x2 := x2) (x3 := x3) (x4 := x4) (N := k.toNatClampNeg) (TT := (m 3).toNatClampNeg + k.toNatClampNeg) (by omega) (by omega) k.toNatClampNeg 0 (m 3).toNatClampNeg (b 3) m b (by rw [← e3, mc_up_self]) (mc_up_self b 3).symm (by omega) rfl hL.2.2.2.1 rfl
                rw [← ek, ← es] at K
                have em : yfem m k x0 x1 x2 x3 x4 = mc_up m 3 (m 3 + k) := by unfold yfem; rw [e0, if_neg en]
                have eb : yfeb m b k x0 x1 x2 x3 x4 = mc_up b 3 (yfd (yfx x0 x1 x2 x3 x4) k.toNatClampNeg 0 (m 3).toNatClampNeg (b 3)) := by unfold yfeb; rw [e0, if_neg en]
                rw [e0, em, eb]
                exact K
              · skip
                refine e_bipush (v := -4) (pc := 62) dX7_feed_62 (by decide) ?_
                exact e_iret (pc := 64) dX7_feed_64 rfl (Nat.le_refl _) (Nat.le_refl _) (have e0 : yfe1 m k x0 x1 x2 x3 x4 = -4 := (by unfold yfe1; rw [if_neg (by simp [q6, q13, q20, q28, q36, mc_b1.mp c_44]), if_neg c_59]); ⟨by rw [e0], by unfold yfem yfeb; rw [e0]; rfl⟩)
            · skip
              refine e_bipush (v := -2) (pc := 47) dX7_feed_47 (by decide) ?_
              exact e_iret (pc := 49) dX7_feed_49 rfl (Nat.le_refl _) (Nat.le_refl _) (have e0 : yfe1 m k x0 x1 x2 x3 x4 = -2 := (by unfold yfe1; rw [if_pos (by rw [mc_b0.mp c_44]; simp)]); ⟨by rw [e0], by unfold yfem yfeb; rw [e0]; rfl⟩)
end Zj_33_y14
section Zj_34_y15
/-! lots -/
/-- what is written with slips: the lots run on from lot -/
def ysl (m : Nat → Int32) (b : Nat → List Int32) (k x : Int32) : Nat → Nat → Int64 → List Int32 → List Int32
  | 0, _, _, xs => xs
  | f + 1, i, lot, xs => if (lot * 48271 - lot * 48271 / 2147483647 * 2147483647) - (lot * 48271 - lot * 48271 / 2147483647 * 2147483647) / 100 * 100 < x.toInt64
      then ysl m b k x f (i + 1) (lot * 48271 - lot * 48271 / 2147483647 * 2147483647) (xs.set i (ysd (yfg m b k) (xs.getD i 0)))
      else ysl m b k x f (i + 1) (lot * 48271 - lot * 48271 / 2147483647 * 2147483647) (xs.set i (xs.getD i 0))
theorem ysl_len (m : Nat → Int32) (b : Nat → List Int32) (k x : Int32) : ∀ f i lot xs, (ysl m b k x f i lot xs).length = xs.length := by
  intro f
  induction f with
  | zero => intro i lot xs; rfl
  | succ f ih => intro i lot xs; unfold ysl; split <;> rw [ih, List.length_set]
def ysb (m : Nat → Int32) (b : Nat → List Int32) (sd k v : Int32) : Int64 := yself m b k (ysl m b k (yask m b 1 k v 0) (ywr m b k v).length 0 (sd.toInt64 + 1) (ywr m b k v))
theorem lp_y_slipsBy {s u m n : Nat → Int32} {a c b : Nat → List Int32} {q : List (Option Nat)} {h : Nat} {z : mc_W} {k0 v sd x : Int32} {L xs0 : List Int32} (hG : yG m b) (hc : mc_wi k0 0 (m 2 - 1) = true) (hx : xs0.length ≤ 17) :
    ∀ (f i : Nat) (lot : Int64) (xs : List Int32) (d : Nat → List Int32), i + f = xs0.length → xs.length = xs0.length → yF xs n d → ysl m b k0 x f i lot xs = L →
      mc_E RX7 cX7_slipsBy 8 (mc_JM (some .long) false 6 0 0 (fun r' w' => r' = some (.long (yself m b k0 L)) ∧ ∃ n1 d1, yD d1 ∧ w' = WW s a q u c h m b n1 d1 z)) 25 [some (.ref 29), some (.int sd), some (.int k0), some (.int v), some (.long lot), none, some (.int x), some (.int (nI i))] [] (WW s a q u c h m b n d z) 0 0 := by
  intro f
  induction f with
  | zero =>
    intro i lot xs d hi hl hF hV
    have hV : xs = L := hV
    subst hV
    refine e_iload (pc := 25) dX7_slipsBy_25 rfl ?_
    refine e_aloadn (pc := 27) dX7_slipsBy_27 rfl ?_
    refine e_get (pc := 28) dX7_slipsBy_28 fX7_175 rfl rfl ?_
    refine e_icmp_ge (pc := 31) dX7_slipsBy_31 (t := 94) (by decide) (fun _ => ?_) (fun c_31 => absurd (by rw [hF.2.1, hl]; exact nI_le (by omega) (by omega)) c_31)
    refine e_aloadn (pc := 94) dX7_slipsBy_94 rfl ?_
    refine e_aloadn (pc := 95) dX7_slipsBy_95 rfl ?_
    refine e_iloadn (pc := 96) dX7_slipsBy_96 rfl ?_
    refine e_cvD (pc := 97) (sp_y_figuresOf (hG.k0 hc) (hG.k1 hc)) dX7_slipsBy_97 kX7_169 rfl rfl rfl rfl rfl (mc_CR_of (Nat.le_of_ble_eq_true rfl) (Nat.le_of_ble_eq_true rfl) (Nat.le_refl _) (Nat.le_refl _)) (Nat.le_of_ble_eq_true rfl) ?_
    refine e_aloadn (pc := 100) dX7_slipsBy_100 rfl ?_
    refine e_iloadn (pc := 101) dX7_slipsBy_101 rfl ?_
    refine e_cvD (pc := 102) (sp_y_isTurned (hG.k0 hc)) dX7_slipsBy_102 kX7_172 rfl rfl rfl rfl rfl (mc_CR_of (Nat.le_of_ble_eq_true rfl) (Nat.le_of_ble_eq_true rfl) (Nat.le_refl _) (Nat.le_refl _)) (Nat.le_of_ble_eq_true rfl) ?_
    refine e_cvD (pc := 105) (sp_y_readsBy hF (by omega)) dX7_slipsBy_105 kX7_194 rfl rfl rfl rfl rfl (mc_CR_of (Nat.le_of_ble_eq_true rfl) (Nat.le_of_ble_eq_true rfl) (Nat.le_refl _) (Nat.le_refl _)) (Nat.le_of_ble_eq_true rfl) ?_
    exact e_lret (pc := 108) dX7_slipsBy_108 rfl (Nat.le_refl _) (Nat.le_refl _) ⟨rfl, n, d, hF.1, rfl⟩
  | succ f ih =>
    intro i lot xs d hi hl hF hV
    simp only [ysl] at hV
    have hix : i < xs.length := by omega
    have iv : vp_in (nI i) (d 3).length := by rw [hF.1.2.2.2]; exact vp_in_nI (by omega) (by decide)
    have ex : (d 3).getD (nI i).toNatClampNeg 0 = xs.getD i 0 := by rw [nIc (by omega)]; exact tk_get hF.2.2 hix
    have tc : (nI i).toNatClampNeg = i := nIc (by omega)
    refine e_iload (pc := 25) dX7_slipsBy_25 rfl ?_
    refine e_aloadn (pc := 27) dX7_slipsBy_27 rfl ?_
    refine e_get (pc := 28) dX7_slipsBy_28 fX7_175 rfl rfl ?_
    refine e_icmp_ge (pc := 31) dX7_slipsBy_31 (t := 94) (by decide) (fun c_31 => absurd c_31 (by rw [hF.2.1, hl]; exact nI_ge (by omega) (by omega))) (fun _ => ?_)
    refine e_lload (pc := 34) dX7_slipsBy_34 rfl ?_
    refine e_ldc2 (pc := 36) dX7_slipsBy_36 qX7_281 ?_
    refine e_lmul (pc := 39) dX7_slipsBy_39 ?_
    refine e_ldc2 (pc := 40) dX7_slipsBy_40 qX7_278 ?_
    refine e_lrem (pc := 43) dX7_slipsBy_43 (by decide) ?_
    refine e_lsw4 (pc := 44) dX7_slipsBy_44 (Nat.le_of_ble_eq_true rfl) rfl ?_
    refine e_aloadn (pc := 46) dX7_slipsBy_46 rfl ?_
    refine e_get (pc := 47) dX7_slipsBy_47 fX7_62 rfl rfl ?_
    refine e_iload (pc := 50) dX7_slipsBy_50 rfl ?_
    refine e_lload (pc := 52) dX7_slipsBy_52 rfl ?_
    refine e_ldc2 (pc := 54) dX7_slipsBy_54 qX7_235 ?_
    refine e_lrem (pc := 57) dX7_slipsBy_57 (by decide) ?_
    refine e_iload (pc := 58) dX7_slipsBy_58 rfl ?_
    refine e_i2l (pc := 60) dX7_slipsBy_60 ?_
    refine e_lcmp (pc := 61) dX7_slipsBy_61 ?_
    refine e_if_ge (pc := 62) dX7_slipsBy_62 (t := 80) (by decide) (fun c_62 => ?_) (fun c_62 => ?_)
    · skip
      refine e_aloadn (pc := 80) dX7_slipsBy_80 rfl ?_
      refine e_get (pc := 81) dX7_slipsBy_81 fX7_62 rfl rfl ?_
      refine e_iload (pc := 84) dX7_slipsBy_84 rfl ?_
      refine aldv_figures (pc := 86) dX7_slipsBy_86 iv ex ?_
      refine ast_figures (pc := 87) dX7_slipsBy_87 iv ?_
      rw [tc]
      refine e_incC7 (pc := 88) dX7_slipsBy_88 (nI_1 i) (Nat.le_of_ble_eq_true rfl) rfl ?_
      refine e_goto (pc := 91) dX7_slipsBy_91 (t := 25) (by decide) ?_
      exact ih (i + 1) _ _ _ (by omega) (by rw [List.length_set]; exact hl) (yF_set hF (by omega) i hix _) (by rw [← hV, if_neg (mc_cnl_of c_62)])
    · skip
      refine e_aloadn (pc := 65) dX7_slipsBy_65 rfl ?_
      refine e_iloadn (pc := 66) dX7_slipsBy_66 rfl ?_
      refine e_aloadn (pc := 67) dX7_slipsBy_67 rfl ?_
      refine e_get (pc := 68) dX7_slipsBy_68 fX7_62 rfl rfl ?_
      refine e_iload (pc := 71) dX7_slipsBy_71 rfl ?_
      refine aldv_figures (pc := 73) dX7_slipsBy_73 iv ex ?_
      refine e_cvD (pc := 74) (sp_y_slipped (hG.k0 hc) (hG.k1 hc)) dX7_slipsBy_74 kX7_230 rfl rfl rfl rfl rfl (mc_CR_of (Nat.le_of_ble_eq_true rfl) (Nat.le_of_ble_eq_true rfl) (Nat.le_refl _) (Nat.le_refl _)) (Nat.le_of_ble_eq_true rfl) ?_
      refine e_goto (pc := 77) dX7_slipsBy_77 (t := 87) (by decide) ?_
      refine ast_figures (pc := 87) dX7_slipsBy_87 iv ?_
      rw [tc]
      refine e_incC7 (pc := 88) dX7_slipsBy_88 (nI_1 i) (Nat.le_of_ble_eq_true rfl) rfl ?_
      refine e_goto (pc := 91) dX7_slipsBy_91 (t := 25) (by decide) ?_
      exact ih (i + 1) _ _ _ (by omega) (by rw [List.length_set]; exact hl) (yF_set hF (by omega) i hix _) (by rw [← hV, if_pos (mc_clt_of c_62)])
theorem sp_y_slipsBy {s u m n : Nat → Int32} {a c b d : Nat → List Int32} {q : List (Option Nat)} {h : Nat} {z : mc_W} {sd k v : Int32} (hG : yG m b) (hk : mc_wi k 0 (m 2 - 1) = true) (hv : mc_wi v 0 99999 = true) (hD : yD d) : mc_T yX7_slipsBy cX7_slipsBy 8 (some .long) 6 [.ref 29, .int sd, .int k, .int v] (WW s a q u c h m b n d z) (some (.long (ysb m b sd k v))) (fun w' => ∃ n1 d1, yD d1 ∧ w' = WW s a q u c h m b n1 d1 z) := by
  refine mc_start (own := RX7) (ini := false) rfl (by decide +kernel) (fun h => by cases h) (Nat.le_of_ble_eq_true rfl) ?_
  show mc_E _ _ _ _ _ [some (.ref 29), some (.int sd), some (.int k), some (.int v), none, none, none, none] [] _ _ _
  refine e_iloadn (pc := 0) dX7_slipsBy_0 rfl ?_
  refine e_i2l (pc := 1) dX7_slipsBy_1 ?_
  refine e_lconst (v := 1) (pc := 2) dX7_slipsBy_2 (by decide) ?_
  refine e_ladd (pc := 3) dX7_slipsBy_3 ?_
  refine e_lsw4 (pc := 4) dX7_slipsBy_4 (Nat.le_of_ble_eq_true rfl) rfl ?_
  refine e_aloadn (pc := 6) dX7_slipsBy_6 rfl ?_
  refine e_iconst (v := 1) (pc := 7) dX7_slipsBy_7 (by decide) ?_
  refine e_iloadn (pc := 8) dX7_slipsBy_8 rfl ?_
  refine e_iloadn (pc := 9) dX7_slipsBy_9 rfl ?_
  refine e_iconst (v := 0) (pc := 10) dX7_slipsBy_10 (by decide) ?_
  refine e_cvX (pc := 11) (sp_y_asksOf (p := 1) hG.1 hG.V (by decide) rfl (hG.k1 hk) hD) dX7_slipsBy_11 kX7_165 rfl rfl rfl rfl rfl (mc_CR_of (Nat.le_of_ble_eq_true rfl) (Nat.le_of_ble_eq_true rfl) (Nat.le_refl _) (Nat.le_refl _)) (Nat.le_of_ble_eq_true rfl) (fun w1 hw1 => ?_)
  obtain ⟨d0, hD0, g3, rfl⟩ := hw1
  refine e_isw6 (pc := 14) dX7_slipsBy_14 (Nat.le_of_ble_eq_true rfl) rfl ?_
  refine e_aloadn (pc := 16) dX7_slipsBy_16 rfl ?_
  refine e_iloadn (pc := 17) dX7_slipsBy_17 rfl ?_
  refine e_iloadn (pc := 18) dX7_slipsBy_18 rfl ?_
  refine e_cvY (pc := 19) (sp_y_writes hG.1 hG.V (hG.k0 hk) (hG.k1 hk) (hG.fg _) (hG.mk _ _ hv) hD0) dX7_slipsBy_19 kX7_186 rfl rfl rfl rfl rfl (mc_CR_of (Nat.le_of_ble_eq_true rfl) (Nat.le_of_ble_eq_true rfl) (Nat.le_refl _) (Nat.le_refl _)) (Nat.le_of_ble_eq_true rfl) (fun w1 hw1 => ?_)
  obtain ⟨n1, d1, hF1, rfl⟩ := hw1
  refine e_iconst (v := 0) (pc := 22) dX7_slipsBy_22 (by decide) ?_
  refine e_isw7 (pc := 23) dX7_slipsBy_23 (Nat.le_of_ble_eq_true rfl) rfl ?_
  exact lp_y_slipsBy hG hk (ywr_len m b k v) (ywr m b k v).length 0 _ (ywr m b k v) d1 (by omega) rfl hF1 rfl
def ydrawn (m : Nat → Int32) (b : Nat → List Int32) (sd k v : Int32) : Int64 := if mc_wi k 0 (m 2 - 1) = false then -5 else if (mc_wi sd 0 99999 && mc_wi v 0 99999) = false then -7 else ysb m b sd k v
end Zj_34_y15
section Zj_35_y16
theorem sp_y_drawn {s u m n : Nat → Int32} {a c b d : Nat → List Int32} {q : List (Option Nat)} {h : Nat} {z : mc_W} {sd k v : Int32} (hG : yG m b) (hD : yD d) : mc_T yX7_drawn cX7_drawn 4 (some .long) 7 [.ref 29, .int sd, .int k, .int v] (WW s a q u c h m b n d z) (some (.long (ydrawn m b sd k v))) (fun w' => ∃ n1 d1, yD d1 ∧ w' = WW s a q u c h m b n1 d1 z) := by
  refine mc_start (own := RX7) (ini := false) rfl (by decide +kernel) (fun h => by cases h) (Nat.le_of_ble_eq_true rfl) ?_
  show mc_E _ _ _ _ _ [some (.ref 29), some (.int sd), some (.int k), some (.int v)] [] _ _ _
  refine e_aloadn (pc := 0) dX7_drawn_0 rfl ?_
  refine e_iloadn (pc := 1) dX7_drawn_1 rfl ?_
  refine e_cvD (pc := 2) (sp_y_isClerk) dX7_drawn_2 kX7_159 rfl rfl rfl rfl rfl (mc_CR_of (Nat.le_of_ble_eq_true rfl) (Nat.le_of_ble_eq_true rfl) (Nat.le_refl _) (Nat.le_refl _)) (Nat.le_of_ble_eq_true rfl) ?_
  refine e_if_ne (pc := 5) dX7_drawn_5 (t := 12) (by decide) (fun c_5 => ?_) (fun c_5 => ?_)
  · skip
    refine e_iloadn (pc := 12) dX7_drawn_12 rfl ?_
    refine e_iconst (v := 0) (pc := 13) dX7_drawn_13 (by decide) ?_
    refine e_ldc (pc := 14) dX7_drawn_14 qX7_79 ?_
    refine e_csD (pc := 16) (sp_y_in) dX7_drawn_16 kX7_75 rfl rfl (mc_CR_of (Nat.le_of_ble_eq_true rfl) (Nat.le_of_ble_eq_true rfl) (Nat.le_refl _) (Nat.le_refl _)) (Nat.le_of_ble_eq_true rfl) ?_
    refine e_if_eq (pc := 19) dX7_drawn_19 (t := 39) (by decide) (fun c_19 => ?_) (fun c_19 => ?_)
    · skip
      refine e_ldc2 (pc := 39) dX7_drawn_39 qX7_192 ?_
      exact e_lret (pc := 42) dX7_drawn_42 rfl (Nat.le_refl _) (Nat.le_refl _) ⟨(by (try simp only [mc_cmp_le, mc_cmp_ge, mc_cmp_eq, mc_cmp_lt, mc_cmp_gt, mc_b0, mc_b1, Bool.not_eq_false, Bool.not_eq_true] at c_5 c_19); first | rfl | (simp [ydrawn, c_5, c_19]; done) | ((try simp only [← Int32.not_lt, ← Int64.not_lt, Classical.not_not] at c_5 c_19); simp [ydrawn, c_5, c_19])), by first | exact ⟨n1, d1, hD1, rfl⟩ | exact ⟨n, d, hD, rfl⟩⟩
    · skip
      refine e_iloadn (pc := 22) dX7_drawn_22 rfl ?_
      refine e_csD (pc := 23) (sp_y_isNumber) dX7_drawn_23 kX7_162 rfl rfl (mc_CR_of (Nat.le_of_ble_eq_true rfl) (Nat.le_of_ble_eq_true rfl) (Nat.le_refl _) (Nat.le_refl _)) (Nat.le_of_ble_eq_true rfl) ?_
      refine e_if_eq (pc := 26) dX7_drawn_26 (t := 39) (by decide) (fun c_26 => ?_) (fun c_26 => ?_)
      · skip
        refine e_ldc2 (pc := 39) dX7_drawn_39 qX7_192 ?_
        exact e_lret (pc := 42) dX7_drawn_42 rfl (Nat.le_refl _) (Nat.le_refl _) ⟨(by (try simp only [mc_cmp_le, mc_cmp_ge, mc_cmp_eq, mc_cmp_lt, mc_cmp_gt, mc_b0, mc_b1, Bool.not_eq_false, Bool.not_eq_true] at c_5 c_19 c_26); first | rfl | (simp [ydrawn, c_5, c_19, c_26]; done) | ((try simp only [← Int32.not_lt, ← Int64.not_lt, Classical.not_not] at c_5 c_19 c_26); simp [ydrawn, c_5, c_19, c_26])), by first | exact ⟨n1, d1, hD1, rfl⟩ | exact ⟨n, d, hD, rfl⟩⟩
      · skip
        refine e_aloadn (pc := 29) dX7_drawn_29 rfl ?_
        refine e_iloadn (pc := 30) dX7_drawn_30 rfl ?_
        refine e_iloadn (pc := 31) dX7_drawn_31 rfl ?_
        refine e_iloadn (pc := 32) dX7_drawn_32 rfl ?_
        refine e_cvX (pc := 33) (sp_y_slipsBy hG (mc_b1.mp c_5) (by simpa [mc_b0] using c_26) hD) dX7_drawn_33 kX7_283 rfl rfl rfl rfl rfl (mc_CR_of (Nat.le_of_ble_eq_true rfl) (Nat.le_of_ble_eq_true rfl) (Nat.le_refl _) (Nat.le_refl _)) (Nat.le_of_ble_eq_true rfl) (fun w1 hw1 => ?_)
        obtain ⟨n1, d1, hD1, rfl⟩ := hw1
        refine e_goto (pc := 36) dX7_drawn_36 (t := 42) (by decide) ?_
        exact e_lret (pc := 42) dX7_drawn_42 rfl (Nat.le_refl _) (Nat.le_refl _) ⟨(by (try simp only [mc_cmp_le, mc_cmp_ge, mc_cmp_eq, mc_cmp_lt, mc_cmp_gt, mc_b0, mc_b1, Bool.not_eq_false, Bool.not_eq_true] at c_5 c_19 c_26); first | rfl | (simp [ydrawn, c_5, c_19, c_26]; done) | ((try simp only [← Int32.not_lt, ← Int64.not_lt, Classical.not_not] at c_5 c_19 c_26); simp [ydrawn, c_5, c_19, c_26])), by first | exact ⟨n1, d1, hD1, rfl⟩ | exact ⟨n, d, hD, rfl⟩⟩
  · skip
    refine e_ldc2 (pc := 8) dX7_drawn_8 qX7_190 ?_
    exact e_lret (pc := 11) dX7_drawn_11 rfl (Nat.le_refl _) (Nat.le_refl _) ⟨(by (try simp only [mc_cmp_le, mc_cmp_ge, mc_cmp_eq, mc_cmp_lt, mc_cmp_gt, mc_b0, mc_b1, Bool.not_eq_false, Bool.not_eq_true] at c_5); first | rfl | (simp [ydrawn, c_5]; done) | ((try simp only [← Int32.not_lt, ← Int64.not_lt, Classical.not_not] at c_5); simp [ydrawn, c_5])), by first | exact ⟨n1, d1, hD1, rfl⟩ | exact ⟨n, d, hD, rfl⟩⟩
/-! odds -/
theorem nl_rem : ∀ A, A < 61 → ∀ B, B < 61 → B ≠ 0 → Int64.ofNat A - Int64.ofNat A / Int64.ofNat B * Int64.ofNat B = Int64.ofNat (A % B) := by decide +kernel
theorem nl_0 : ∀ A, A < 61 → (Int64.ofNat A = 0 ↔ A = 0) := by decide +kernel
theorem nl_s : ∀ A, A < 61 → Int64.ofNat A + 1 = Int64.ofNat (A + 1) := by decide +kernel
theorem nl_i : ∀ A, A < 61 → (nI A).toInt64 = Int64.ofNat A := by decide +kernel
def ylow (x y : Nat) (p : Int32) : Int64 := if x = 0 then p.toInt64 else (if p = 0 then Int64.ofNat x else Int64.ofNat y) / Int64.ofNat (Nat.gcd x y)
theorem lp_y_low {w : mc_W} {x y : Nat} {p : Int32} (hx : x < 61) (hy : y < 61) (hx0 : x ≠ 0) :
    ∀ (f e r : Nat) (x9 : Option Value), r ≤ f → e < 61 → r < 61 → Nat.gcd e r = Nat.gcd x y →
      mc_E RX7 cX7_lowest 11 (mc_JM (some .long) false 1 0 0 (fun r' w' => r' = some (.long ((if p = 0 then Int64.ofNat x else Int64.ofNat y) / Int64.ofNat (Nat.gcd x y))) ∧ w' = w)) 16 [some (.long (Int64.ofNat x)), none, some (.long (Int64.ofNat y)), none, some (.int p), some (.long (Int64.ofNat e)), none, some (.long (Int64.ofNat r)), none, x9, none] [] w 0 0 := by
  have g0 : ¬ Int64.ofNat (Nat.gcd x y) = 0 := fun q => by
    have := (nl_0 _ (Nat.lt_of_le_of_lt (Nat.gcd_le_left y (Nat.pos_of_ne_zero hx0)) hx)).mp q
    exact hx0 (Nat.eq_zero_of_gcd_eq_zero_left this)
  intro f
  induction f with
  | zero =>
    intro e r x9 hr he hr6 hg
    have r0 : r = 0 := by omega
    subst r0
    rw [Nat.gcd_zero_right] at hg
    subst hg
    refine e_lload (pc := 16) dX7_lowest_16 rfl ?_
    refine e_lconst (v := 0) (pc := 18) dX7_lowest_18 (by decide) ?_
    refine e_lcmp (pc := 19) dX7_lowest_19 ?_
    refine e_if_eq (pc := 20) dX7_lowest_20 (t := 41) (by decide) (fun _ => ?_) (fun c_20 => absurd (by decide) c_20)
    refine e_iload (pc := 41) dX7_lowest_41 rfl ?_
    refine e_if_ne (pc := 43) dX7_lowest_43 (t := 50) (by decide) (fun c_43 => ?_) (fun c_43 => ?_)
    · skip
      refine e_lloadn (pc := 50) dX7_lowest_50 rfl ?_
      refine e_lload (pc := 51) dX7_lowest_51 rfl ?_
      refine e_ldiv (pc := 53) dX7_lowest_53 g0 ?_
      exact e_lret (pc := 54) dX7_lowest_54 rfl (Nat.le_refl _) (Nat.le_refl _) ⟨by rw [if_neg c_43], rfl⟩
    · skip
      refine e_lloadn (pc := 46) dX7_lowest_46 rfl ?_
      refine e_goto (pc := 47) dX7_lowest_47 (t := 51) (by decide) ?_
      refine e_lload (pc := 51) dX7_lowest_51 rfl ?_
      refine e_ldiv (pc := 53) dX7_lowest_53 g0 ?_
      exact e_lret (pc := 54) dX7_lowest_54 rfl (Nat.le_refl _) (Nat.le_refl _) ⟨by rw [if_pos c_43], rfl⟩
  | succ f ih =>
    intro e r x9 hr he hr6 hg
    by_cases r0 : r = 0
    · exact ih e r x9 (by omega) he hr6 hg
    have rz : ¬ Int64.ofNat r = 0 := fun q => r0 ((nl_0 r hr6).mp q)
    have lt := Nat.mod_lt e (Nat.pos_of_ne_zero r0)
    refine e_lload (pc := 16) dX7_lowest_16 rfl ?_
    refine e_lconst (v := 0) (pc := 18) dX7_lowest_18 (by decide) ?_
    refine e_lcmp (pc := 19) dX7_lowest_19 ?_
    refine e_if_eq (pc := 20) dX7_lowest_20 (t := 41) (by decide) (fun c_20 => absurd c_20 (fun q => rz (mc_cmp_eq.mp q))) (fun _ => ?_)
    refine e_lload (pc := 23) dX7_lowest_23 rfl ?_
    refine e_lload (pc := 25) dX7_lowest_25 rfl ?_
    refine e_lrem (pc := 27) dX7_lowest_27 rz ?_
    refine e_topl (nl_rem e he r hr6 r0) ?_
    refine e_lsw9 (pc := 28) dX7_lowest_28 (Nat.le_of_ble_eq_true rfl) rfl ?_
    refine e_lload (pc := 30) dX7_lowest_30 rfl ?_
    refine e_lsw5 (pc := 32) dX7_lowest_32 (Nat.le_of_ble_eq_true rfl) rfl ?_
    refine e_lload (pc := 34) dX7_lowest_34 rfl ?_
    refine e_lsw7 (pc := 36) dX7_lowest_36 (Nat.le_of_ble_eq_true rfl) rfl ?_
    refine e_goto (pc := 38) dX7_lowest_38 (t := 16) (by decide) ?_
    exact ih r (e % r) _ (by omega) hr6 (by omega) (by rw [← hg, Nat.gcd_comm r, ← Nat.gcd_rec, Nat.gcd_comm])
theorem sp_y_lowest {w : mc_W} {x y : Nat} {p : Int32} (hx : x < 61) (hy : y < 61) : mc_D yX7_lowest cX7_lowest 11 (some .long) 1 [.long (Int64.ofNat x), .long (Int64.ofNat y), .int p] w (some (.long (ylow x y p))) w := by
  refine mc_start (own := RX7) (ini := false) rfl (by decide +kernel) (fun h => by cases h) (Nat.le_of_ble_eq_true rfl) ?_
  show mc_E _ _ _ _ _ [some (.long (Int64.ofNat x)), none, some (.long (Int64.ofNat y)), none, some (.int p), none, none, none, none, none, none] [] _ _ _
  refine e_lloadn (pc := 0) dX7_lowest_0 rfl ?_
  refine e_lconst (v := 0) (pc := 1) dX7_lowest_1 (by decide) ?_
  refine e_lcmp (pc := 2) dX7_lowest_2 ?_
  refine e_if_ne (pc := 3) dX7_lowest_3 (t := 10) (by decide) (fun c_3 => ?_) (fun c_3 => ?_)
  · skip
    refine e_lloadn (pc := 10) dX7_lowest_10 rfl ?_
    refine e_lsw5 (pc := 11) dX7_lowest_11 (Nat.le_of_ble_eq_true rfl) rfl ?_
    refine e_lloadn (pc := 13) dX7_lowest_13 rfl ?_
    refine e_lsw7 (pc := 14) dX7_lowest_14 (Nat.le_of_ble_eq_true rfl) rfl ?_
    have x0 : x ≠ 0 := fun q => c_3 (mc_cmp_eq.mpr ((nl_0 x hx).mpr q))
    unfold ylow
    rw [if_neg x0]
    exact lp_y_low hx hy x0 y x y none (Nat.le_refl _) hx hy rfl
  · skip
    refine e_iload (pc := 6) dX7_lowest_6 rfl ?_
    refine e_i2l (pc := 8) dX7_lowest_8 ?_
    exact e_lret (pc := 9) dX7_lowest_9 rfl (Nat.le_refl _) (Nat.le_refl _) ⟨by unfold ylow; rw [if_pos ((nl_0 x hx).mp (mc_cmp_eq.mp c_3))], rfl⟩
def ycn (P : Nat → Int64) (now : Int64) : Nat → Nat → Nat → Nat
  | 0, _, k => k
  | f + 1, i, k => if P i = now then ycn P now f (i + 1) (k + 1) else ycn P now f (i + 1) k
theorem ycn_le (P : Nat → Int64) (now : Int64) : ∀ f i k, ycn P now f i k ≤ k + f := by
  intro f
  induction f with
  | zero => intro i k; exact Nat.le_refl _
  | succ f ih =>
    intro i k
    unfold ycn
    split
    · have := ih (i + 1) (k + 1); omega
    · have := ih (i + 1) k; omega
def yodc (m : Nat → Int32) (b : Nat → List Int32) (sd sn k v : Int32) : Nat := ycn (fun i => ysb m b (sd + nI i) k v) (yself m b k (ywr m b k v)) sn.toNatClampNeg 0 0
def yodds (m : Nat → Int32) (b : Nat → List Int32) (sd sn k v p : Int32) : Int64 :=
  if (mc_wi sd 0 99999 && mc_wi sn 1 60 && mc_wi k 0 (m 2 - 1) && mc_wi v 0 99999 && mc_wi p 0 1) = false then -4611686018427387904 else ylow (yodc m b sd sn k v) sn.toNatClampNeg p
theorem lp_y_odds {s u m : Nat → Int32} {a c b : Nat → List Int32} {q : List (Option Nat)} {h : Nat} {z : mc_W} {k0 v sd p : Int32} {V N : Nat} (hG : yG m b) (hc : mc_wi k0 0 (m 2 - 1) = true) (hv : mc_wi v 0 99999 = true) (hN : N < 61) :
    ∀ (f i cn : Nat) (n : Nat → Int32) (d : Nat → List Int32), i + f = N → cn ≤ i → yD d → ycn (fun i => ysb m b (sd + nI i) k0 v) (yself m b k0 (ywr m b k0 v)) f i cn = V →
      mc_E RX7 cX7_odds 11 (mc_JM (some .long) false 7 0 0 (fun r' w' => r' = some (.long (ylow V N p)) ∧ ∃ n1 d1, yD d1 ∧ w' = WW s a q u c h m b n1 d1 z)) 79 [some (.ref 29), some (.int sd), some (.int (nI N)), some (.int k0), some (.int v), some (.int p), some (.long (yself m b k0 (ywr m b k0 v))), none, some (.long (Int64.ofNat cn)), none, some (.int (nI i))] [] (WW s a q u c h m b n d z) 0 0 := by
  intro f
  induction f with
  | zero =>
    intro i cn n d hi hcn hD hV
    have e : i = N := by omega
    subst e
    simp only [ycn] at hV
    subst hV
    refine e_iload (pc := 79) dX7_odds_79 rfl ?_
    refine e_iloadn (pc := 81) dX7_odds_81 rfl ?_
    refine e_icmp_ge (pc := 82) dX7_odds_82 (t := 118) (by decide) (fun _ => ?_) (fun c_82 => absurd (Int32.le_refl _) c_82)
    refine e_lload (pc := 118) dX7_odds_118 rfl ?_
    refine e_iloadn (pc := 120) dX7_odds_120 rfl ?_
    refine e_i2l (pc := 121) dX7_odds_121 ?_
    refine e_topl (nl_i i hN) ?_
    refine e_iload (pc := 122) dX7_odds_122 rfl ?_
    refine e_csD (pc := 124) (sp_y_lowest (x := cn) (y := i) (by omega) (by omega)) dX7_odds_124 kX7_288 rfl rfl (mc_CR_of (Nat.le_of_ble_eq_true rfl) (Nat.le_of_ble_eq_true rfl) (Nat.le_refl _) (Nat.le_refl _)) (Nat.le_of_ble_eq_true rfl) ?_
    exact e_lret (pc := 127) dX7_odds_127 rfl (Nat.le_refl _) (Nat.le_refl _) ⟨rfl, n, d, hD, rfl⟩
  | succ f ih =>
    intro i cn n d hi hcn hD hV
    simp only [ycn] at hV
    refine e_iload (pc := 79) dX7_odds_79 rfl ?_
    refine e_iloadn (pc := 81) dX7_odds_81 rfl ?_
    refine e_icmp_ge (pc := 82) dX7_odds_82 (t := 118) (by decide) (fun c_82 => absurd c_82 (nI_ge (by omega : i < N) (by omega))) (fun _ => ?_)
    refine e_lload (pc := 85) dX7_odds_85 rfl ?_
    refine e_aloadn (pc := 87) dX7_odds_87 rfl ?_
    refine e_iloadn (pc := 88) dX7_odds_88 rfl ?_
    refine e_iload (pc := 89) dX7_odds_89 rfl ?_
    refine e_iadd (pc := 91) dX7_odds_91 ?_
    refine e_iloadn (pc := 92) dX7_odds_92 rfl ?_
    refine e_iload (pc := 93) dX7_odds_93 rfl ?_
    refine e_cvX (pc := 95) (sp_y_slipsBy hG hc hv hD) dX7_odds_95 kX7_283 rfl rfl rfl rfl rfl (mc_CR_of (Nat.le_of_ble_eq_true rfl) (Nat.le_of_ble_eq_true rfl) (Nat.le_refl _) (Nat.le_refl _)) (Nat.le_of_ble_eq_true rfl) (fun w1 hw1 => ?_)
    obtain ⟨n1, d1, hD1, rfl⟩ := hw1
    refine e_lload (pc := 98) dX7_odds_98 rfl ?_
    refine e_lcmp (pc := 100) dX7_odds_100 ?_
    refine e_if_ne (pc := 101) dX7_odds_101 (t := 108) (by decide) (fun c_101 => ?_) (fun c_101 => ?_)
    · skip
      refine e_lconst (v := 0) (pc := 108) dX7_odds_108 (by decide) ?_
      refine e_ladd (pc := 109) dX7_odds_109 ?_
      refine e_lsw8 (pc := 110) dX7_odds_110 (Nat.le_of_ble_eq_true rfl) rfl ?_
      refine e_incC10 (pc := 112) dX7_odds_112 (nI_1 i) (Nat.le_of_ble_eq_true rfl) rfl ?_
      refine e_goto (pc := 115) dX7_odds_115 (t := 79) (by decide) ?_
      rw [Int64.add_zero]
      exact ih (i + 1) cn n1 d1 (by omega) (by omega) hD1 (by rw [← hV, if_neg (fun q => c_101 (mc_cmp_eq.mpr q))])
    · skip
      refine e_lconst (v := 1) (pc := 104) dX7_odds_104 (by decide) ?_
      refine e_goto (pc := 105) dX7_odds_105 (t := 109) (by decide) ?_
      refine e_ladd (pc := 109) dX7_odds_109 ?_
      refine e_lsw8 (pc := 110) dX7_odds_110 (Nat.le_of_ble_eq_true rfl) rfl ?_
      refine e_incC10 (pc := 112) dX7_odds_112 (nI_1 i) (Nat.le_of_ble_eq_true rfl) rfl ?_
      refine e_goto (pc := 115) dX7_odds_115 (t := 79) (by decide) ?_
      rw [nl_s cn (by omega)]
      exact ih (i + 1) (cn + 1) n1 d1 (by omega) (by omega) hD1 (by rw [← hV, if_pos (mc_cmp_eq.mp c_101)])
theorem sp_y_odds {s u m n : Nat → Int32} {a c b d : Nat → List Int32} {q : List (Option Nat)} {h : Nat} {z : mc_W} {sd sn k v p : Int32} (hG : yG m b) (hD : yD d) : mc_T yX7_odds cX7_odds 11 (some .long) 7 [.ref 29, .int sd, .int sn, .int k, .int v, .int p] (WW s a q u c h m b n d z) (some (.long (yodds m b sd sn k v p))) (fun w' => ∃ n1 d1, yD d1 ∧ w' = WW s a q u c h m b n1 d1 z) := by
  refine mc_start (own := RX7) (ini := false) rfl (by decide +kernel) (fun h => by cases h) (Nat.le_of_ble_eq_true rfl) ?_
  show mc_E _ _ _ _ _ [some (.ref 29), some (.int sd), some (.int sn), some (.int k), some (.int v), some (.int p), none, none, none, none, none] [] _ _ _
  refine e_iloadn (pc := 0) dX7_odds_0 rfl ?_
  refine e_iconst (v := 0) (pc := 1) dX7_odds_1 (by decide) ?_
  refine e_ldc (pc := 2) dX7_odds_2 qX7_79 ?_
  refine e_csD (pc := 4) (sp_y_in) dX7_odds_4 kX7_75 rfl rfl (mc_CR_of (Nat.le_of_ble_eq_true rfl) (Nat.le_of_ble_eq_true rfl) (Nat.le_refl _) (Nat.le_refl _)) (Nat.le_of_ble_eq_true rfl) ?_
  refine e_if_eq (pc := 7) dX7_odds_7 (t := 46) (by decide) (fun c_7 => ?_) (fun c_7 => ?_)
  · skip
    refine e_ldc2 (pc := 46) dX7_odds_46 qX7_286 ?_
    exact e_lret (pc := 49) dX7_odds_49 rfl (Nat.le_refl _) (Nat.le_refl _) ⟨by unfold yodds; rw [if_pos (by rw [mc_b0.mp c_7]; simp)], n, d, hD, rfl⟩
  · skip
    refine e_iloadn (pc := 10) dX7_odds_10 rfl ?_
    refine e_iconst (v := 1) (pc := 11) dX7_odds_11 (by decide) ?_
    refine e_bipush (v := 60) (pc := 12) dX7_odds_12 (by decide) ?_
    refine e_csD (pc := 14) (sp_y_in) dX7_odds_14 kX7_75 rfl rfl (mc_CR_of (Nat.le_of_ble_eq_true rfl) (Nat.le_of_ble_eq_true rfl) (Nat.le_refl _) (Nat.le_refl _)) (Nat.le_of_ble_eq_true rfl) ?_
    refine e_if_eq (pc := 17) dX7_odds_17 (t := 46) (by decide) (fun c_17 => ?_) (fun c_17 => ?_)
    · skip
      refine e_ldc2 (pc := 46) dX7_odds_46 qX7_286 ?_
      exact e_lret (pc := 49) dX7_odds_49 rfl (Nat.le_refl _) (Nat.le_refl _) ⟨by unfold yodds; rw [if_pos (by rw [mc_b0.mp c_17]; simp)], n, d, hD, rfl⟩
    · skip
      refine e_aloadn (pc := 20) dX7_odds_20 rfl ?_
      refine e_iloadn (pc := 21) dX7_odds_21 rfl ?_
      refine e_cvD (pc := 22) (sp_y_isClerk) dX7_odds_22 kX7_159 rfl rfl rfl rfl rfl (mc_CR_of (Nat.le_of_ble_eq_true rfl) (Nat.le_of_ble_eq_true rfl) (Nat.le_refl _) (Nat.le_refl _)) (Nat.le_of_ble_eq_true rfl) ?_
      refine e_if_eq (pc := 25) dX7_odds_25 (t := 46) (by decide) (fun c_25 => ?_) (fun c_25 => ?_)
      · skip
        refine e_ldc2 (pc := 46) dX7_odds_46 qX7_286 ?_
        exact e_lret (pc := 49) dX7_odds_49 rfl (Nat.le_refl _) (Nat.le_refl _) ⟨by unfold yodds; rw [if_pos (by rw [mc_b0.mp c_25]; simp)], n, d, hD, rfl⟩
      · skip
        refine e_iload (pc := 28) dX7_odds_28 rfl ?_
        refine e_csD (pc := 30) (sp_y_isNumber) dX7_odds_30 kX7_162 rfl rfl (mc_CR_of (Nat.le_of_ble_eq_true rfl) (Nat.le_of_ble_eq_true rfl) (Nat.le_refl _) (Nat.le_refl _)) (Nat.le_of_ble_eq_true rfl) ?_
        refine e_if_eq (pc := 33) dX7_odds_33 (t := 46) (by decide) (fun c_33 => ?_) (fun c_33 => ?_)
        · skip
          refine e_ldc2 (pc := 46) dX7_odds_46 qX7_286 ?_
          exact e_lret (pc := 49) dX7_odds_49 rfl (Nat.le_refl _) (Nat.le_refl _) ⟨by unfold yodds; rw [if_pos (by rw [mc_b0.mp c_33]; simp)], n, d, hD, rfl⟩
        · skip
          refine e_iload (pc := 36) dX7_odds_36 rfl ?_
          refine e_iconst (v := 0) (pc := 38) dX7_odds_38 (by decide) ?_
          refine e_iconst (v := 1) (pc := 39) dX7_odds_39 (by decide) ?_
          refine e_csD (pc := 40) (sp_y_in) dX7_odds_40 kX7_75 rfl rfl (mc_CR_of (Nat.le_of_ble_eq_true rfl) (Nat.le_of_ble_eq_true rfl) (Nat.le_refl _) (Nat.le_refl _)) (Nat.le_of_ble_eq_true rfl) ?_
          refine e_if_ne (pc := 43) dX7_odds_43 (t := 50) (by decide) (fun c_43 => ?_) (fun c_43 => ?_)
          · skip
            refine e_aloadn (pc := 50) dX7_odds_50 rfl ?_
            refine e_iloadn (pc := 51) dX7_odds_51 rfl ?_
            refine e_iload (pc := 52) dX7_odds_52 rfl ?_
            refine e_cvY (pc := 54) (sp_y_writes hG.1 hG.V (hG.k0 (by simpa [mc_b0] using c_25)) (hG.k1 (by simpa [mc_b0] using c_25)) (hG.fg _) (hG.mk _ _ (by simpa [mc_b0] using c_33)) hD) dX7_odds_54 kX7_186 rfl rfl rfl rfl rfl (mc_CR_of (Nat.le_of_ble_eq_true rfl) (Nat.le_of_ble_eq_true rfl) (Nat.le_refl _) (Nat.le_refl _)) (Nat.le_of_ble_eq_true rfl) (fun w1 hw1 => ?_)
            obtain ⟨n1, d1, hF1, rfl⟩ := hw1
            refine e_aloadn (pc := 57) dX7_odds_57 rfl ?_
            refine e_aloadn (pc := 58) dX7_odds_58 rfl ?_
            refine e_iloadn (pc := 59) dX7_odds_59 rfl ?_
            refine e_cvD (pc := 60) (sp_y_figuresOf (hG.k0 (by simpa [mc_b0] using c_25)) (hG.k1 (by simpa [mc_b0] using c_25))) dX7_odds_60 kX7_169 rfl rfl rfl rfl rfl (mc_CR_of (Nat.le_of_ble_eq_true rfl) (Nat.le_of_ble_eq_true rfl) (Nat.le_refl _) (Nat.le_refl _)) (Nat.le_of_ble_eq_true rfl) ?_
            refine e_aloadn (pc := 63) dX7_odds_63 rfl ?_
            refine e_iloadn (pc := 64) dX7_odds_64 rfl ?_
            refine e_cvD (pc := 65) (sp_y_isTurned (hG.k0 (by simpa [mc_b0] using c_25))) dX7_odds_65 kX7_172 rfl rfl rfl rfl rfl (mc_CR_of (Nat.le_of_ble_eq_true rfl) (Nat.le_of_ble_eq_true rfl) (Nat.le_refl _) (Nat.le_refl _)) (Nat.le_of_ble_eq_true rfl) ?_
            refine e_cvD (pc := 68) (sp_y_readsBy hF1 (ywr_len m b k v)) dX7_odds_68 kX7_194 rfl rfl rfl rfl rfl (mc_CR_of (Nat.le_of_ble_eq_true rfl) (Nat.le_of_ble_eq_true rfl) (Nat.le_refl _) (Nat.le_refl _)) (Nat.le_of_ble_eq_true rfl) ?_
            refine e_lsw6 (pc := 71) dX7_odds_71 (Nat.le_of_ble_eq_true rfl) rfl ?_
            refine e_lconst (v := 0) (pc := 73) dX7_odds_73 (by decide) ?_
            refine e_lsw8 (pc := 74) dX7_odds_74 (Nat.le_of_ble_eq_true rfl) rfl ?_
            refine e_iconst (v := 0) (pc := 76) dX7_odds_76 (by decide) ?_
            refine e_isw10 (pc := 77) dX7_odds_77 (Nat.le_of_ble_eq_true rfl) rfl ?_
            have q7 : mc_wi sd 0 99999 = true := by simpa [mc_b0] using c_7
            have q17 : mc_wi sn 1 60 = true := by simpa [mc_b0] using c_17
            have q25 : mc_wi k 0 (m 2 - 1) = true := by simpa [mc_b0] using c_25
            have q33 : mc_wi v 0 99999 = true := by simpa [mc_b0] using c_33
            have hb := mc_wi_iff.mp q17
            have z1 : (1 : Int32).toInt = 1 := rfl
            have z2 : (60 : Int32).toInt = 60 := rfl
            rw [z1, z2] at hb
            have e := nI_back (x := sn) (by omega)
            have t := tnc (x := sn) (by omega)
            have K := lp_y_odds (s := s) (a := a) (q := q) (u := u) (c := c) (h := h) (z := z) (sd := sd) (p := p) (N := sn.toNatClampNeg) hG q25 q33 (by omega) sn.toNatClampNeg 0 0 n1 d1 (by omega) (by omega) hF1.1 rfl
            rw [← e] at K
            unfold yodds
            rw [if_neg (by simp [q7, q17, q25, q33, mc_b1.mp c_43])]
            exact K
          · skip
            refine e_ldc2 (pc := 46) dX7_odds_46 qX7_286 ?_
            exact e_lret (pc := 49) dX7_odds_49 rfl (Nat.le_refl _) (Nat.le_refl _) ⟨by unfold yodds; rw [if_pos (by rw [mc_b0.mp c_43]; simp)], n, d, hD, rfl⟩
end Zj_35_y16
section Zj_36_y17
/-! kinds -/
theorem up_self2 {b : Nat → List Int32} {k i : Nat} (h : i < (b k).length) : mc_up b k ((b k).set i ((b k).getD i 0)) = b := by
  have e : (b k).set i ((b k).getD i 0) = b k := by
    have := set_back (xs := b k) (x := (b k).getD i 0) h
    rw [List.set_set] at this
    exact this
  rw [e, mc_up_self]
def ykb (B : Nat → List Int32) (k x y : Int32) : Nat → List Int32 := mc_up (mc_up B 0 ((B 0).set k.toNatClampNeg x)) 1 ((B 1).set k.toNatClampNeg y)
theorem ykb_self {B : Nat → List Int32} {k : Int32} (h0 : vp_in k (B 0).length) (h1 : vp_in k (B 1).length) : ykb B k (gt (B 0) k) (gt (B 1) k) = B := by
  unfold ykb gt
  rw [up_self2 (vp_clt h0), up_self2 (vp_clt h1)]
theorem ykb_over {B : Nat → List Int32} {k x y x2 y2 : Int32} : ykb (ykb B k x y) k x2 y2 = ykb B k x2 y2 := by
  have e0 : (ykb B k x y) 0 = (B 0).set k.toNatClampNeg x := rfl
  have e1 : (ykb B k x y) 1 = (B 1).set k.toNatClampNeg y := rfl
  funext j
  show mc_up (mc_up (ykb B k x y) 0 (((ykb B k x y) 0).set k.toNatClampNeg x2)) 1 (((ykb B k x y) 1).set k.toNatClampNeg y2) j = _
  rw [e0, e1, List.set_set, List.set_set]
  unfold ykb mc_up
  by_cases h1 : j = 1
  · subst h1; rfl
  · by_cases h0 : j = 0
    · subst h0; rfl
    · rw [if_neg h1, if_neg h1, if_neg h0, if_neg h1, if_neg h0, if_neg h0]
theorem yG_kinds {M : Nat → Int32} {B : Nat → List Int32} (h : yG M B) (k : Int32) {x y z : Int32} (hx : 0 ≤ x.toInt ∧ x.toInt ≤ 5) (hy : 0 ≤ y.toInt ∧ y.toInt ≤ 9) (hz : 2 ≤ z.toInt ∧ z.toInt ≤ 12) : yG (mc_up M 0 z) (ykb B k x y) := by
  obtain ⟨hL, hC, h0, h4, h5, h6⟩ := h
  have e0 : (ykb B k x y) 0 = (B 0).set k.toNatClampNeg x := rfl
  have e1 : (ykb B k x y) 1 = (B 1).set k.toNatClampNeg y := rfl
  refine ⟨⟨by rw [e0, List.length_set]; exact hL.1, by rw [e1, List.length_set]; exact hL.2.1, hL.2.2.1, hL.2.2.2.1, hL.2.2.2.2.1, hL.2.2.2.2.2.1, hL.2.2.2.2.2.2.1, hL.2.2.2.2.2.2.2.1, hL.2.2.2.2.2.2.2.2.1, hL.2.2.2.2.2.2.2.2.2⟩, hC, hz, h4, h5, fun i hi => ?_⟩
  rw [e0, e1]
  by_cases hk : k.toNatClampNeg < 5
  · rw [gD_set (by rw [hL.1]; exact hk), gD_set (by rw [hL.2.1]; exact hk)]
    by_cases e : i = k.toNatClampNeg
    · rw [if_pos e, if_pos e]; exact ⟨hx, hy⟩
    · rw [if_neg e, if_neg e]; exact h6 i hi
  · rw [List.set_eq_of_length_le (by rw [hL.1]; omega), List.set_eq_of_length_le (by rw [hL.2.1]; omega)]; exact h6 i hi
theorem yG.kr {m : Nat → Int32} {b : Nat → List Int32} (h : yG m b) {k : Int32} (hk : mc_wi k 0 (m 2 - 1) = true) : (0 ≤ (gt (b 0) k).toInt ∧ (gt (b 0) k).toInt ≤ 5) ∧ 0 ≤ (gt (b 1) k).toInt ∧ (gt (b 1) k).toInt ≤ 9 :=
  h.2.2.2.2.2 _ (by have := vp_clt (h.k0 hk); rw [h.1.1] at this; exact this)
/-- the world as kinds tries it: by sort 0 the kind, 1 the more, 2 the base is v -/
def ykM (M : Nat → Int32) (so v : Int32) : Nat → Int32 := mc_up M 0 (if so = 2 then v else M 0)
def ykB (B : Nat → List Int32) (k so v : Int32) : Nat → List Int32 := ykb B k (if so = 0 then v else gt (B 0) k) (if so = 1 then v else gt (B 1) k)
def ykinds (M : Nat → Int32) (B : Nat → List Int32) (s k so : Int32) : Int32 := if ¬ ytw M B s k = 0 then ytw M B s k else if mc_wi so 0 2 = false then -7
  else ybits (fun i => yunl (ykM M so (nI i)) (ykB B k so (nI i)) s k) (if so = 0 then 6 else if so = 1 then 10 else 11) (if so = 2 then 2 else 0) 0
set_option maxHeartbeats 1000000 in
theorem lp_y_kinds0 {s u : Nat → Int32} {a c : Nat → List Int32} {q : List (Option Nat)} {h : Nat} {z : mc_W} {M : Nat → Int32} {B : Nat → List Int32} {s0 k0 V x4 : Int32} (hG : yG M B) (hS : ySh B) (h0 : ysw B s0 = 0) (hc : mc_wi k0 0 (M 2 - 1) = true) :
    ∀ (f i : Nat) (S : Int32) (m : Nat → Int32) (b : Nat → List Int32) (n : Nat → Int32) (d : Nat → List Int32), i + f = 6 → 0 ≤ i → (∀ x, mc_up m 0 x = mc_up M 0 x) → (∀ x y, ykb b k0 x y = ykb B k0 x y) → (b 0).length = 5 → (b 1).length = 5 → yD d → ybits (fun i => yunl (ykM M 0 (nI i)) (ykB B k0 0 (nI i)) s0 k0) f i S = V →
      mc_E RX7 cX7_kinds 10 (mc_JM (some .int) false 8 0 0 (fun r' w' => r' = some (.int V) ∧ ∃ n1 d1, yD d1 ∧ w' = WW s a q u c h M B n1 d1 z)) 65 [some (.ref 29), some (.int s0), some (.int k0), some (.int 0), some (.int x4), some (.int (gt (B 0) k0)), some (.int (gt (B 1) k0)), some (.int (M 0)), some (.int S), some (.int (nI i))] [] (WW s a q u c h m b n d z) 0 0 := by
  have hk5 : vp_in k0 5 := by have := hG.k0 hc; rw [hG.1.1] at this; exact this
  obtain ⟨kr0, kr1⟩ := hG.kr hc
  intro f
  induction f with
  | zero =>
    intro i S m b n d hi hlo hm hb l0 l1 hD hV
    have e : i = 6 := by omega
    subst e
    have hV : S = V := hV
    subst hV
    have v0 : vp_in k0 (b 0).length := by rw [l0]; exact hk5
    have v1 : vp_in k0 ((mc_up b 0 ((b 0).set k0.toNatClampNeg (gt (B 0) k0))) 1).length := by show vp_in k0 (b 1).length; rw [l1]; exact hk5
    have eb : mc_up (mc_up b 0 ((b 0).set k0.toNatClampNeg (gt (B 0) k0))) 1 (((mc_up b 0 ((b 0).set k0.toNatClampNeg (gt (B 0) k0))) 1).set k0.toNatClampNeg (gt (B 1) k0)) = B := (hb _ _).trans (ykb_self (hG.k0 hc) (hG.k1 hc))
    refine e_iload (pc := 65) dX7_kinds_65 rfl ?_
    refine e_iloadn (pc := 67) dX7_kinds_67 rfl ?_
    refine e_if_ne (pc := 68) dX7_kinds_68 (t := 76) (by decide) (fun c_68 => absurd c_68 (by decide)) (fun _ => ?_)
    refine e_bipush (v := 6) (pc := 71) dX7_kinds_71 (by decide) ?_
    refine e_goto (pc := 73) dX7_kinds_73 (t := 88) (by decide) ?_
    refine e_icmp_ge (pc := 88) dX7_kinds_88 (t := 171) (by decide) (fun _ => ?_) (fun c_88 => absurd (by decide) c_88)
    refine e_aloadn (pc := 171) dX7_kinds_171 rfl ?_
    refine e_get (pc := 172) dX7_kinds_172 fX7_16 rfl rfl ?_
    refine e_iloadn (pc := 175) dX7_kinds_175 rfl ?_
    refine e_iload (pc := 176) dX7_kinds_176 rfl ?_
    refine ast_kind (pc := 178) dX7_kinds_178 v0 ?_
    refine e_aloadn (pc := 179) dX7_kinds_179 rfl ?_
    refine e_get (pc := 180) dX7_kinds_180 fX7_20 rfl rfl ?_
    refine e_iloadn (pc := 183) dX7_kinds_183 rfl ?_
    refine e_iload (pc := 184) dX7_kinds_184 rfl ?_
    refine ast_ymore (pc := 186) dX7_kinds_186 v1 ?_
    rw [eb]
    refine e_aloadn (pc := 187) dX7_kinds_187 rfl ?_
    refine e_iload (pc := 188) dX7_kinds_188 rfl ?_
    refine put_y_base0 (pc := 190) dX7_kinds_190 pX7_7 ?_
    rw [hm, mc_up_self]
    refine e_iload (pc := 193) dX7_kinds_193 rfl ?_
    exact e_iret (pc := 195) dX7_kinds_195 rfl (Nat.le_refl _) (Nat.le_refl _) ⟨rfl, n, d, hD, rfl⟩
  | succ f ih =>
    intro i S m b n d hi hlo hm hb l0 l1 hD hV
    simp only [ybits] at hV
    have hii : (nI i).toInt = i := nI_toInt (by omega)
    have v0 : vp_in k0 (b 0).length := by rw [l0]; exact hk5
    have v1 : vp_in k0 ((mc_up b 0 ((b 0).set k0.toNatClampNeg (nI i))) 1).length := by show vp_in k0 (b 1).length; rw [l1]; exact hk5
    have eb : mc_up (mc_up b 0 ((b 0).set k0.toNatClampNeg (nI i))) 1 (((mc_up b 0 ((b 0).set k0.toNatClampNeg (nI i))) 1).set k0.toNatClampNeg (gt (B 1) k0)) = ykb B k0 (nI i) (gt (B 1) k0) := hb _ _
    have hG2 : yG (mc_up M 0 (M 0)) (ykb B k0 (nI i) (gt (B 1) k0)) := yG_kinds hG k0 (by omega) kr1 hG.2.2.1
    have hS2 : ySh (ykb B k0 (nI i) (gt (B 1) k0)) := hS
    have eM : ykM M 0 (nI i) = mc_up M 0 (M 0) := rfl
    have eB : ykB B k0 0 (nI i) = ykb B k0 (nI i) (gt (B 1) k0) := rfl
    skip
    refine e_iload (pc := 65) dX7_kinds_65 rfl ?_
    refine e_iloadn (pc := 67) dX7_kinds_67 rfl ?_
    refine e_if_ne (pc := 68) dX7_kinds_68 (t := 76) (by decide) (fun c_68 => absurd c_68 (by decide)) (fun _ => ?_)
    refine e_bipush (v := 6) (pc := 71) dX7_kinds_71 (by decide) ?_
    refine e_goto (pc := 73) dX7_kinds_73 (t := 88) (by decide) ?_
    refine e_icmp_ge (pc := 88) dX7_kinds_88 (t := 171) (by decide) (fun c_88 => absurd c_88 (nI_ge (by omega : i < 6) (by decide))) (fun _ => ?_)
    refine e_aloadn (pc := 91) dX7_kinds_91 rfl ?_
    refine e_get (pc := 92) dX7_kinds_92 fX7_16 rfl rfl ?_
    refine e_iloadn (pc := 95) dX7_kinds_95 rfl ?_
    refine e_iloadn (pc := 96) dX7_kinds_96 rfl ?_
    refine e_if_ne (pc := 97) dX7_kinds_97 (t := 105) (by decide) (fun c_97 => absurd c_97 (by decide)) (fun _ => ?_)
    refine e_iload (pc := 100) dX7_kinds_100 rfl ?_
    refine e_goto (pc := 102) dX7_kinds_102 (t := 107) (by decide) ?_
    refine ast_kind (pc := 107) dX7_kinds_107 v0 ?_
    refine e_aloadn (pc := 108) dX7_kinds_108 rfl ?_
    refine e_get (pc := 109) dX7_kinds_109 fX7_20 rfl rfl ?_
    refine e_iloadn (pc := 112) dX7_kinds_112 rfl ?_
    refine e_iloadn (pc := 113) dX7_kinds_113 rfl ?_
    refine e_iconst (v := 1) (pc := 114) dX7_kinds_114 (by decide) ?_
    refine e_icmp_ne (pc := 115) dX7_kinds_115 (t := 123) (by decide) (fun _ => ?_) (fun c_115 => absurd c_115 (by decide))
    refine e_iload (pc := 123) dX7_kinds_123 rfl ?_
    refine ast_ymore (pc := 125) dX7_kinds_125 v1 ?_
    rw [eb]
    refine e_aloadn (pc := 126) dX7_kinds_126 rfl ?_
    refine e_iloadn (pc := 127) dX7_kinds_127 rfl ?_
    refine e_iconst (v := 2) (pc := 128) dX7_kinds_128 (by decide) ?_
    refine e_icmp_ne (pc := 129) dX7_kinds_129 (t := 137) (by decide) (fun _ => ?_) (fun c_129 => absurd c_129 (by decide))
    refine e_iload (pc := 137) dX7_kinds_137 rfl ?_
    refine put_y_base0 (pc := 139) dX7_kinds_139 pX7_7 ?_
    rw [hm]
    refine e_iload (pc := 142) dX7_kinds_142 rfl ?_
    refine e_aloadn (pc := 144) dX7_kinds_144 rfl ?_
    refine e_iloadn (pc := 145) dX7_kinds_145 rfl ?_
    refine e_iloadn (pc := 146) dX7_kinds_146 rfl ?_
    refine e_cvX (pc := 147) (sp_y_unlike hG2 hS2 h0 hc hD) dX7_kinds_147 kX7_275 rfl rfl rfl rfl rfl (mc_CR_of (Nat.le_of_ble_eq_true rfl) (Nat.le_of_ble_eq_true rfl) (Nat.le_refl _) (Nat.le_refl _)) (Nat.le_of_ble_eq_true rfl) (fun w1 hw1 => ?_)
    obtain ⟨n1, d1, hD1, rfl⟩ := hw1
    refine e_iconst (v := -1) (pc := 150) dX7_kinds_150 (by decide) ?_
    refine e_icmp_ne (pc := 151) dX7_kinds_151 (t := 161) (by decide) (fun c_151 => ?_) (fun c_151 => ?_)
    · skip
      refine e_iconst (v := 0) (pc := 161) dX7_kinds_161 (by decide) ?_
      refine e_ior (pc := 162) dX7_kinds_162 ?_
      refine e_isw8 (pc := 163) dX7_kinds_163 (Nat.le_of_ble_eq_true rfl) rfl ?_
      refine e_incC9 (pc := 165) dX7_kinds_165 (nI_1 i) (Nat.le_of_ble_eq_true rfl) rfl ?_
      refine e_goto (pc := 168) dX7_kinds_168 (t := 65) (by decide) ?_
      exact ih (i + 1) _ _ _ n1 d1 (by omega) (by omega) (fun x => mc_up_up _ _ _ _) (fun x y => ykb_over) (by show ((B 0).set _ _).length = 5; rw [List.length_set]; exact hG.1.1) (by show ((B 1).set _ _).length = 5; rw [List.length_set]; exact hG.1.2.1) hD1 (by rw [← hV, if_neg (c := yunl (ykM M 0 (nI i)) (ykB B k0 0 (nI i)) s0 k0 = -1) c_151])
    · skip
      refine e_iconst (v := 1) (pc := 154) dX7_kinds_154 (by decide) ?_
      refine e_iload (pc := 155) dX7_kinds_155 rfl ?_
      refine e_ishl (pc := 157) dX7_kinds_157 ?_
      refine e_goto (pc := 158) dX7_kinds_158 (t := 162) (by decide) ?_
      refine e_ior (pc := 162) dX7_kinds_162 ?_
      refine e_isw8 (pc := 163) dX7_kinds_163 (Nat.le_of_ble_eq_true rfl) rfl ?_
      refine e_incC9 (pc := 165) dX7_kinds_165 (nI_1 i) (Nat.le_of_ble_eq_true rfl) rfl ?_
      refine e_goto (pc := 168) dX7_kinds_168 (t := 65) (by decide) ?_
      exact ih (i + 1) _ _ _ n1 d1 (by omega) (by omega) (fun x => mc_up_up _ _ _ _) (fun x y => ykb_over) (by show ((B 0).set _ _).length = 5; rw [List.length_set]; exact hG.1.1) (by show ((B 1).set _ _).length = 5; rw [List.length_set]; exact hG.1.2.1) hD1 (by rw [← hV, if_pos (c := yunl (ykM M 0 (nI i)) (ykB B k0 0 (nI i)) s0 k0 = -1) c_151])
set_option maxHeartbeats 1000000 in
theorem lp_y_kinds1 {s u : Nat → Int32} {a c : Nat → List Int32} {q : List (Option Nat)} {h : Nat} {z : mc_W} {M : Nat → Int32} {B : Nat → List Int32} {s0 k0 V x4 : Int32} (hG : yG M B) (hS : ySh B) (h0 : ysw B s0 = 0) (hc : mc_wi k0 0 (M 2 - 1) = true) :
    ∀ (f i : Nat) (S : Int32) (m : Nat → Int32) (b : Nat → List Int32) (n : Nat → Int32) (d : Nat → List Int32), i + f = 10 → 0 ≤ i → (∀ x, mc_up m 0 x = mc_up M 0 x) → (∀ x y, ykb b k0 x y = ykb B k0 x y) → (b 0).length = 5 → (b 1).length = 5 → yD d → ybits (fun i => yunl (ykM M 1 (nI i)) (ykB B k0 1 (nI i)) s0 k0) f i S = V →
      mc_E RX7 cX7_kinds 10 (mc_JM (some .int) false 8 0 0 (fun r' w' => r' = some (.int V) ∧ ∃ n1 d1, yD d1 ∧ w' = WW s a q u c h M B n1 d1 z)) 65 [some (.ref 29), some (.int s0), some (.int k0), some (.int 1), some (.int x4), some (.int (gt (B 0) k0)), some (.int (gt (B 1) k0)), some (.int (M 0)), some (.int S), some (.int (nI i))] [] (WW s a q u c h m b n d z) 0 0 := by
  have hk5 : vp_in k0 5 := by have := hG.k0 hc; rw [hG.1.1] at this; exact this
  obtain ⟨kr0, kr1⟩ := hG.kr hc
  intro f
  induction f with
  | zero =>
    intro i S m b n d hi hlo hm hb l0 l1 hD hV
    have e : i = 10 := by omega
    subst e
    have hV : S = V := hV
    subst hV
    have v0 : vp_in k0 (b 0).length := by rw [l0]; exact hk5
    have v1 : vp_in k0 ((mc_up b 0 ((b 0).set k0.toNatClampNeg (gt (B 0) k0))) 1).length := by show vp_in k0 (b 1).length; rw [l1]; exact hk5
    have eb : mc_up (mc_up b 0 ((b 0).set k0.toNatClampNeg (gt (B 0) k0))) 1 (((mc_up b 0 ((b 0).set k0.toNatClampNeg (gt (B 0) k0))) 1).set k0.toNatClampNeg (gt (B 1) k0)) = B := (hb _ _).trans (ykb_self (hG.k0 hc) (hG.k1 hc))
    refine e_iload (pc := 65) dX7_kinds_65 rfl ?_
    refine e_iloadn (pc := 67) dX7_kinds_67 rfl ?_
    refine e_if_ne (pc := 68) dX7_kinds_68 (t := 76) (by decide) (fun _ => ?_) (fun c_68 => absurd c_68 (by decide))
    refine e_iloadn (pc := 76) dX7_kinds_76 rfl ?_
    refine e_iconst (v := 1) (pc := 77) dX7_kinds_77 (by decide) ?_
    refine e_icmp_ne (pc := 78) dX7_kinds_78 (t := 86) (by decide) (fun c_78 => absurd c_78 (by decide)) (fun _ => ?_)
    refine e_bipush (v := 10) (pc := 81) dX7_kinds_81 (by decide) ?_
    refine e_goto (pc := 83) dX7_kinds_83 (t := 88) (by decide) ?_
    refine e_icmp_ge (pc := 88) dX7_kinds_88 (t := 171) (by decide) (fun _ => ?_) (fun c_88 => absurd (by decide) c_88)
    refine e_aloadn (pc := 171) dX7_kinds_171 rfl ?_
    refine e_get (pc := 172) dX7_kinds_172 fX7_16 rfl rfl ?_
    refine e_iloadn (pc := 175) dX7_kinds_175 rfl ?_
    refine e_iload (pc := 176) dX7_kinds_176 rfl ?_
    refine ast_kind (pc := 178) dX7_kinds_178 v0 ?_
    refine e_aloadn (pc := 179) dX7_kinds_179 rfl ?_
    refine e_get (pc := 180) dX7_kinds_180 fX7_20 rfl rfl ?_
    refine e_iloadn (pc := 183) dX7_kinds_183 rfl ?_
    refine e_iload (pc := 184) dX7_kinds_184 rfl ?_
    refine ast_ymore (pc := 186) dX7_kinds_186 v1 ?_
    rw [eb]
    refine e_aloadn (pc := 187) dX7_kinds_187 rfl ?_
    refine e_iload (pc := 188) dX7_kinds_188 rfl ?_
    refine put_y_base0 (pc := 190) dX7_kinds_190 pX7_7 ?_
    rw [hm, mc_up_self]
    refine e_iload (pc := 193) dX7_kinds_193 rfl ?_
    exact e_iret (pc := 195) dX7_kinds_195 rfl (Nat.le_refl _) (Nat.le_refl _) ⟨rfl, n, d, hD, rfl⟩
  | succ f ih =>
    intro i S m b n d hi hlo hm hb l0 l1 hD hV
    simp only [ybits] at hV
    have hii : (nI i).toInt = i := nI_toInt (by omega)
    have v0 : vp_in k0 (b 0).length := by rw [l0]; exact hk5
    have v1 : vp_in k0 ((mc_up b 0 ((b 0).set k0.toNatClampNeg (gt (B 0) k0))) 1).length := by show vp_in k0 (b 1).length; rw [l1]; exact hk5
    have eb : mc_up (mc_up b 0 ((b 0).set k0.toNatClampNeg (gt (B 0) k0))) 1 (((mc_up b 0 ((b 0).set k0.toNatClampNeg (gt (B 0) k0))) 1).set k0.toNatClampNeg (nI i)) = ykb B k0 (gt (B 0) k0) (nI i) := hb _ _
    have hG2 : yG (mc_up M 0 (M 0)) (ykb B k0 (gt (B 0) k0) (nI i)) := yG_kinds hG k0 kr0 (by omega) hG.2.2.1
    have hS2 : ySh (ykb B k0 (gt (B 0) k0) (nI i)) := hS
    have eM : ykM M 1 (nI i) = mc_up M 0 (M 0) := rfl
    have eB : ykB B k0 1 (nI i) = ykb B k0 (gt (B 0) k0) (nI i) := rfl
    skip
    refine e_iload (pc := 65) dX7_kinds_65 rfl ?_
    refine e_iloadn (pc := 67) dX7_kinds_67 rfl ?_
    refine e_if_ne (pc := 68) dX7_kinds_68 (t := 76) (by decide) (fun _ => ?_) (fun c_68 => absurd c_68 (by decide))
    refine e_iloadn (pc := 76) dX7_kinds_76 rfl ?_
    refine e_iconst (v := 1) (pc := 77) dX7_kinds_77 (by decide) ?_
    refine e_icmp_ne (pc := 78) dX7_kinds_78 (t := 86) (by decide) (fun c_78 => absurd c_78 (by decide)) (fun _ => ?_)
    refine e_bipush (v := 10) (pc := 81) dX7_kinds_81 (by decide) ?_
    refine e_goto (pc := 83) dX7_kinds_83 (t := 88) (by decide) ?_
    refine e_icmp_ge (pc := 88) dX7_kinds_88 (t := 171) (by decide) (fun c_88 => absurd c_88 (nI_ge (by omega : i < 10) (by decide))) (fun _ => ?_)
    refine e_aloadn (pc := 91) dX7_kinds_91 rfl ?_
    refine e_get (pc := 92) dX7_kinds_92 fX7_16 rfl rfl ?_
    refine e_iloadn (pc := 95) dX7_kinds_95 rfl ?_
    refine e_iloadn (pc := 96) dX7_kinds_96 rfl ?_
    refine e_if_ne (pc := 97) dX7_kinds_97 (t := 105) (by decide) (fun _ => ?_) (fun c_97 => absurd c_97 (by decide))
    refine e_iload (pc := 105) dX7_kinds_105 rfl ?_
    refine ast_kind (pc := 107) dX7_kinds_107 v0 ?_
    refine e_aloadn (pc := 108) dX7_kinds_108 rfl ?_
    refine e_get (pc := 109) dX7_kinds_109 fX7_20 rfl rfl ?_
    refine e_iloadn (pc := 112) dX7_kinds_112 rfl ?_
    refine e_iloadn (pc := 113) dX7_kinds_113 rfl ?_
    refine e_iconst (v := 1) (pc := 114) dX7_kinds_114 (by decide) ?_
    refine e_icmp_ne (pc := 115) dX7_kinds_115 (t := 123) (by decide) (fun c_115 => absurd c_115 (by decide)) (fun _ => ?_)
    refine e_iload (pc := 118) dX7_kinds_118 rfl ?_
    refine e_goto (pc := 120) dX7_kinds_120 (t := 125) (by decide) ?_
    refine ast_ymore (pc := 125) dX7_kinds_125 v1 ?_
    rw [eb]
    refine e_aloadn (pc := 126) dX7_kinds_126 rfl ?_
    refine e_iloadn (pc := 127) dX7_kinds_127 rfl ?_
    refine e_iconst (v := 2) (pc := 128) dX7_kinds_128 (by decide) ?_
    refine e_icmp_ne (pc := 129) dX7_kinds_129 (t := 137) (by decide) (fun _ => ?_) (fun c_129 => absurd c_129 (by decide))
    refine e_iload (pc := 137) dX7_kinds_137 rfl ?_
    refine put_y_base0 (pc := 139) dX7_kinds_139 pX7_7 ?_
    rw [hm]
    refine e_iload (pc := 142) dX7_kinds_142 rfl ?_
    refine e_aloadn (pc := 144) dX7_kinds_144 rfl ?_
    refine e_iloadn (pc := 145) dX7_kinds_145 rfl ?_
    refine e_iloadn (pc := 146) dX7_kinds_146 rfl ?_
    refine e_cvX (pc := 147) (sp_y_unlike hG2 hS2 h0 hc hD) dX7_kinds_147 kX7_275 rfl rfl rfl rfl rfl (mc_CR_of (Nat.le_of_ble_eq_true rfl) (Nat.le_of_ble_eq_true rfl) (Nat.le_refl _) (Nat.le_refl _)) (Nat.le_of_ble_eq_true rfl) (fun w1 hw1 => ?_)
    obtain ⟨n1, d1, hD1, rfl⟩ := hw1
    refine e_iconst (v := -1) (pc := 150) dX7_kinds_150 (by decide) ?_
    refine e_icmp_ne (pc := 151) dX7_kinds_151 (t := 161) (by decide) (fun c_151 => ?_) (fun c_151 => ?_)
    · skip
      refine e_iconst (v := 0) (pc := 161) dX7_kinds_161 (by decide) ?_
      refine e_ior (pc := 162) dX7_kinds_162 ?_
      refine e_isw8 (pc := 163) dX7_kinds_163 (Nat.le_of_ble_eq_true rfl) rfl ?_
      refine e_incC9 (pc := 165) dX7_kinds_165 (nI_1 i) (Nat.le_of_ble_eq_true rfl) rfl ?_
      refine e_goto (pc := 168) dX7_kinds_168 (t := 65) (by decide) ?_
      exact ih (i + 1) _ _ _ n1 d1 (by omega) (by omega) (fun x => mc_up_up _ _ _ _) (fun x y => ykb_over) (by show ((B 0).set _ _).length = 5; rw [List.length_set]; exact hG.1.1) (by show ((B 1).set _ _).length = 5; rw [List.length_set]; exact hG.1.2.1) hD1 (by rw [← hV, if_neg (c := yunl (ykM M 1 (nI i)) (ykB B k0 1 (nI i)) s0 k0 = -1) c_151])
    · skip
      refine e_iconst (v := 1) (pc := 154) dX7_kinds_154 (by decide) ?_
      refine e_iload (pc := 155) dX7_kinds_155 rfl ?_
      refine e_ishl (pc := 157) dX7_kinds_157 ?_
      refine e_goto (pc := 158) dX7_kinds_158 (t := 162) (by decide) ?_
      refine e_ior (pc := 162) dX7_kinds_162 ?_
      refine e_isw8 (pc := 163) dX7_kinds_163 (Nat.le_of_ble_eq_true rfl) rfl ?_
      refine e_incC9 (pc := 165) dX7_kinds_165 (nI_1 i) (Nat.le_of_ble_eq_true rfl) rfl ?_
      refine e_goto (pc := 168) dX7_kinds_168 (t := 65) (by decide) ?_
      exact ih (i + 1) _ _ _ n1 d1 (by omega) (by omega) (fun x => mc_up_up _ _ _ _) (fun x y => ykb_over) (by show ((B 0).set _ _).length = 5; rw [List.length_set]; exact hG.1.1) (by show ((B 1).set _ _).length = 5; rw [List.length_set]; exact hG.1.2.1) hD1 (by rw [← hV, if_pos (c := yunl (ykM M 1 (nI i)) (ykB B k0 1 (nI i)) s0 k0 = -1) c_151])
set_option maxHeartbeats 1000000 in
theorem lp_y_kinds2 {s u : Nat → Int32} {a c : Nat → List Int32} {q : List (Option Nat)} {h : Nat} {z : mc_W} {M : Nat → Int32} {B : Nat → List Int32} {s0 k0 V x4 : Int32} (hG : yG M B) (hS : ySh B) (h0 : ysw B s0 = 0) (hc : mc_wi k0 0 (M 2 - 1) = true) :
    ∀ (f i : Nat) (S : Int32) (m : Nat → Int32) (b : Nat → List Int32) (n : Nat → Int32) (d : Nat → List Int32), i + f = 13 → 2 ≤ i → (∀ x, mc_up m 0 x = mc_up M 0 x) → (∀ x y, ykb b k0 x y = ykb B k0 x y) → (b 0).length = 5 → (b 1).length = 5 → yD d → ybits (fun i => yunl (ykM M 2 (nI i)) (ykB B k0 2 (nI i)) s0 k0) f i S = V →
      mc_E RX7 cX7_kinds 10 (mc_JM (some .int) false 8 0 0 (fun r' w' => r' = some (.int V) ∧ ∃ n1 d1, yD d1 ∧ w' = WW s a q u c h M B n1 d1 z)) 65 [some (.ref 29), some (.int s0), some (.int k0), some (.int 2), some (.int x4), some (.int (gt (B 0) k0)), some (.int (gt (B 1) k0)), some (.int (M 0)), some (.int S), some (.int (nI i))] [] (WW s a q u c h m b n d z) 0 0 := by
  have hk5 : vp_in k0 5 := by have := hG.k0 hc; rw [hG.1.1] at this; exact this
  obtain ⟨kr0, kr1⟩ := hG.kr hc
  intro f
  induction f with
  | zero =>
    intro i S m b n d hi hlo hm hb l0 l1 hD hV
    have e : i = 13 := by omega
    subst e
    have hV : S = V := hV
    subst hV
    have v0 : vp_in k0 (b 0).length := by rw [l0]; exact hk5
    have v1 : vp_in k0 ((mc_up b 0 ((b 0).set k0.toNatClampNeg (gt (B 0) k0))) 1).length := by show vp_in k0 (b 1).length; rw [l1]; exact hk5
    have eb : mc_up (mc_up b 0 ((b 0).set k0.toNatClampNeg (gt (B 0) k0))) 1 (((mc_up b 0 ((b 0).set k0.toNatClampNeg (gt (B 0) k0))) 1).set k0.toNatClampNeg (gt (B 1) k0)) = B := (hb _ _).trans (ykb_self (hG.k0 hc) (hG.k1 hc))
    refine e_iload (pc := 65) dX7_kinds_65 rfl ?_
    refine e_iloadn (pc := 67) dX7_kinds_67 rfl ?_
    refine e_if_ne (pc := 68) dX7_kinds_68 (t := 76) (by decide) (fun _ => ?_) (fun c_68 => absurd c_68 (by decide))
    refine e_iloadn (pc := 76) dX7_kinds_76 rfl ?_
    refine e_iconst (v := 1) (pc := 77) dX7_kinds_77 (by decide) ?_
    refine e_icmp_ne (pc := 78) dX7_kinds_78 (t := 86) (by decide) (fun _ => ?_) (fun c_78 => absurd c_78 (by decide))
    refine e_bipush (v := 13) (pc := 86) dX7_kinds_86 (by decide) ?_
    refine e_icmp_ge (pc := 88) dX7_kinds_88 (t := 171) (by decide) (fun _ => ?_) (fun c_88 => absurd (by decide) c_88)
    refine e_aloadn (pc := 171) dX7_kinds_171 rfl ?_
    refine e_get (pc := 172) dX7_kinds_172 fX7_16 rfl rfl ?_
    refine e_iloadn (pc := 175) dX7_kinds_175 rfl ?_
    refine e_iload (pc := 176) dX7_kinds_176 rfl ?_
    refine ast_kind (pc := 178) dX7_kinds_178 v0 ?_
    refine e_aloadn (pc := 179) dX7_kinds_179 rfl ?_
    refine e_get (pc := 180) dX7_kinds_180 fX7_20 rfl rfl ?_
    refine e_iloadn (pc := 183) dX7_kinds_183 rfl ?_
    refine e_iload (pc := 184) dX7_kinds_184 rfl ?_
    refine ast_ymore (pc := 186) dX7_kinds_186 v1 ?_
    rw [eb]
    refine e_aloadn (pc := 187) dX7_kinds_187 rfl ?_
    refine e_iload (pc := 188) dX7_kinds_188 rfl ?_
    refine put_y_base0 (pc := 190) dX7_kinds_190 pX7_7 ?_
    rw [hm, mc_up_self]
    refine e_iload (pc := 193) dX7_kinds_193 rfl ?_
    exact e_iret (pc := 195) dX7_kinds_195 rfl (Nat.le_refl _) (Nat.le_refl _) ⟨rfl, n, d, hD, rfl⟩
  | succ f ih =>
    intro i S m b n d hi hlo hm hb l0 l1 hD hV
    simp only [ybits] at hV
    have hii : (nI i).toInt = i := nI_toInt (by omega)
    have v0 : vp_in k0 (b 0).length := by rw [l0]; exact hk5
    have v1 : vp_in k0 ((mc_up b 0 ((b 0).set k0.toNatClampNeg (gt (B 0) k0))) 1).length := by show vp_in k0 (b 1).length; rw [l1]; exact hk5
    have eb : mc_up (mc_up b 0 ((b 0).set k0.toNatClampNeg (gt (B 0) k0))) 1 (((mc_up b 0 ((b 0).set k0.toNatClampNeg (gt (B 0) k0))) 1).set k0.toNatClampNeg (gt (B 1) k0)) = ykb B k0 (gt (B 0) k0) (gt (B 1) k0) := hb _ _
    have hG2 : yG (mc_up M 0 (nI i)) (ykb B k0 (gt (B 0) k0) (gt (B 1) k0)) := yG_kinds hG k0 kr0 kr1 (by omega)
    have hS2 : ySh (ykb B k0 (gt (B 0) k0) (gt (B 1) k0)) := hS
    have eM : ykM M 2 (nI i) = mc_up M 0 (nI i) := rfl
    have eB : ykB B k0 2 (nI i) = ykb B k0 (gt (B 0) k0) (gt (B 1) k0) := rfl
    skip
    refine e_iload (pc := 65) dX7_kinds_65 rfl ?_
    refine e_iloadn (pc := 67) dX7_kinds_67 rfl ?_
    refine e_if_ne (pc := 68) dX7_kinds_68 (t := 76) (by decide) (fun _ => ?_) (fun c_68 => absurd c_68 (by decide))
    refine e_iloadn (pc := 76) dX7_kinds_76 rfl ?_
    refine e_iconst (v := 1) (pc := 77) dX7_kinds_77 (by decide) ?_
    refine e_icmp_ne (pc := 78) dX7_kinds_78 (t := 86) (by decide) (fun _ => ?_) (fun c_78 => absurd c_78 (by decide))
    refine e_bipush (v := 13) (pc := 86) dX7_kinds_86 (by decide) ?_
    refine e_icmp_ge (pc := 88) dX7_kinds_88 (t := 171) (by decide) (fun c_88 => absurd c_88 (nI_ge (by omega : i < 13) (by decide))) (fun _ => ?_)
    refine e_aloadn (pc := 91) dX7_kinds_91 rfl ?_
    refine e_get (pc := 92) dX7_kinds_92 fX7_16 rfl rfl ?_
    refine e_iloadn (pc := 95) dX7_kinds_95 rfl ?_
    refine e_iloadn (pc := 96) dX7_kinds_96 rfl ?_
    refine e_if_ne (pc := 97) dX7_kinds_97 (t := 105) (by decide) (fun _ => ?_) (fun c_97 => absurd c_97 (by decide))
    refine e_iload (pc := 105) dX7_kinds_105 rfl ?_
    refine ast_kind (pc := 107) dX7_kinds_107 v0 ?_
    refine e_aloadn (pc := 108) dX7_kinds_108 rfl ?_
    refine e_get (pc := 109) dX7_kinds_109 fX7_20 rfl rfl ?_
    refine e_iloadn (pc := 112) dX7_kinds_112 rfl ?_
    refine e_iloadn (pc := 113) dX7_kinds_113 rfl ?_
    refine e_iconst (v := 1) (pc := 114) dX7_kinds_114 (by decide) ?_
    refine e_icmp_ne (pc := 115) dX7_kinds_115 (t := 123) (by decide) (fun _ => ?_) (fun c_115 => absurd c_115 (by decide))
    refine e_iload (pc := 123) dX7_kinds_123 rfl ?_
    refine ast_ymore (pc := 125) dX7_kinds_125 v1 ?_
    rw [eb]
    refine e_aloadn (pc := 126) dX7_kinds_126 rfl ?_
    refine e_iloadn (pc := 127) dX7_kinds_127 rfl ?_
    refine e_iconst (v := 2) (pc := 128) dX7_kinds_128 (by decide) ?_
    refine e_icmp_ne (pc := 129) dX7_kinds_129 (t := 137) (by decide) (fun c_129 => absurd c_129 (by decide)) (fun _ => ?_)
    refine e_iload (pc := 132) dX7_kinds_132 rfl ?_
    refine e_goto (pc := 134) dX7_kinds_134 (t := 139) (by decide) ?_
    refine put_y_base0 (pc := 139) dX7_kinds_139 pX7_7 ?_
    rw [hm]
    refine e_iload (pc := 142) dX7_kinds_142 rfl ?_
    refine e_aloadn (pc := 144) dX7_kinds_144 rfl ?_
    refine e_iloadn (pc := 145) dX7_kinds_145 rfl ?_
    refine e_iloadn (pc := 146) dX7_kinds_146 rfl ?_
    refine e_cvX (pc := 147) (sp_y_unlike hG2 hS2 h0 hc hD) dX7_kinds_147 kX7_275 rfl rfl rfl rfl rfl (mc_CR_of (Nat.le_of_ble_eq_true rfl) (Nat.le_of_ble_eq_true rfl) (Nat.le_refl _) (Nat.le_refl _)) (Nat.le_of_ble_eq_true rfl) (fun w1 hw1 => ?_)
    obtain ⟨n1, d1, hD1, rfl⟩ := hw1
    refine e_iconst (v := -1) (pc := 150) dX7_kinds_150 (by decide) ?_
    refine e_icmp_ne (pc := 151) dX7_kinds_151 (t := 161) (by decide) (fun c_151 => ?_) (fun c_151 => ?_)
    · skip
      refine e_iconst (v := 0) (pc := 161) dX7_kinds_161 (by decide) ?_
      refine e_ior (pc := 162) dX7_kinds_162 ?_
      refine e_isw8 (pc := 163) dX7_kinds_163 (Nat.le_of_ble_eq_true rfl) rfl ?_
      refine e_incC9 (pc := 165) dX7_kinds_165 (nI_1 i) (Nat.le_of_ble_eq_true rfl) rfl ?_
      refine e_goto (pc := 168) dX7_kinds_168 (t := 65) (by decide) ?_
      exact ih (i + 1) _ _ _ n1 d1 (by omega) (by omega) (fun x => mc_up_up _ _ _ _) (fun x y => ykb_over) (by show ((B 0).set _ _).length = 5; rw [List.length_set]; exact hG.1.1) (by show ((B 1).set _ _).length = 5; rw [List.length_set]; exact hG.1.2.1) hD1 (by rw [← hV, if_neg (c := yunl (ykM M 2 (nI i)) (ykB B k0 2 (nI i)) s0 k0 = -1) c_151])
    · skip
      refine e_iconst (v := 1) (pc := 154) dX7_kinds_154 (by decide) ?_
      refine e_iload (pc := 155) dX7_kinds_155 rfl ?_
      refine e_ishl (pc := 157) dX7_kinds_157 ?_
      refine e_goto (pc := 158) dX7_kinds_158 (t := 162) (by decide) ?_
      refine e_ior (pc := 162) dX7_kinds_162 ?_
      refine e_isw8 (pc := 163) dX7_kinds_163 (Nat.le_of_ble_eq_true rfl) rfl ?_
      refine e_incC9 (pc := 165) dX7_kinds_165 (nI_1 i) (Nat.le_of_ble_eq_true rfl) rfl ?_
      refine e_goto (pc := 168) dX7_kinds_168 (t := 65) (by decide) ?_
      exact ih (i + 1) _ _ _ n1 d1 (by omega) (by omega) (fun x => mc_up_up _ _ _ _) (fun x y => ykb_over) (by show ((B 0).set _ _).length = 5; rw [List.length_set]; exact hG.1.1) (by show ((B 1).set _ _).length = 5; rw [List.length_set]; exact hG.1.2.1) hD1 (by rw [← hV, if_pos (c := yunl (ykM M 2 (nI i)) (ykB B k0 2 (nI i)) s0 k0 = -1) c_151])
theorem wi02 {w : Int32} (h : mc_wi w 0 2 = true) (h2 : ¬ w = 2) : w = 0 ∨ w = 1 := by
  rw [mc_wi_iff] at h
  have e0 : (0 : Int32).toInt = 0 := rfl
  have e1 : (1 : Int32).toInt = 1 := rfl
  have e2 : (2 : Int32).toInt = 2 := rfl
  rw [e0, e2] at h
  have : ¬ w.toInt = 2 := fun q => h2 (Int32.toInt_inj.mp q)
  by_cases g : w.toInt = 0
  · exact Or.inl (Int32.toInt_inj.mp g)
  · exact Or.inr (Int32.toInt_inj.mp (by rw [e1]; omega))
theorem sp_y_kinds {s u m n : Nat → Int32} {a c b d : Nat → List Int32} {q : List (Option Nat)} {h : Nat} {z : mc_W} {s0 k so : Int32} (hG : yG m b) (hS : ySh b) (hD : yD d) : mc_T yX7_kinds cX7_kinds 10 (some .int) 8 [.ref 29, .int s0, .int k, .int so] (WW s a q u c h m b n d z) (some (.int (ykinds m b s0 k so))) (fun w' => ∃ n1 d1, yD d1 ∧ w' = WW s a q u c h m b n1 d1 z) := by
  refine mc_start (own := RX7) (ini := false) rfl (by decide +kernel) (fun h => by cases h) (Nat.le_of_ble_eq_true rfl) ?_
  show mc_E _ _ _ _ _ [some (.ref 29), some (.int s0), some (.int k), some (.int so), none, none, none, none, none, none] [] _ _ _
  refine e_aloadn (pc := 0) dX7_kinds_0 rfl ?_
  refine e_iloadn (pc := 1) dX7_kinds_1 rfl ?_
  refine e_iloadn (pc := 2) dX7_kinds_2 rfl ?_
  refine e_cvD (pc := 3) (sp_y_toldWrong hG.1 hS) dX7_kinds_3 kX7_272 rfl rfl rfl rfl rfl (mc_CR_of (Nat.le_of_ble_eq_true rfl) (Nat.le_of_ble_eq_true rfl) (Nat.le_refl _) (Nat.le_refl _)) (Nat.le_of_ble_eq_true rfl) ?_
  refine e_isw4 (pc := 6) dX7_kinds_6 (Nat.le_of_ble_eq_true rfl) rfl ?_
  refine e_iload (pc := 8) dX7_kinds_8 rfl ?_
  refine e_if_eq (pc := 10) dX7_kinds_10 (t := 16) (by decide) (fun c_10 => ?_) (fun c_10 => ?_)
  · skip
    refine e_iloadn (pc := 16) dX7_kinds_16 rfl ?_
    refine e_iconst (v := 0) (pc := 17) dX7_kinds_17 (by decide) ?_
    refine e_iconst (v := 2) (pc := 18) dX7_kinds_18 (by decide) ?_
    refine e_csD (pc := 19) (sp_y_in) dX7_kinds_19 kX7_75 rfl rfl (mc_CR_of (Nat.le_of_ble_eq_true rfl) (Nat.le_of_ble_eq_true rfl) (Nat.le_refl _) (Nat.le_refl _)) (Nat.le_of_ble_eq_true rfl) ?_
    refine e_if_ne (pc := 22) dX7_kinds_22 (t := 28) (by decide) (fun c_22 => ?_) (fun c_22 => ?_)
    · skip
      refine e_aloadn (pc := 28) dX7_kinds_28 rfl ?_
      refine e_get (pc := 29) dX7_kinds_29 fX7_16 rfl rfl ?_
      refine e_iloadn (pc := 32) dX7_kinds_32 rfl ?_
      refine ald_kind (pc := 33) dX7_kinds_33 (hG.k0 (ytw0 c_10).2) ?_
      refine e_isw5 (pc := 34) dX7_kinds_34 (Nat.le_of_ble_eq_true rfl) rfl ?_
      refine e_aloadn (pc := 36) dX7_kinds_36 rfl ?_
      refine e_get (pc := 37) dX7_kinds_37 fX7_20 rfl rfl ?_
      refine e_iloadn (pc := 40) dX7_kinds_40 rfl ?_
      refine ald_ymore (pc := 41) dX7_kinds_41 (hG.k1 (ytw0 c_10).2) ?_
      refine e_isw6 (pc := 42) dX7_kinds_42 (Nat.le_of_ble_eq_true rfl) rfl ?_
      refine e_aloadn (pc := 44) dX7_kinds_44 rfl ?_
      refine e_get (pc := 45) dX7_kinds_45 fX7_7 rfl rfl ?_
      refine e_isw7 (pc := 48) dX7_kinds_48 (Nat.le_of_ble_eq_true rfl) rfl ?_
      refine e_iconst (v := 0) (pc := 50) dX7_kinds_50 (by decide) ?_
      refine e_isw8 (pc := 51) dX7_kinds_51 (Nat.le_of_ble_eq_true rfl) rfl ?_
      refine e_iloadn (pc := 53) dX7_kinds_53 rfl ?_
      refine e_iconst (v := 2) (pc := 54) dX7_kinds_54 (by decide) ?_
      refine e_icmp_ne (pc := 55) dX7_kinds_55 (t := 62) (by decide) (fun c_55 => ?_) (fun c_55 => ?_)
      · skip
        refine e_iconst (v := 0) (pc := 62) dX7_kinds_62 (by decide) ?_
        refine e_isw9 (pc := 63) dX7_kinds_63 (Nat.le_of_ble_eq_true rfl) rfl ?_
        rcases wi02 (mc_b1.mp c_22) c_55 with rfl | rfl
        · exact lp_y_kinds0 (M := m) (B := b) hG hS (ytw0 c_10).1 (ytw0 c_10).2 6 0 0 m b n d (by omega) (by omega) (fun _ => rfl) (fun _ _ => rfl) hG.1.1 hG.1.2.1 hD (by unfold ykinds; rw [if_neg (fun q => q c_10), if_neg (nbf (mc_b1.mp c_22))]; rfl)
        · exact lp_y_kinds1 (M := m) (B := b) hG hS (ytw0 c_10).1 (ytw0 c_10).2 10 0 0 m b n d (by omega) (by omega) (fun _ => rfl) (fun _ _ => rfl) hG.1.1 hG.1.2.1 hD (by unfold ykinds; rw [if_neg (fun q => q c_10), if_neg (nbf (mc_b1.mp c_22))]; rfl)
      · skip
        refine e_iconst (v := 2) (pc := 58) dX7_kinds_58 (by decide) ?_
        refine e_goto (pc := 59) dX7_kinds_59 (t := 63) (by decide) ?_
        refine e_isw9 (pc := 63) dX7_kinds_63 (Nat.le_of_ble_eq_true rfl) rfl ?_
        subst c_55
        exact lp_y_kinds2 (M := m) (B := b) hG hS (ytw0 c_10).1 (ytw0 c_10).2 11 2 0 m b n d (by omega) (by omega) (fun _ => rfl) (fun _ _ => rfl) hG.1.1 hG.1.2.1 hD (by unfold ykinds; rw [if_neg (fun q => q c_10), if_neg (nbf (mc_b1.mp c_22))]; rfl)
    · skip
      refine e_bipush (v := -7) (pc := 25) dX7_kinds_25 (by decide) ?_
      exact e_iret (pc := 27) dX7_kinds_27 rfl (Nat.le_refl _) (Nat.le_refl _) ⟨by unfold ykinds; rw [if_neg (fun q => q c_10), if_pos (c := mc_wi so 0 2 = false) (mc_b0.mp c_22)], n, d, hD, rfl⟩
  · skip
    refine e_iload (pc := 13) dX7_kinds_13 rfl ?_
    exact e_iret (pc := 15) dX7_kinds_15 rfl (Nat.le_refl _) (Nat.le_refl _) ⟨by unfold ykinds; rw [if_pos c_10], n, d, hD, rfl⟩
end Zj_36_y17
section Zj_37_y18
/-! film -/
def yclip (x : Int64) : Int32 := if 2147483647 < x then 2147483647 else x.toInt32
def yflm (m : Nat → Int32) (b : Nat → List Int32) (k : Int32) (σ F S : Nat) : Nat → Nat → List Int32 → List Int32
  | 0, _, l => l
  | g + 1, i, l => yflm m b k σ F S g (i + 1) ((l.set (40 * σ + 2 * i) (nI (F + i * S))).set (40 * σ + 2 * i + 1) (yclip (ypl m b k (nI (F + i * S)))))
theorem yflm_len (m : Nat → Int32) (b : Nat → List Int32) (k : Int32) (σ F S : Nat) : ∀ g i l, (yflm m b k σ F S g i l).length = l.length := by
  intro g
  induction g with
  | zero => intro i l; rfl
  | succ g ih => intro i l; unfold yflm; rw [ih, List.length_set, List.length_set]
theorem yflm_congr {m : Nat → Int32} {B b : Nat → List Int32} {k : Int32} (h : ∀ v, ypl m B k v = ypl m b k v) (σ F S : Nat) : ∀ g i l, yflm m B k σ F S g i l = yflm m b k σ F S g i l := by
  intro g
  induction g with
  | zero => intro i l; rfl
  | succ g ih => intro i l; simp only [yflm]; rw [h, ih]
def yfm1 (m : Nat → Int32) (s k fr sm : Int32) : Int32 :=
  if mc_wi s 0 3 = false then -2 else if mc_wi k 0 (m 2 - 1) = false then -5
  else if mc_wi fr 0 999 = false ∨ mc_wi sm 0 9920 = false ∨ 20 < sm - sm / 100 * 100 then -7 else sm - sm / 100 * 100
def yfmc (m : Nat → Int32) (s k fr sm : Int32) : Bool := mc_wi s 0 3 && mc_wi k 0 (m 2 - 1) && mc_wi fr 0 999 && mc_wi sm 0 9920 && decide (sm - sm / 100 * 100 ≤ 20)
def yfmx (m : Nat → Int32) (b : Nat → List Int32) (s k fr sm : Int32) : Nat → List Int32 :=
  mc_up (mc_up (mc_up b 7 ((b 7).set s.toNatClampNeg 2)) 8 ((b 8).set s.toNatClampNeg (2 * (sm - sm / 100 * 100)))) 9
    (yflm m b k s.toNatClampNeg fr.toNatClampNeg (sm / 100).toNatClampNeg (sm - sm / 100 * 100).toNatClampNeg 0 (yzr s.toNatClampNeg 40 0 (b 9)))
def yfmb (m : Nat → Int32) (b : Nat → List Int32) (s k fr sm : Int32) : Nat → List Int32 := if yfmc m s k fr sm = true then yfmx m b s k fr sm else b
theorem cl2 {σ i : Nat} : 40 * nI σ + 2 * nI i = nI (40 * σ + 2 * i) := by
  rw [show (40 : Int32) * nI σ = nI (40 * σ) from pk_mul 40 σ, show (2 : Int32) * nI i = nI (2 * i) from pk_mul 2 i, nI_add]
theorem lp_y_film0 {s u m n : Nat → Int32} {a c d : Nat → List Int32} {q : List (Option Nat)} {h : Nat} {z : mc_W} {Post : Option Value → mc_W → Prop} {B : Nat → List Int32} {L : List Int32} {σ : Nat} (hs : σ < 4) {k0 f0 g0 w0 : Int32} {x7 x8 x9 : Option Value}
    (hK : mc_E RX7 cX7_film 10 (mc_JM (some .int) false 7 0 0 Post) 112 [some (.ref 29), some (.int (nI σ)), some (.int k0), some (.int f0), some (.int g0), some (.int w0), some (.int (nI 40)), x7, x8, x9] [] (WW s a q u c h m (mc_up B 9 L) n d z) 0 0) :
    ∀ (g i : Nat) (l : List Int32) (b : Nat → List Int32), b = mc_up B 9 l → i + g = 40 → l.length = 160 → yzr σ g i l = L →
      mc_E RX7 cX7_film 10 (mc_JM (some .int) false 7 0 0 Post) 86 [some (.ref 29), some (.int (nI σ)), some (.int k0), some (.int f0), some (.int g0), some (.int w0), some (.int (nI i)), x7, x8, x9] [] (WW s a q u c h m b n d z) 0 0 := by
  intro g
  induction g with
  | zero =>
    intro i l b hb hi hl hx
    have e : i = 40 := by omega
    subst e
    have hx : l = L := hx
    subst hx hb
    refine e_iload (pc := 86) dX7_film_86 rfl ?_
    refine e_bipush (v := 40) (pc := 88) dX7_film_88 (by decide) ?_
    refine e_icmp_ge (pc := 90) dX7_film_90 (t := 112) (by decide) (fun _ => ?_) (fun c_90 => absurd (by decide) c_90)
    exact hK
  | succ g ih =>
    intro i l b hb hi hl hx
    subst hb
    have iv2 : vp_in (40 * nI σ + nI i) ((mc_up B 9 l) 9).length := cl_in hl hs (by omega)
    refine e_iload (pc := 86) dX7_film_86 rfl ?_
    refine e_bipush (v := 40) (pc := 88) dX7_film_88 (by decide) ?_
    refine e_icmp_ge (pc := 90) dX7_film_90 (t := 112) (by decide) (fun c_90 => absurd c_90 (nI_ge (by omega : i < 40) (by decide))) (fun _ => ?_)
    refine e_aloadn (pc := 93) dX7_film_93 rfl ?_
    refine e_get (pc := 94) dX7_film_94 fX7_44 rfl rfl ?_
    refine e_bipush (v := 40) (pc := 97) dX7_film_97 (by decide) ?_
    refine e_iloadn (pc := 99) dX7_film_99 rfl ?_
    refine e_imul (pc := 100) dX7_film_100 ?_
    refine e_iload (pc := 101) dX7_film_101 rfl ?_
    refine e_iadd (pc := 103) dX7_film_103 ?_
    refine e_iconst (v := 0) (pc := 104) dX7_film_104 (by decide) ?_
    refine ast_ycells (pc := 105) dX7_film_105 iv2 ?_
    rw [up_setl, cl_at hs (by omega)]
    refine e_incC6 (pc := 106) dX7_film_106 (nI_1 i) (Nat.le_of_ble_eq_true rfl) rfl ?_
    refine e_goto (pc := 109) dX7_film_109 (t := 86) (by decide) ?_
    exact ih (i + 1) _ _ rfl (by omega) (by rw [List.length_set]; exact hl) hx
set_option maxHeartbeats 1000000 in
theorem lp_y_film {s u m : Nat → Int32} {a c : Nat → List Int32} {q : List (Option Nat)} {h : Nat} {z : mc_W} {B : Nat → List Int32} {L : List Int32} {k0 sm : Int32} {σ F S N : Nat} (hG : yG m B) (hc : mc_wi k0 0 (m 2 - 1) = true) (hs : σ < 4) (hF : F ≤ 999) (hSS : S ≤ 99) (hN : N ≤ 20) (eS : sm / 100 = nI S) :
    ∀ (g i : Nat) (l : List Int32) (b : Nat → List Int32) (n : Nat → Int32) (d : Nat → List Int32) (x7 x8 x9 : Option Value), b = mc_up B 9 l → i + g = N → l.length = 160 → yD d → yflm m B k0 σ F S g i l = L →
      mc_E RX7 cX7_film 10 (mc_JM (some .int) false 7 0 0 (fun r' w' => r' = some (.int (nI N)) ∧ ∃ n1 d1, yD d1 ∧ w' = WW s a q u c h m (mc_up B 9 L) n1 d1 z)) 115 [some (.ref 29), some (.int (nI σ)), some (.int k0), some (.int (nI F)), some (.int sm), some (.int (nI N)), some (.int (nI i)), x7, x8, x9] [] (WW s a q u c h m b n d z) 0 0 := by
  intro g
  induction g with
  | zero =>
    intro i l b n d x7 x8 x9 hb hi hl hD hV
    have e : i = N := by omega
    subst e
    have hV : l = L := hV
    subst hV hb
    refine e_iload (pc := 115) dX7_film_115 rfl ?_
    refine e_iload (pc := 117) dX7_film_117 rfl ?_
    refine e_icmp_ge (pc := 119) dX7_film_119 (t := 199) (by decide) (fun _ => ?_) (fun c_119 => absurd (Int32.le_refl _) c_119)
    refine e_iload (pc := 199) dX7_film_199 rfl ?_
    exact e_iret (pc := 201) dX7_film_201 rfl (Nat.le_refl _) (Nat.le_refl _) ⟨rfl, n, d, hD, rfl⟩
  | succ g ih =>
    intro i l b n d x7 x8 x9 hb hi hl hD hV
    subst hb
    have hi20 : i < 20 := by omega
    have hiS : i * S ≤ 1980 := Nat.le_trans (Nat.mul_le_mul (by omega : i ≤ 20) hSS) (by decide)
    have ev : nI F + nI i * nI S = nI (F + i * S) := by rw [pk_mul i S, nI_add]
    have hv : mc_wi (nI (F + i * S)) 0 99999 = true := by
      rw [mc_wi_iff, nI_toInt (by omega), show (0 : Int32).toInt = 0 from rfl, show (99999 : Int32).toInt = 99999 from rfl]; omega
    have i1 : ∀ l : List Int32, l.length = 160 → vp_in (40 * nI σ + 2 * nI i) l.length := fun l hl => by rw [cl2, hl]; exact vp_in_nI (by omega) (by decide)
    have i2 : ∀ l : List Int32, l.length = 160 → vp_in (40 * nI σ + 2 * nI i + 1) l.length := fun l hl => by rw [cl2, nI_1, hl]; exact vp_in_nI (by omega) (by decide)
    have t1 : (40 * nI σ + 2 * nI i).toNatClampNeg = 40 * σ + 2 * i := by rw [cl2, nIc (by omega)]
    have t2 : (40 * nI σ + 2 * nI i + 1).toNatClampNeg = 40 * σ + 2 * i + 1 := by rw [cl2, nI_1, nIc (by omega)]
    simp only [yflm] at hV
    have hG2 : yG m (mc_up B 9 l) := ⟨⟨hG.1.1, hG.1.2.1, hG.1.2.2.1, hG.1.2.2.2.1, hG.1.2.2.2.2.1, hG.1.2.2.2.2.2.1, hG.1.2.2.2.2.2.2.1, hG.1.2.2.2.2.2.2.2.1, hG.1.2.2.2.2.2.2.2.2.1, hl⟩, hG.2.1, hG.2.2.1, hG.2.2.2.1, hG.2.2.2.2.1, hG.2.2.2.2.2⟩
    have ep : ypl m (mc_up B 9 l) k0 (nI (F + i * S)) = ypl m B k0 (nI (F + i * S)) := rfl
    refine e_iload (pc := 115) dX7_film_115 rfl ?_
    refine e_iload (pc := 117) dX7_film_117 rfl ?_
    refine e_icmp_ge (pc := 119) dX7_film_119 (t := 199) (by decide) (fun c_119 => absurd c_119 (nI_ge (by omega : i < N) (by omega))) (fun _ => ?_)
    refine e_iloadn (pc := 122) dX7_film_122 rfl ?_
    refine e_iload (pc := 123) dX7_film_123 rfl ?_
    refine e_iload (pc := 125) dX7_film_125 rfl ?_
    refine e_bipush (v := 100) (pc := 127) dX7_film_127 (by decide) ?_
    refine e_idiv (pc := 129) dX7_film_129 (by decide) ?_
    refine e_top (eS) ?_
    refine e_imul (pc := 130) dX7_film_130 ?_
    refine e_iadd (pc := 131) dX7_film_131 ?_
    refine e_top (ev) ?_
    refine e_isw7 (pc := 132) dX7_film_132 (Nat.le_of_ble_eq_true rfl) rfl ?_
    refine e_aloadn (pc := 134) dX7_film_134 rfl ?_
    refine e_iloadn (pc := 135) dX7_film_135 rfl ?_
    refine e_iload (pc := 136) dX7_film_136 rfl ?_
    refine e_cvX (pc := 138) (sp_y_plainOf hG2 hc hv hD) dX7_film_138 kX7_198 rfl rfl rfl rfl rfl (mc_CR_of (Nat.le_of_ble_eq_true rfl) (Nat.le_of_ble_eq_true rfl) (Nat.le_refl _) (Nat.le_refl _)) (Nat.le_of_ble_eq_true rfl) (fun w1 hw1 => ?_)
    obtain ⟨n1, d1, hD1, rfl⟩ := hw1
    rw [ep]
    refine e_lsw8 (pc := 141) dX7_film_141 (Nat.le_of_ble_eq_true rfl) rfl ?_
    refine e_aloadn (pc := 143) dX7_film_143 rfl ?_
    refine e_get (pc := 144) dX7_film_144 fX7_44 rfl rfl ?_
    refine e_bipush (v := 40) (pc := 147) dX7_film_147 (by decide) ?_
    refine e_iloadn (pc := 149) dX7_film_149 rfl ?_
    refine e_imul (pc := 150) dX7_film_150 ?_
    refine e_iconst (v := 2) (pc := 151) dX7_film_151 (by decide) ?_
    refine e_iload (pc := 152) dX7_film_152 rfl ?_
    refine e_imul (pc := 154) dX7_film_154 ?_
    refine e_iadd (pc := 155) dX7_film_155 ?_
    refine e_iload (pc := 156) dX7_film_156 rfl ?_
    refine ast_ycells (pc := 158) dX7_film_158 (i1 _ hl) ?_
    rw [up_setl, t1]
    refine e_aloadn (pc := 159) dX7_film_159 rfl ?_
    refine e_get (pc := 160) dX7_film_160 fX7_44 rfl rfl ?_
    refine e_bipush (v := 40) (pc := 163) dX7_film_163 (by decide) ?_
    refine e_iloadn (pc := 165) dX7_film_165 rfl ?_
    refine e_imul (pc := 166) dX7_film_166 ?_
    refine e_iconst (v := 2) (pc := 167) dX7_film_167 (by decide) ?_
    refine e_iload (pc := 168) dX7_film_168 rfl ?_
    refine e_imul (pc := 170) dX7_film_170 ?_
    refine e_iadd (pc := 171) dX7_film_171 ?_
    refine e_iconst (v := 1) (pc := 172) dX7_film_172 (by decide) ?_
    refine e_iadd (pc := 173) dX7_film_173 ?_
    refine e_lload (pc := 174) dX7_film_174 rfl ?_
    refine e_ldc2 (pc := 176) dX7_film_176 qX7_278 ?_
    refine e_lcmp (pc := 179) dX7_film_179 ?_
    refine e_if_le (pc := 180) dX7_film_180 (t := 189) (by decide) (fun c_180 => ?_) (fun c_180 => ?_)
    · skip
      refine e_lload (pc := 189) dX7_film_189 rfl ?_
      refine e_l2i (pc := 191) dX7_film_191 ?_
      refine ast_ycells (pc := 192) dX7_film_192 (i2 _ (by show (l.set _ _).length = 160; rw [List.length_set]; exact hl)) ?_
      rw [up_setl, t2]
      refine e_incC6 (pc := 193) dX7_film_193 (nI_1 i) (Nat.le_of_ble_eq_true rfl) rfl ?_
      refine e_goto (pc := 196) dX7_film_196 (t := 115) (by decide) ?_
      exact ih (i + 1) _ _ n1 d1 _ _ _ rfl (by omega) (by rw [List.length_set, List.length_set]; exact hl) hD1 (by rw [← hV]; unfold yclip; rw [if_neg (mc_cmp_le.mp c_180)])
    · skip
      refine e_ldcw (pc := 183) dX7_film_183 qX7_280 ?_
      refine e_goto (pc := 186) dX7_film_186 (t := 192) (by decide) ?_
      refine ast_ycells (pc := 192) dX7_film_192 (i2 _ (by show (l.set _ _).length = 160; rw [List.length_set]; exact hl)) ?_
      rw [up_setl, t2]
      refine e_incC6 (pc := 193) dX7_film_193 (nI_1 i) (Nat.le_of_ble_eq_true rfl) rfl ?_
      refine e_goto (pc := 196) dX7_film_196 (t := 115) (by decide) ?_
      exact ih (i + 1) _ _ n1 d1 _ _ _ rfl (by omega) (by rw [List.length_set, List.length_set]; exact hl) hD1 (by rw [← hV]; unfold yclip; rw [if_pos (mc_cg c_180)])
theorem sp_y_film {s u m n : Nat → Int32} {a c b d : Nat → List Int32} {q : List (Option Nat)} {h : Nat} {z : mc_W} {s0 k fr sm : Int32} (hG : yG m b) (hD : yD d) : mc_T yX7_film cX7_film 10 (some .int) 7 [.ref 29, .int s0, .int k, .int fr, .int sm] (WW s a q u c h m b n d z) (some (.int (yfm1 m s0 k fr sm))) (fun w' => ∃ n1 d1, yD d1 ∧ w' = WW s a q u c h m (yfmb m b s0 k fr sm) n1 d1 z) := by
  refine mc_start (own := RX7) (ini := false) rfl (by decide +kernel) (fun h => by cases h) (Nat.le_of_ble_eq_true rfl) ?_
  show mc_E _ _ _ _ _ [some (.ref 29), some (.int s0), some (.int k), some (.int fr), some (.int sm), none, none, none, none, none] [] _ _ _
  refine e_iloadn (pc := 0) dX7_film_0 rfl ?_
  refine e_iconst (v := 0) (pc := 1) dX7_film_1 (by decide) ?_
  refine e_iconst (v := 3) (pc := 2) dX7_film_2 (by decide) ?_
  refine e_csD (pc := 3) (sp_y_in) dX7_film_3 kX7_75 rfl rfl (mc_CR_of (Nat.le_of_ble_eq_true rfl) (Nat.le_of_ble_eq_true rfl) (Nat.le_refl _) (Nat.le_refl _)) (Nat.le_of_ble_eq_true rfl) ?_
  refine e_if_ne (pc := 6) dX7_film_6 (t := 12) (by decide) (fun c_6 => ?_) (fun c_6 => ?_)
  · skip
    refine e_aloadn (pc := 12) dX7_film_12 rfl ?_
    refine e_iloadn (pc := 13) dX7_film_13 rfl ?_
    refine e_cvD (pc := 14) (sp_y_isClerk) dX7_film_14 kX7_159 rfl rfl rfl rfl rfl (mc_CR_of (Nat.le_of_ble_eq_true rfl) (Nat.le_of_ble_eq_true rfl) (Nat.le_refl _) (Nat.le_refl _)) (Nat.le_of_ble_eq_true rfl) ?_
    refine e_if_ne (pc := 17) dX7_film_17 (t := 23) (by decide) (fun c_17 => ?_) (fun c_17 => ?_)
    · skip
      refine e_iloadn (pc := 23) dX7_film_23 rfl ?_
      refine e_iconst (v := 0) (pc := 24) dX7_film_24 (by decide) ?_
      refine e_sipush (v := 999) (pc := 25) dX7_film_25 (by decide) ?_
      refine e_csD (pc := 28) (sp_y_in) dX7_film_28 kX7_75 rfl rfl (mc_CR_of (Nat.le_of_ble_eq_true rfl) (Nat.le_of_ble_eq_true rfl) (Nat.le_refl _) (Nat.le_refl _)) (Nat.le_of_ble_eq_true rfl) ?_
      refine e_if_eq (pc := 31) dX7_film_31 (t := 56) (by decide) (fun c_31 => ?_) (fun c_31 => ?_)
      · skip
        refine e_bipush (v := -7) (pc := 56) dX7_film_56 (by decide) ?_
        exact e_iret (pc := 58) dX7_film_58 rfl (Nat.le_refl _) (Nat.le_refl _) (have e1 : yfm1 m s0 k fr sm = -7 := (by unfold yfm1; rw [if_neg (c := mc_wi s0 0 3 = false) (nbf (mc_b1.mp c_6)), if_neg (c := mc_wi k 0 (m 2 - 1) = false) (nbf (mc_b1.mp c_17)), if_pos (Or.inl (mc_b0.mp c_31))]); have e2 : yfmc m s0 k fr sm = false := (by simp [yfmc, mc_b0.mp c_31]); ⟨by rw [e1], n, d, hD, by unfold yfmb; rw [e2]; rfl⟩)
      · skip
        refine e_iload (pc := 34) dX7_film_34 rfl ?_
        refine e_iconst (v := 0) (pc := 36) dX7_film_36 (by decide) ?_
        refine e_sipush (v := 9920) (pc := 37) dX7_film_37 (by decide) ?_
        refine e_csD (pc := 40) (sp_y_in) dX7_film_40 kX7_75 rfl rfl (mc_CR_of (Nat.le_of_ble_eq_true rfl) (Nat.le_of_ble_eq_true rfl) (Nat.le_refl _) (Nat.le_refl _)) (Nat.le_of_ble_eq_true rfl) ?_
        refine e_if_eq (pc := 43) dX7_film_43 (t := 56) (by decide) (fun c_43 => ?_) (fun c_43 => ?_)
        · skip
          refine e_bipush (v := -7) (pc := 56) dX7_film_56 (by decide) ?_
          exact e_iret (pc := 58) dX7_film_58 rfl (Nat.le_refl _) (Nat.le_refl _) (have e1 : yfm1 m s0 k fr sm = -7 := (by unfold yfm1; rw [if_neg (c := mc_wi s0 0 3 = false) (nbf (mc_b1.mp c_6)), if_neg (c := mc_wi k 0 (m 2 - 1) = false) (nbf (mc_b1.mp c_17)), if_pos (Or.inr (Or.inl (mc_b0.mp c_43)))]); have e2 : yfmc m s0 k fr sm = false := (by simp [yfmc, mc_b0.mp c_43]); ⟨by rw [e1], n, d, hD, by unfold yfmb; rw [e2]; rfl⟩)
        · skip
          refine e_iload (pc := 46) dX7_film_46 rfl ?_
          refine e_bipush (v := 100) (pc := 48) dX7_film_48 (by decide) ?_
          refine e_irem (pc := 50) dX7_film_50 (by decide) ?_
          refine e_bipush (v := 20) (pc := 51) dX7_film_51 (by decide) ?_
          refine e_icmp_le (pc := 53) dX7_film_53 (t := 59) (by decide) (fun c_53 => ?_) (fun c_53 => ?_)
          · skip
            refine e_iload (pc := 59) dX7_film_59 rfl ?_
            refine e_bipush (v := 100) (pc := 61) dX7_film_61 (by decide) ?_
            refine e_irem (pc := 63) dX7_film_63 (by decide) ?_
            refine e_isw5 (pc := 64) dX7_film_64 (Nat.le_of_ble_eq_true rfl) rfl ?_
            refine e_aloadn (pc := 66) dX7_film_66 rfl ?_
            refine e_get (pc := 67) dX7_film_67 fX7_38 rfl rfl ?_
            refine e_iloadn (pc := 70) dX7_film_70 rfl ?_
            refine e_iconst (v := 2) (pc := 71) dX7_film_71 (by decide) ?_
            refine ast_sheetSort (pc := 72) dX7_film_72 (sh7 hG.1 (mc_b1.mp c_6)) ?_
            refine e_aloadn (pc := 73) dX7_film_73 rfl ?_
            refine e_get (pc := 74) dX7_film_74 fX7_41 rfl rfl ?_
            refine e_iloadn (pc := 77) dX7_film_77 rfl ?_
            refine e_iconst (v := 2) (pc := 78) dX7_film_78 (by decide) ?_
            refine e_iload (pc := 79) dX7_film_79 rfl ?_
            refine e_imul (pc := 81) dX7_film_81 ?_
            refine ast_sheetSize (pc := 82) dX7_film_82 (sh8 hG.1 (mc_b1.mp c_6)) ?_
            refine e_iconst (v := 0) (pc := 83) dX7_film_83 (by decide) ?_
            refine e_isw6 (pc := 84) dX7_film_84 (Nat.le_of_ble_eq_true rfl) rfl ?_
            have q6 := mc_b1.mp c_6
            have q17 := mc_b1.mp c_17
            have q31 : mc_wi fr 0 999 = true := by simpa [mc_b0] using c_31
            have q43 : mc_wi sm 0 9920 = true := by simpa [mc_b0] using c_43
            have e1 : yfm1 m s0 k fr sm = sm - sm / 100 * 100 := by unfold yfm1; rw [if_neg (nbf q6), if_neg (nbf q17), if_neg (fun q => q.elim (nbf q31) (fun q => q.elim (nbf q43) (fun q => absurd q (Int32.not_lt.mpr c_53))))]
            have e2 : yfmb m b s0 k fr sm = yfmx m b s0 k fr sm := by unfold yfmb; rw [if_pos (by unfold yfmc; rw [q6, q17, q31, q43, decide_eq_true c_53]; rfl)]
            rw [e1, e2]
            clear e1 e2
            have hs4 : vp_in s0 4 := vp_in_w2 q6 (by decide) (by decide)
            obtain ⟨σ, h4, rfl⟩ := vp_in_of hs4 (by decide)
            have hf := mc_wi_iff.mp q31
            have hg := mc_wi_iff.mp q43
            rw [show (0 : Int32).toInt = 0 from rfl, show (999 : Int32).toInt = 999 from rfl] at hf
            rw [show (0 : Int32).toInt = 0 from rfl, show (9920 : Int32).toInt = 9920 from rfl] at hg
            obtain ⟨F, hF, rfl⟩ : ∃ F : Nat, F ≤ 999 ∧ fr = nI F := ⟨fr.toNatClampNeg, by have := tnc hf.1; omega, nI_back hf.1⟩
            obtain ⟨P, hP, rfl⟩ : ∃ P : Nat, P ≤ 9920 ∧ sm = nI P := ⟨sm.toNatClampNeg, by have := tnc hg.1; omega, nI_back hg.1⟩
            have eS : nI P / 100 = nI (P / 100) := pk_div (a := P) (d := 100) (by omega) (by decide) (by decide)
            have eR : nI P - nI P / 100 * 100 = nI (P % 100) := pk_rem (a := P) (d := 100) (by omega) (by decide) (by decide)
            have hR : P % 100 ≤ 20 := by
              have := c_53
              rw [eR, Int32.le_iff_toInt_le, nI_toInt (by omega), show (20 : Int32).toInt = 20 from rfl] at this
              omega
            unfold yfmx
            rw [eR, eS, nIc (n := σ) (by omega), nIc (n := F) (by omega), nIc (n := P / 100) (by omega), nIc (n := P % 100) (by omega)]
            have KF := lp_y_film (s := s) (a := a) (q := q) (u := u) (c := c) (h := h) (z := z) (B := mc_up (mc_up b 7 ((b 7).set σ 2)) 8 ((b 8).set σ (2 * nI (P % 100)))) (k0 := k) (sm := nI P) (σ := σ) (F := F) (S := P / 100) (N := P % 100) ⟨⟨hG.1.1, hG.1.2.1, hG.1.2.2.1, hG.1.2.2.2.1, hG.1.2.2.2.2.1, hG.1.2.2.2.2.2.1, hG.1.2.2.2.2.2.2.1, (by show ((b 7).set σ 2).length = 4; rw [List.length_set]; exact hG.1.2.2.2.2.2.2.2.1), (by show ((b 8).set σ _).length = 4; rw [List.length_set]; exact hG.1.2.2.2.2.2.2.2.2.1), hG.1.2.2.2.2.2.2.2.2.2⟩, hG.2.1, hG.2.2.1, hG.2.2.2.1, hG.2.2.2.2.1, hG.2.2.2.2.2⟩ q17 h4 hF (by omega) hR eS (P % 100) 0 (yzr σ 40 0 (b 9)) _ n d none none none rfl (by omega) (by rw [yzr_len]; exact hG.1.2.2.2.2.2.2.2.2.2) hD (yflm_congr (m := m) (B := mc_up (mc_up b 7 ((b 7).set σ 2)) 8 ((b 8).set σ (2 * nI (P % 100)))) (b := b) (k := k) (fun _ => rfl) σ F (P / 100) (P % 100) 0 (yzr σ 40 0 (b 9)))
            refine lp_y_film0 h4 ?_ 40 0 _ _ (mc_up_self _ 9).symm (by omega) hG.1.2.2.2.2.2.2.2.2.2 rfl
            refine e_iconst (v := 0) (pc := 112) dX7_film_112 (by decide) ?_
            refine e_isw6 (pc := 113) dX7_film_113 (Nat.le_of_ble_eq_true rfl) rfl ?_
            exact KF
          · skip
            refine e_bipush (v := -7) (pc := 56) dX7_film_56 (by decide) ?_
            exact e_iret (pc := 58) dX7_film_58 rfl (Nat.le_refl _) (Nat.le_refl _) (have e1 : yfm1 m s0 k fr sm = -7 := (by unfold yfm1; rw [if_neg (c := mc_wi s0 0 3 = false) (nbf (mc_b1.mp c_6)), if_neg (c := mc_wi k 0 (m 2 - 1) = false) (nbf (mc_b1.mp c_17)), if_pos (Or.inr (Or.inr (Int32.not_le.mp c_53)))]); have e2 : yfmc m s0 k fr sm = false := (by unfold yfmc; rw [decide_eq_false c_53, Bool.and_false]); ⟨by rw [e1], n, d, hD, by unfold yfmb; rw [e2]; rfl⟩)
    · skip
      refine e_bipush (v := -5) (pc := 20) dX7_film_20 (by decide) ?_
      exact e_iret (pc := 22) dX7_film_22 rfl (Nat.le_refl _) (Nat.le_refl _) (have e1 : yfm1 m s0 k fr sm = -5 := (by unfold yfm1; rw [if_neg (c := mc_wi s0 0 3 = false) (nbf (mc_b1.mp c_6)), if_pos (c := mc_wi k 0 (m 2 - 1) = false) (mc_b0.mp c_17)]); have e2 : yfmc m s0 k fr sm = false := (by simp [yfmc, mc_b0.mp c_17]); ⟨by rw [e1], n, d, hD, by unfold yfmb; rw [e2]; rfl⟩)
  · skip
    refine e_bipush (v := -2) (pc := 9) dX7_film_9 (by decide) ?_
    exact e_iret (pc := 11) dX7_film_11 rfl (Nat.le_refl _) (Nat.le_refl _) (have e1 : yfm1 m s0 k fr sm = -2 := (by unfold yfm1; rw [if_pos (c := mc_wi s0 0 3 = false) (mc_b0.mp c_6)]); have e2 : yfmc m s0 k fr sm = false := (by simp [yfmc, mc_b0.mp c_6]); ⟨by rw [e1], n, d, hD, by unfold yfmb; rw [e2]; rfl⟩)
end Zj_37_y18
section Zj_38_y19
/-! copies -/
def ycx (A C N k : Nat) : Nat := if A < C then N - 1 - k else k
def ycp (A C N : Nat) : Nat → Nat → List Int32 → List Int32
  | 0, _, l => l
  | g + 1, k, l => ycp A C N g (k + 1) (l.set (C + ycx A C N k) (l.getD (A + ycx A C N k) 0))
theorem ycp_len (A C N : Nat) : ∀ g k l, (ycp A C N g k l).length = l.length := by
  intro g
  induction g with
  | zero => intro k l; rfl
  | succ g ih => intro k l; unfold ycp; rw [ih, List.length_set]
def ycyr (b : Nat → List Int32) (s i o j k : Int32) : Int32 :=
  if mc_wi s 0 3 = false ∨ mc_wi o 0 3 = false then -2 else if gt (b 7) s = -1 ∨ gt (b 7) o = -1 then -11 else if ¬ gt (b 7) s = gt (b 7) o then -13
  else if k < 0 ∨ i < 0 ∨ j < 0 ∨ gt (b 8) s < i ∨ gt (b 8) o < j ∨ gt (b 8) s - i < k ∨ gt (b 8) o - j < k then -12 else 0
def ycy1 (b : Nat → List Int32) (s i o j k : Int32) : Int32 := if ycyr b s i o j k = 0 then k else ycyr b s i o j k
def ycyb (b : Nat → List Int32) (s i o j k : Int32) : Nat → List Int32 := if ycyr b s i o j k = 0 then mc_up b 9 (ycp (40 * s + i).toNatClampNeg (40 * o + j).toNatClampNeg k.toNatClampNeg k.toNatClampNeg 0 (b 9)) else b
theorem lp_y_copy {s u m n : Nat → Int32} {a c d : Nat → List Int32} {q : List (Option Nat)} {h : Nat} {z : mc_W} {B : Nat → List Int32} {L : List Int32} {s0 i0 o0 j0 : Int32} {A C N : Nat} (hA : A + N ≤ 160) (hC : C + N ≤ 160) :
    ∀ (g k : Nat) (l : List Int32) (b : Nat → List Int32) (x9 : Option Value), b = mc_up B 9 l → k + g = N → l.length = 160 → ycp A C N g k l = L →
      mc_E RX7 cX7_copy 10 (mc_JM (some .int) false 2 0 0 (fun r' w' => r' = some (.int (nI N)) ∧ w' = WW s a q u c h m (mc_up B 9 L) n d z)) 147 [some (.ref 29), some (.int s0), some (.int i0), some (.int o0), some (.int j0), some (.int (nI N)), some (.int (nI A)), some (.int (nI C)), some (.int (nI k)), x9] [] (WW s a q u c h m b n d z) 0 0 := by
  intro g
  induction g with
  | zero =>
    intro k l b x9 hb hk hl hV
    have e : k = N := by omega
    subst e
    have hV : l = L := hV
    subst hV hb
    refine e_iload (pc := 147) dX7_copy_147 rfl ?_
    refine e_iload (pc := 149) dX7_copy_149 rfl ?_
    refine e_icmp_ge (pc := 151) dX7_copy_151 (t := 201) (by decide) (fun _ => ?_) (fun c_151 => absurd (Int32.le_refl _) c_151)
    refine e_iload (pc := 201) dX7_copy_201 rfl ?_
    exact e_iret (pc := 203) dX7_copy_203 rfl (Nat.le_refl _) (Nat.le_refl _) ⟨rfl, rfl⟩
  | succ g ih =>
    intro k l b x9 hb hk hl hV
    subst hb
    simp only [ycp] at hV
    have hx : ycx A C N k < N := by unfold ycx; split <;> omega
    have GO : ∀ X : Nat, X = ycx A C N k → vp_in (nI A + nI X) ((mc_up B 9 l) 9).length ∧ (nI A + nI X).toNatClampNeg = A + X ∧ vp_in (nI C + nI X) ((mc_up B 9 l) 9).length ∧ (nI C + nI X).toNatClampNeg = C + X := fun X hX => by
      have e : (mc_up B 9 l) 9 = l := rfl
      rw [e, hl, nI_add, nI_add]
      exact ⟨vp_in_nI (by omega) (by decide), nIc (by omega), vp_in_nI (by omega) (by decide), nIc (by omega)⟩
    by_cases hAC : A < C
    · have hX : N - 1 - k = ycx A C N k := by unfold ycx; rw [if_pos hAC]
      obtain ⟨g1, g2, g3, g4⟩ := GO _ hX
      have e1 : nI N - 1 - nI k = nI (N - 1 - k) := by rw [nI_sub1 (by omega), pk_sub (by omega)]
      have ex : ((mc_up B 9 l) 9).getD (nI A + nI (N - 1 - k)).toNatClampNeg 0 = l.getD (A + ycx A C N k) 0 := by rw [g2, hX]; rfl
      refine e_iload (pc := 147) dX7_copy_147 rfl ?_
      refine e_iload (pc := 149) dX7_copy_149 rfl ?_
      refine e_icmp_ge (pc := 151) dX7_copy_151 (t := 201) (by decide) (fun c_151 => absurd c_151 (nI_ge (by omega : k < N) (by omega))) (fun _ => ?_)
      refine e_iload (pc := 154) dX7_copy_154 rfl ?_
      refine e_iload (pc := 156) dX7_copy_156 rfl ?_
      refine e_icmp_ge (pc := 158) dX7_copy_158 (t := 171) (by decide) (fun c_158 => absurd c_158 (nI_ge hAC (by omega))) (fun _ => ?_)
      refine e_iload (pc := 161) dX7_copy_161 rfl ?_
      refine e_iconst (v := 1) (pc := 163) dX7_copy_163 (by decide) ?_
      refine e_isub (pc := 164) dX7_copy_164 ?_
      refine e_iload (pc := 165) dX7_copy_165 rfl ?_
      refine e_isub (pc := 167) dX7_copy_167 ?_
      refine e_top (e1) ?_
      refine e_goto (pc := 168) dX7_copy_168 (t := 173) (by decide) ?_
      refine e_isw9 (pc := 173) dX7_copy_173 (Nat.le_of_ble_eq_true rfl) rfl ?_
      refine e_aloadn (pc := 175) dX7_copy_175 rfl ?_
      refine e_get (pc := 176) dX7_copy_176 fX7_44 rfl rfl ?_
      refine e_iload (pc := 179) dX7_copy_179 rfl ?_
      refine e_iload (pc := 181) dX7_copy_181 rfl ?_
      refine e_iadd (pc := 183) dX7_copy_183 ?_
      refine e_aloadn (pc := 184) dX7_copy_184 rfl ?_
      refine e_get (pc := 185) dX7_copy_185 fX7_44 rfl rfl ?_
      refine e_iload (pc := 188) dX7_copy_188 rfl ?_
      refine e_iload (pc := 190) dX7_copy_190 rfl ?_
      refine e_iadd (pc := 192) dX7_copy_192 ?_
      refine aldv_ycells (pc := 193) dX7_copy_193 g1 ex ?_
      refine ast_ycells (pc := 194) dX7_copy_194 g3 ?_
      rw [up_setl, g4, hX]
      refine e_incC8 (pc := 195) dX7_copy_195 (nI_1 k) (Nat.le_of_ble_eq_true rfl) rfl ?_
      refine e_goto (pc := 198) dX7_copy_198 (t := 147) (by decide) ?_
      exact ih (k + 1) _ _ _ rfl (by omega) (by rw [List.length_set]; exact hl) hV
    · have hX : k = ycx A C N k := by unfold ycx; rw [if_neg hAC]
      obtain ⟨g1, g2, g3, g4⟩ := GO _ hX
      have ex : ((mc_up B 9 l) 9).getD (nI A + nI k).toNatClampNeg 0 = l.getD (A + ycx A C N k) 0 := by rw [g2]; exact congrArg (fun t => l.getD (A + t) 0) hX
      refine e_iload (pc := 147) dX7_copy_147 rfl ?_
      refine e_iload (pc := 149) dX7_copy_149 rfl ?_
      refine e_icmp_ge (pc := 151) dX7_copy_151 (t := 201) (by decide) (fun c_151 => absurd c_151 (nI_ge (by omega : k < N) (by omega))) (fun _ => ?_)
      refine e_iload (pc := 154) dX7_copy_154 rfl ?_
      refine e_iload (pc := 156) dX7_copy_156 rfl ?_
      refine e_icmp_ge (pc := 158) dX7_copy_158 (t := 171) (by decide) (fun _ => ?_) (fun c_158 => absurd (nI_le (by omega) (by omega)) c_158)
      refine e_iload (pc := 171) dX7_copy_171 rfl ?_
      refine e_isw9 (pc := 173) dX7_copy_173 (Nat.le_of_ble_eq_true rfl) rfl ?_
      refine e_aloadn (pc := 175) dX7_copy_175 rfl ?_
      refine e_get (pc := 176) dX7_copy_176 fX7_44 rfl rfl ?_
      refine e_iload (pc := 179) dX7_copy_179 rfl ?_
      refine e_iload (pc := 181) dX7_copy_181 rfl ?_
      refine e_iadd (pc := 183) dX7_copy_183 ?_
      refine e_aloadn (pc := 184) dX7_copy_184 rfl ?_
      refine e_get (pc := 185) dX7_copy_185 fX7_44 rfl rfl ?_
      refine e_iload (pc := 188) dX7_copy_188 rfl ?_
      refine e_iload (pc := 190) dX7_copy_190 rfl ?_
      refine e_iadd (pc := 192) dX7_copy_192 ?_
      refine aldv_ycells (pc := 193) dX7_copy_193 g1 ex ?_
      refine ast_ycells (pc := 194) dX7_copy_194 g3 ?_
      rw [up_setl, g4, show C + k = C + ycx A C N k from congrArg (C + ·) hX]
      refine e_incC8 (pc := 195) dX7_copy_195 (nI_1 k) (Nat.le_of_ble_eq_true rfl) rfl ?_
      refine e_goto (pc := 198) dX7_copy_198 (t := 147) (by decide) ?_
      exact ih (k + 1) _ _ _ rfl (by omega) (by rw [List.length_set]; exact hl) hV
theorem sp_y_copy {s u m n : Nat → Int32} {a c b d : Nat → List Int32} {q : List (Option Nat)} {h : Nat} {z : mc_W} {s0 i o j k : Int32} (hL : yL b) (hS : ySh b) : mc_D yX7_copy cX7_copy 10 (some .int) 2 [.ref 29, .int s0, .int i, .int o, .int j, .int k] (WW s a q u c h m b n d z) (some (.int (ycy1 b s0 i o j k))) (WW s a q u c h m (ycyb b s0 i o j k) n d z) := by
  refine mc_start (own := RX7) (ini := false) rfl (by decide +kernel) (fun h => by cases h) (Nat.le_of_ble_eq_true rfl) ?_
  show mc_E _ _ _ _ _ [some (.ref 29), some (.int s0), some (.int i), some (.int o), some (.int j), some (.int k), none, none, none, none] [] _ _ _
  have q6 : ¬ mc_b (mc_wi s0 0 3) = 0 → mc_wi s0 0 3 = true := fun q => mc_b1.mp q
  refine e_iloadn (pc := 0) dX7_copy_0 rfl ?_
  refine e_iconst (v := 0) (pc := 1) dX7_copy_1 (by decide) ?_
  refine e_iconst (v := 3) (pc := 2) dX7_copy_2 (by decide) ?_
  refine e_csD (pc := 3) (sp_y_in) dX7_copy_3 kX7_75 rfl rfl (mc_CR_of (Nat.le_of_ble_eq_true rfl) (Nat.le_of_ble_eq_true rfl) (Nat.le_refl _) (Nat.le_refl _)) (Nat.le_of_ble_eq_true rfl) ?_
  refine e_if_eq (pc := 6) dX7_copy_6 (t := 18) (by decide) (fun c_6 => ?_) (fun c_6 => ?_)
  · skip
    refine e_bipush (v := -2) (pc := 18) dX7_copy_18 (by decide) ?_
    exact e_iret (pc := 20) dX7_copy_20 rfl (Nat.le_refl _) (Nat.le_refl _) (have e1 : ycyr b s0 i o j k = -2 := (by unfold ycyr; rw [if_pos (Or.inl (mc_b0.mp c_6))]); ⟨by unfold ycy1; rw [e1]; rfl, by unfold ycyb; rw [e1]; rfl⟩)
  · skip
    refine e_iloadn (pc := 9) dX7_copy_9 rfl ?_
    refine e_iconst (v := 0) (pc := 10) dX7_copy_10 (by decide) ?_
    refine e_iconst (v := 3) (pc := 11) dX7_copy_11 (by decide) ?_
    refine e_csD (pc := 12) (sp_y_in) dX7_copy_12 kX7_75 rfl rfl (mc_CR_of (Nat.le_of_ble_eq_true rfl) (Nat.le_of_ble_eq_true rfl) (Nat.le_refl _) (Nat.le_refl _)) (Nat.le_of_ble_eq_true rfl) ?_
    refine e_if_ne (pc := 15) dX7_copy_15 (t := 21) (by decide) (fun c_15 => ?_) (fun c_15 => ?_)
    · skip
      refine e_aloadn (pc := 21) dX7_copy_21 rfl ?_
      refine e_get (pc := 22) dX7_copy_22 fX7_38 rfl rfl ?_
      refine e_iloadn (pc := 25) dX7_copy_25 rfl ?_
      refine ald_sheetSort (pc := 26) dX7_copy_26 (sh7 hL (q6 c_6)) ?_
      refine e_iconst (v := -1) (pc := 27) dX7_copy_27 (by decide) ?_
      refine e_icmp_eq (pc := 28) dX7_copy_28 (t := 41) (by decide) (fun c_28 => ?_) (fun c_28 => ?_)
      · skip
        refine e_bipush (v := -11) (pc := 41) dX7_copy_41 (by decide) ?_
        exact e_iret (pc := 43) dX7_copy_43 rfl (Nat.le_refl _) (Nat.le_refl _) (have e1 : ycyr b s0 i o j k = -11 := (by unfold ycyr; rw [if_neg (fun q => q.elim (nbf (mc_b1.mp c_6)) (nbf (mc_b1.mp c_15))), if_pos (c := gt (b 7) s0 = -1 ∨ gt (b 7) o = -1) (Or.inl c_28)]); ⟨by unfold ycy1; rw [e1]; rfl, by unfold ycyb; rw [e1]; rfl⟩)
      · skip
        refine e_aloadn (pc := 31) dX7_copy_31 rfl ?_
        refine e_get (pc := 32) dX7_copy_32 fX7_38 rfl rfl ?_
        refine e_iloadn (pc := 35) dX7_copy_35 rfl ?_
        refine ald_sheetSort (pc := 36) dX7_copy_36 (sh7 hL (mc_b1.mp c_15)) ?_
        refine e_iconst (v := -1) (pc := 37) dX7_copy_37 (by decide) ?_
        refine e_icmp_ne (pc := 38) dX7_copy_38 (t := 44) (by decide) (fun c_38 => ?_) (fun c_38 => ?_)
        · skip
          refine e_aloadn (pc := 44) dX7_copy_44 rfl ?_
          refine e_get (pc := 45) dX7_copy_45 fX7_38 rfl rfl ?_
          refine e_iloadn (pc := 48) dX7_copy_48 rfl ?_
          refine ald_sheetSort (pc := 49) dX7_copy_49 (sh7 hL (q6 c_6)) ?_
          refine e_aloadn (pc := 50) dX7_copy_50 rfl ?_
          refine e_get (pc := 51) dX7_copy_51 fX7_38 rfl rfl ?_
          refine e_iloadn (pc := 54) dX7_copy_54 rfl ?_
          refine ald_sheetSort (pc := 55) dX7_copy_55 (sh7 hL (mc_b1.mp c_15)) ?_
          refine e_icmp_eq (pc := 56) dX7_copy_56 (t := 62) (by decide) (fun c_56 => ?_) (fun c_56 => ?_)
          · skip
            refine e_iload (pc := 62) dX7_copy_62 rfl ?_
            refine e_if_lt (pc := 64) dX7_copy_64 (t := 124) (by decide) (fun c_64 => ?_) (fun c_64 => ?_)
            · skip
              refine e_bipush (v := -12) (pc := 124) dX7_copy_124 (by decide) ?_
              exact e_iret (pc := 126) dX7_copy_126 rfl (Nat.le_refl _) (Nat.le_refl _) (have e1 : ycyr b s0 i o j k = -12 := (by unfold ycyr; rw [if_neg (fun q => q.elim (nbf (mc_b1.mp c_6)) (nbf (mc_b1.mp c_15))), if_neg (c := gt (b 7) s0 = -1 ∨ gt (b 7) o = -1) (fun q => q.elim c_28 c_38), if_neg (c := ¬ gt (b 7) s0 = gt (b 7) o) (fun q => q c_56), if_pos (c := k < 0 ∨ i < 0 ∨ j < 0 ∨ gt (b 8) s0 < i ∨ gt (b 8) o < j ∨ gt (b 8) s0 - i < k ∨ gt (b 8) o - j < k) (Or.inl c_64)]); ⟨by unfold ycy1; rw [e1]; rfl, by unfold ycyb; rw [e1]; rfl⟩)
            · skip
              refine e_iloadn (pc := 67) dX7_copy_67 rfl ?_
              refine e_if_lt (pc := 68) dX7_copy_68 (t := 124) (by decide) (fun c_68 => ?_) (fun c_68 => ?_)
              · skip
                refine e_bipush (v := -12) (pc := 124) dX7_copy_124 (by decide) ?_
                exact e_iret (pc := 126) dX7_copy_126 rfl (Nat.le_refl _) (Nat.le_refl _) (have e1 : ycyr b s0 i o j k = -12 := (by unfold ycyr; rw [if_neg (fun q => q.elim (nbf (mc_b1.mp c_6)) (nbf (mc_b1.mp c_15))), if_neg (c := gt (b 7) s0 = -1 ∨ gt (b 7) o = -1) (fun q => q.elim c_28 c_38), if_neg (c := ¬ gt (b 7) s0 = gt (b 7) o) (fun q => q c_56), if_pos (c := k < 0 ∨ i < 0 ∨ j < 0 ∨ gt (b 8) s0 < i ∨ gt (b 8) o < j ∨ gt (b 8) s0 - i < k ∨ gt (b 8) o - j < k) (Or.inr (Or.inl c_68))]); ⟨by unfold ycy1; rw [e1]; rfl, by unfold ycyb; rw [e1]; rfl⟩)
              · skip
                refine e_iload (pc := 71) dX7_copy_71 rfl ?_
                refine e_if_lt (pc := 73) dX7_copy_73 (t := 124) (by decide) (fun c_73 => ?_) (fun c_73 => ?_)
                · skip
                  refine e_bipush (v := -12) (pc := 124) dX7_copy_124 (by decide) ?_
                  exact e_iret (pc := 126) dX7_copy_126 rfl (Nat.le_refl _) (Nat.le_refl _) (have e1 : ycyr b s0 i o j k = -12 := (by unfold ycyr; rw [if_neg (fun q => q.elim (nbf (mc_b1.mp c_6)) (nbf (mc_b1.mp c_15))), if_neg (c := gt (b 7) s0 = -1 ∨ gt (b 7) o = -1) (fun q => q.elim c_28 c_38), if_neg (c := ¬ gt (b 7) s0 = gt (b 7) o) (fun q => q c_56), if_pos (c := k < 0 ∨ i < 0 ∨ j < 0 ∨ gt (b 8) s0 < i ∨ gt (b 8) o < j ∨ gt (b 8) s0 - i < k ∨ gt (b 8) o - j < k) (Or.inr (Or.inr (Or.inl c_73)))]); ⟨by unfold ycy1; rw [e1]; rfl, by unfold ycyb; rw [e1]; rfl⟩)
                · skip
                  refine e_iloadn (pc := 76) dX7_copy_76 rfl ?_
                  refine e_aloadn (pc := 77) dX7_copy_77 rfl ?_
                  refine e_get (pc := 78) dX7_copy_78 fX7_41 rfl rfl ?_
                  refine e_iloadn (pc := 81) dX7_copy_81 rfl ?_
                  refine ald_sheetSize (pc := 82) dX7_copy_82 (sh8 hL (q6 c_6)) ?_
                  refine e_icmp_gt (pc := 83) dX7_copy_83 (t := 124) (by decide) (fun c_83 => ?_) (fun c_83 => ?_)
                  · skip
                    refine e_bipush (v := -12) (pc := 124) dX7_copy_124 (by decide) ?_
                    exact e_iret (pc := 126) dX7_copy_126 rfl (Nat.le_refl _) (Nat.le_refl _) (have e1 : ycyr b s0 i o j k = -12 := (by unfold ycyr; rw [if_neg (fun q => q.elim (nbf (mc_b1.mp c_6)) (nbf (mc_b1.mp c_15))), if_neg (c := gt (b 7) s0 = -1 ∨ gt (b 7) o = -1) (fun q => q.elim c_28 c_38), if_neg (c := ¬ gt (b 7) s0 = gt (b 7) o) (fun q => q c_56), if_pos (c := k < 0 ∨ i < 0 ∨ j < 0 ∨ gt (b 8) s0 < i ∨ gt (b 8) o < j ∨ gt (b 8) s0 - i < k ∨ gt (b 8) o - j < k) (Or.inr (Or.inr (Or.inr (Or.inl c_83))))]); ⟨by unfold ycy1; rw [e1]; rfl, by unfold ycyb; rw [e1]; rfl⟩)
                  · skip
                    refine e_iload (pc := 86) dX7_copy_86 rfl ?_
                    refine e_aloadn (pc := 88) dX7_copy_88 rfl ?_
                    refine e_get (pc := 89) dX7_copy_89 fX7_41 rfl rfl ?_
                    refine e_iloadn (pc := 92) dX7_copy_92 rfl ?_
                    refine ald_sheetSize (pc := 93) dX7_copy_93 (sh8 hL (mc_b1.mp c_15)) ?_
                    refine e_icmp_gt (pc := 94) dX7_copy_94 (t := 124) (by decide) (fun c_94 => ?_) (fun c_94 => ?_)
                    · skip
                      refine e_bipush (v := -12) (pc := 124) dX7_copy_124 (by decide) ?_
                      exact e_iret (pc := 126) dX7_copy_126 rfl (Nat.le_refl _) (Nat.le_refl _) (have e1 : ycyr b s0 i o j k = -12 := (by unfold ycyr; rw [if_neg (fun q => q.elim (nbf (mc_b1.mp c_6)) (nbf (mc_b1.mp c_15))), if_neg (c := gt (b 7) s0 = -1 ∨ gt (b 7) o = -1) (fun q => q.elim c_28 c_38), if_neg (c := ¬ gt (b 7) s0 = gt (b 7) o) (fun q => q c_56), if_pos (c := k < 0 ∨ i < 0 ∨ j < 0 ∨ gt (b 8) s0 < i ∨ gt (b 8) o < j ∨ gt (b 8) s0 - i < k ∨ gt (b 8) o - j < k) (Or.inr (Or.inr (Or.inr (Or.inr (Or.inl c_94)))))]); ⟨by unfold ycy1; rw [e1]; rfl, by unfold ycyb; rw [e1]; rfl⟩)
                    · skip
                      refine e_iload (pc := 97) dX7_copy_97 rfl ?_
                      refine e_aloadn (pc := 99) dX7_copy_99 rfl ?_
                      refine e_get (pc := 100) dX7_copy_100 fX7_41 rfl rfl ?_
                      refine e_iloadn (pc := 103) dX7_copy_103 rfl ?_
                      refine ald_sheetSize (pc := 104) dX7_copy_104 (sh8 hL (q6 c_6)) ?_
                      refine e_iloadn (pc := 105) dX7_copy_105 rfl ?_
                      refine e_isub (pc := 106) dX7_copy_106 ?_
                      refine e_icmp_gt (pc := 107) dX7_copy_107 (t := 124) (by decide) (fun c_107 => ?_) (fun c_107 => ?_)
                      · skip
                        refine e_bipush (v := -12) (pc := 124) dX7_copy_124 (by decide) ?_
                        exact e_iret (pc := 126) dX7_copy_126 rfl (Nat.le_refl _) (Nat.le_refl _) (have e1 : ycyr b s0 i o j k = -12 := (by unfold ycyr; rw [if_neg (fun q => q.elim (nbf (mc_b1.mp c_6)) (nbf (mc_b1.mp c_15))), if_neg (c := gt (b 7) s0 = -1 ∨ gt (b 7) o = -1) (fun q => q.elim c_28 c_38), if_neg (c := ¬ gt (b 7) s0 = gt (b 7) o) (fun q => q c_56), if_pos (c := k < 0 ∨ i < 0 ∨ j < 0 ∨ gt (b 8) s0 < i ∨ gt (b 8) o < j ∨ gt (b 8) s0 - i < k ∨ gt (b 8) o - j < k) (Or.inr (Or.inr (Or.inr (Or.inr (Or.inr (Or.inl c_107))))))]); ⟨by unfold ycy1; rw [e1]; rfl, by unfold ycyb; rw [e1]; rfl⟩)
                      · skip
                        refine e_iload (pc := 110) dX7_copy_110 rfl ?_
                        refine e_aloadn (pc := 112) dX7_copy_112 rfl ?_
                        refine e_get (pc := 113) dX7_copy_113 fX7_41 rfl rfl ?_
                        refine e_iloadn (pc := 116) dX7_copy_116 rfl ?_
                        refine ald_sheetSize (pc := 117) dX7_copy_117 (sh8 hL (mc_b1.mp c_15)) ?_
                        refine e_iload (pc := 118) dX7_copy_118 rfl ?_
                        refine e_isub (pc := 120) dX7_copy_120 ?_
                        refine e_icmp_le (pc := 121) dX7_copy_121 (t := 127) (by decide) (fun c_121 => ?_) (fun c_121 => ?_)
                        · skip
                          have e1 : ycyr b s0 i o j k = 0 := by
                            unfold ycyr
                            rw [if_neg (fun q => q.elim (nbf (mc_b1.mp c_6)) (nbf (mc_b1.mp c_15))), if_neg (c := gt (b 7) s0 = -1 ∨ gt (b 7) o = -1) (fun q => q.elim c_28 c_38), if_neg (c := ¬ gt (b 7) s0 = gt (b 7) o) (fun q => q c_56), if_neg (c := k < 0 ∨ i < 0 ∨ j < 0 ∨ gt (b 8) s0 < i ∨ gt (b 8) o < j ∨ gt (b 8) s0 - i < k ∨ gt (b 8) o - j < k) (fun q => q.elim c_64 (fun q => q.elim c_68 (fun q => q.elim c_73 (fun q => q.elim c_83 (fun q => q.elim c_94 (fun q => q.elim c_107 (fun q => absurd q (Int32.not_lt.mpr c_121))))))))]
                          have e2 : ycy1 b s0 i o j k = k := by unfold ycy1; rw [if_pos e1]
                          have e3 : ycyb b s0 i o j k = mc_up b 9 (ycp (40 * s0 + i).toNatClampNeg (40 * o + j).toNatClampNeg k.toNatClampNeg k.toNatClampNeg 0 (b 9)) := by unfold ycyb; rw [if_pos e1]
                          rw [e2, e3]
                          clear e1 e2 e3
                          obtain ⟨σ, z1, h4, rfl, hz1, es⟩ := sh_size hS (mc_b1.mp c_6)
                          obtain ⟨τ, z2, h5, rfl, hz2, eo⟩ := sh_size hS (mc_b1.mp c_15)
                          have z0 : (0 : Int32).toInt = 0 := rfl
                          rw [Int32.lt_iff_toInt_lt, z0] at c_64 c_68 c_73
                          rw [Int32.lt_iff_toInt_lt] at c_83 c_94 c_107
                          rw [Int32.le_iff_toInt_le] at c_121
                          have es2 : (b 8).getD (nI σ).toNatClampNeg 0 = nI z1 := es
                          have eo2 : (b 8).getD (nI τ).toNatClampNeg 0 = nI z2 := eo
                          rw [es2] at c_83 c_107
                          rw [eo2] at c_94 c_121
                          have tz1 := nI_toInt (n := z1) (by omega)
                          have tz2 := nI_toInt (n := z2) (by omega)
                          rw [pk_subT (by omega) (by omega), tz1] at c_107
                          rw [pk_subT (by omega) (by omega), tz2] at c_121
                          rw [tz1] at c_83
                          rw [tz2] at c_94
                          obtain ⟨K, hK, rfl⟩ : ∃ K : Nat, (K : Int) = k.toInt ∧ k = nI K := ⟨_, tnc (by omega), nI_back (by omega)⟩
                          obtain ⟨I, hI, rfl⟩ : ∃ K : Nat, (K : Int) = i.toInt ∧ i = nI K := ⟨_, tnc (by omega), nI_back (by omega)⟩
                          obtain ⟨J, hJ, rfl⟩ : ∃ K : Nat, (K : Int) = j.toInt ∧ j = nI K := ⟨_, tnc (by omega), nI_back (by omega)⟩
                          rw [nI_toInt (by omega)] at c_64 c_83 c_107 c_121
                          have eA : 40 * nI σ + nI I = nI (40 * σ + I) := by rw [show (40 : Int32) * nI σ = nI (40 * σ) from pk_mul 40 σ, nI_add]
                          have eC : 40 * nI τ + nI J = nI (40 * τ + J) := by rw [show (40 : Int32) * nI τ = nI (40 * τ) from pk_mul 40 τ, nI_add]
                          rw [eA, eC, nIc (n := 40 * σ + I) (by omega), nIc (n := 40 * τ + J) (by omega), nIc (n := K) (by omega)]
                          refine e_bipush (v := 40) (pc := 127) dX7_copy_127 (by decide) ?_
                          refine e_iloadn (pc := 129) dX7_copy_129 rfl ?_
                          refine e_imul (pc := 130) dX7_copy_130 ?_
                          refine e_iloadn (pc := 131) dX7_copy_131 rfl ?_
                          refine e_iadd (pc := 132) dX7_copy_132 ?_
                          refine e_top (eA) ?_
                          refine e_isw6 (pc := 133) dX7_copy_133 (Nat.le_of_ble_eq_true rfl) rfl ?_
                          refine e_bipush (v := 40) (pc := 135) dX7_copy_135 (by decide) ?_
                          refine e_iloadn (pc := 137) dX7_copy_137 rfl ?_
                          refine e_imul (pc := 138) dX7_copy_138 ?_
                          refine e_iload (pc := 139) dX7_copy_139 rfl ?_
                          refine e_iadd (pc := 141) dX7_copy_141 ?_
                          refine e_top (eC) ?_
                          refine e_isw7 (pc := 142) dX7_copy_142 (Nat.le_of_ble_eq_true rfl) rfl ?_
                          refine e_iconst (v := 0) (pc := 144) dX7_copy_144 (by decide) ?_
                          refine e_isw8 (pc := 145) dX7_copy_145 (Nat.le_of_ble_eq_true rfl) rfl ?_
                          exact lp_y_copy (by omega) (by omega) K 0 (b 9) b none (mc_up_self b 9).symm (by omega) hL.2.2.2.2.2.2.2.2.2 rfl
                        · skip
                          refine e_bipush (v := -12) (pc := 124) dX7_copy_124 (by decide) ?_
                          exact e_iret (pc := 126) dX7_copy_126 rfl (Nat.le_refl _) (Nat.le_refl _) (have e1 : ycyr b s0 i o j k = -12 := (by unfold ycyr; rw [if_neg (fun q => q.elim (nbf (mc_b1.mp c_6)) (nbf (mc_b1.mp c_15))), if_neg (c := gt (b 7) s0 = -1 ∨ gt (b 7) o = -1) (fun q => q.elim c_28 c_38), if_neg (c := ¬ gt (b 7) s0 = gt (b 7) o) (fun q => q c_56), if_pos (c := k < 0 ∨ i < 0 ∨ j < 0 ∨ gt (b 8) s0 < i ∨ gt (b 8) o < j ∨ gt (b 8) s0 - i < k ∨ gt (b 8) o - j < k) (Or.inr (Or.inr (Or.inr (Or.inr (Or.inr (Or.inr (Int32.not_le.mp c_121)))))))]); ⟨by unfold ycy1; rw [e1]; rfl, by unfold ycyb; rw [e1]; rfl⟩)
          · skip
            refine e_bipush (v := -13) (pc := 59) dX7_copy_59 (by decide) ?_
            exact e_iret (pc := 61) dX7_copy_61 rfl (Nat.le_refl _) (Nat.le_refl _) (have e1 : ycyr b s0 i o j k = -13 := (by unfold ycyr; rw [if_neg (fun q => q.elim (nbf (mc_b1.mp c_6)) (nbf (mc_b1.mp c_15))), if_neg (c := gt (b 7) s0 = -1 ∨ gt (b 7) o = -1) (fun q => q.elim c_28 c_38), if_pos (c := ¬ gt (b 7) s0 = gt (b 7) o) c_56]); ⟨by unfold ycy1; rw [e1]; rfl, by unfold ycyb; rw [e1]; rfl⟩)
        · skip
          refine e_bipush (v := -11) (pc := 41) dX7_copy_41 (by decide) ?_
          exact e_iret (pc := 43) dX7_copy_43 rfl (Nat.le_refl _) (Nat.le_refl _) (have e1 : ycyr b s0 i o j k = -11 := (by unfold ycyr; rw [if_neg (fun q => q.elim (nbf (mc_b1.mp c_6)) (nbf (mc_b1.mp c_15))), if_pos (c := gt (b 7) s0 = -1 ∨ gt (b 7) o = -1) (Or.inr c_38)]); ⟨by unfold ycy1; rw [e1]; rfl, by unfold ycyb; rw [e1]; rfl⟩)
    · skip
      refine e_bipush (v := -2) (pc := 18) dX7_copy_18 (by decide) ?_
      exact e_iret (pc := 20) dX7_copy_20 rfl (Nat.le_refl _) (Nat.le_refl _) (have e1 : ycyr b s0 i o j k = -2 := (by unfold ycyr; rw [if_pos (Or.inr (mc_b0.mp c_15))]); ⟨by unfold ycy1; rw [e1]; rfl, by unfold ycyb; rw [e1]; rfl⟩)
end Zj_38_y19
section Zj_39_y20
/-! clearing -/
def yow (l : List Int32) (f g : Nat) : Int32 := l.getD (6 * f + g) 0
def ysu (l : List Int32) (f g : Nat) (v : Int32) : List Int32 := l.set (6 * f + g) (yow l f g - v)
theorem ysu_len {l : List Int32} {f g : Nat} {v : Int32} (h : l.length = 36) : (ysu l f g v).length = 36 := by unfold ysu; rw [List.length_set]; exact h
theorem ow_c {f g : Nat} (hf : f < 6) (hg : g < 6) : (6 * nI f + nI g).toNatClampNeg = 6 * f + g := by rw [ow_at hf hg, nIc (by omega)]
def ycv2 (l : List Int32) (f g : Nat) : Int32 := yy_le (yow l f g) (yow l g f)
def ycl2 (l : List Int32) (f g : Nat) : List Int32 := ysu (ysu l f g (ycv2 l f g)) g f (ycv2 l f g)
def ycv3 (l : List Int32) (f g e : Nat) : Int32 := yy_le (yow l f g) (yy_le (yow l g e) (yow l e f))
def ycl3 (l : List Int32) (f g e : Nat) : List Int32 := ysu (ysu (ysu l f g (ycv3 l f g e)) g e (ycv3 l f g e)) e f (ycv3 l f g e)
theorem ycl2_len {l : List Int32} {f g : Nat} (h : l.length = 36) : (ycl2 l f g).length = 36 := ysu_len (ysu_len h)
theorem ycl3_len {l : List Int32} {f g e : Nat} (h : l.length = 36) : (ycl3 l f g e).length = 36 := ysu_len (ysu_len (ysu_len h))
def ycg (f : Nat) : Nat → Nat → Int32 → List Int32 → Int32 × List Int32
  | 0, _, S, l => (S, l)
  | t + 1, g, S, l => ycg f t (g + 1) (S + 2 * ycv2 l f g) (ycl2 l f g)
def ycf : Nat → Nat → Int32 → List Int32 → Int32 × List Int32
  | 0, _, S, l => (S, l)
  | t + 1, f, S, l => ycf t (f + 1) (ycg f (5 - f) (f + 1) S l).1 (ycg f (5 - f) (f + 1) S l).2
def yct : Nat → Nat → Int32 → List Int32 → Int32 × List Int32
  | 0, _, S, l => (S, l)
  | t + 1, k, S, l => if k / 36 = k / 6 % 6 ∨ k / 6 % 6 = k % 6 ∨ k / 36 = k % 6 then yct t (k + 1) S l else yct t (k + 1) (S + 3 * ycv3 l (k / 36) (k / 6 % 6) (k % 6)) (ycl3 l (k / 36) (k / 6 % 6) (k % 6))
def yclear (l : List Int32) : Int32 × List Int32 := yct 216 0 (ycf 6 0 0 l).1 (ycf 6 0 0 l).2
theorem ycg_len (f : Nat) : ∀ t g S l, l.length = 36 → (ycg f t g S l).2.length = 36 := by
  intro t
  induction t with
  | zero => intro g S l h; exact h
  | succ t ih => intro g S l h; exact ih _ _ _ (ycl2_len h)
theorem ycf_len : ∀ t f S l, l.length = 36 → (ycf t f S l).2.length = 36 := by
  intro t
  induction t with
  | zero => intro f S l h; exact h
  | succ t ih => intro f S l h; exact ih _ _ _ (ycg_len _ _ _ _ _ h)
theorem yct_len : ∀ t k S l, l.length = 36 → (yct t k S l).2.length = 36 := by
  intro t
  induction t with
  | zero => intro k S l h; exact h
  | succ t ih => intro k S l h; unfold yct; split; exact ih _ _ _ h; exact ih _ _ _ (ycl3_len h)
theorem lp_y_cg {s u m n : Nat → Int32} {a c d : Nat → List Int32} {q : List (Option Nat)} {h : Nat} {z : mc_W} {Post : Option Value → mc_W → Prop} {B : Nat → List Int32} {f : Nat} {V : Int32 × List Int32} (hf : f < 6)
    (hK : ∀ x4, mc_E RX7 cX7_clear 7 (mc_JM (some .int) false 2 0 0 Post) 92 [some (.ref 29), some (.int V.1), some (.int (nI f)), some (.int (nI 6)), x4, none, none] [] (WW s a q u c h m (mc_up B 2 V.2) n d z) 0 0) :
    ∀ (t g : Nat) (S : Int32) (l : List Int32) (b : Nat → List Int32) (x4 : Option Value), b = mc_up B 2 l → g + t = 6 → l.length = 36 → ycg f t g S l = V →
      mc_E RX7 cX7_clear 7 (mc_JM (some .int) false 2 0 0 Post) 14 [some (.ref 29), some (.int S), some (.int (nI f)), some (.int (nI g)), x4, none, none] [] (WW s a q u c h m b n d z) 0 0 := by
  intro t
  induction t with
  | zero =>
    intro g S l b x4 hb hg hl hV
    have e : g = 6 := by omega
    subst e
    have hV : (S, l) = V := hV
    subst hV hb
    refine e_iloadn (pc := 14) dX7_clear_14 rfl ?_
    refine e_bipush (v := 6) (pc := 15) dX7_clear_15 (by decide) ?_
    refine e_icmp_ge (pc := 17) dX7_clear_17 (t := 92) (by decide) (fun _ => ?_) (fun c_17 => absurd (by decide) c_17)
    exact hK _
  | succ t ih =>
    intro g S l b x4 hb hg hl hV
    subst hb
    have hg6 : g < 6 := by omega
    simp only [ycg] at hV
    have l1 : (ysu l f g (ycv2 l f g)).length = 36 := ysu_len hl
    have x1 : ((mc_up B 2 l) 2).getD (6 * nI f + nI g).toNatClampNeg 0 = yow l f g := ow_get hf hg6
    have x2 : ((mc_up B 2 l) 2).getD (6 * nI g + nI f).toNatClampNeg 0 = yow l g f := ow_get hg6 hf
    have x3 : ((mc_up B 2 (ysu l f g (ycv2 l f g))) 2).getD (6 * nI g + nI f).toNatClampNeg 0 = yow (ysu l f g (ycv2 l f g)) g f := ow_get hg6 hf
    have v1 : vp_in (6 * nI f + nI g) ((mc_up B 2 l) 2).length := ow_in (l := l) hl hf hg6
    have v2 : vp_in (6 * nI g + nI f) ((mc_up B 2 l) 2).length := ow_in (l := l) hl hg6 hf
    have v3 : vp_in (6 * nI g + nI f) ((mc_up B 2 (ysu l f g (ycv2 l f g))) 2).length := ow_in (l := ysu l f g (ycv2 l f g)) l1 hg6 hf
    have e1 : mc_up B 2 (l.set (6 * f + g) (yow l f g - ycv2 l f g)) = mc_up B 2 (ysu l f g (ycv2 l f g)) := rfl
    refine e_iloadn (pc := 14) dX7_clear_14 rfl ?_
    refine e_bipush (v := 6) (pc := 15) dX7_clear_15 (by decide) ?_
    refine e_icmp_ge (pc := 17) dX7_clear_17 (t := 92) (by decide) (fun c_17 => absurd c_17 (nI_ge (by omega : g < 6) (by decide))) (fun _ => ?_)
    refine e_aloadn (pc := 20) dX7_clear_20 rfl ?_
    refine e_get (pc := 21) dX7_clear_21 fX7_23 rfl rfl ?_
    refine e_bipush (v := 6) (pc := 24) dX7_clear_24 (by decide) ?_
    refine e_iloadn (pc := 26) dX7_clear_26 rfl ?_
    refine e_imul (pc := 27) dX7_clear_27 ?_
    refine e_iloadn (pc := 28) dX7_clear_28 rfl ?_
    refine e_iadd (pc := 29) dX7_clear_29 ?_
    refine aldv_owes (pc := 30) dX7_clear_30 v1 x1 ?_
    refine e_aloadn (pc := 31) dX7_clear_31 rfl ?_
    refine e_get (pc := 32) dX7_clear_32 fX7_23 rfl rfl ?_
    refine e_bipush (v := 6) (pc := 35) dX7_clear_35 (by decide) ?_
    refine e_iloadn (pc := 37) dX7_clear_37 rfl ?_
    refine e_imul (pc := 38) dX7_clear_38 ?_
    refine e_iloadn (pc := 39) dX7_clear_39 rfl ?_
    refine e_iadd (pc := 40) dX7_clear_40 ?_
    refine aldv_owes (pc := 41) dX7_clear_41 v2 x2 ?_
    refine e_csD (pc := 42) (sp_y_least) dX7_clear_42 kX7_250 rfl rfl (mc_CR_of (Nat.le_of_ble_eq_true rfl) (Nat.le_of_ble_eq_true rfl) (Nat.le_refl _) (Nat.le_refl _)) (Nat.le_of_ble_eq_true rfl) ?_
    rw [show yy_le (yow l f g) (yow l g f) = ycv2 l f g from rfl]
    refine e_isw4 (pc := 45) dX7_clear_45 (Nat.le_of_ble_eq_true rfl) rfl ?_
    refine e_aloadn (pc := 47) dX7_clear_47 rfl ?_
    refine e_get (pc := 48) dX7_clear_48 fX7_23 rfl rfl ?_
    refine e_bipush (v := 6) (pc := 51) dX7_clear_51 (by decide) ?_
    refine e_iloadn (pc := 53) dX7_clear_53 rfl ?_
    refine e_imul (pc := 54) dX7_clear_54 ?_
    refine e_iloadn (pc := 55) dX7_clear_55 rfl ?_
    refine e_iadd (pc := 56) dX7_clear_56 ?_
    refine e_dup2 (pc := 57) dX7_clear_57 rfl rfl ?_
    refine aldv_owes (pc := 58) dX7_clear_58 v1 x1 ?_
    refine e_iload (pc := 59) dX7_clear_59 rfl ?_
    refine e_isub (pc := 61) dX7_clear_61 ?_
    refine ast_owes (pc := 62) dX7_clear_62 v1 ?_
    rw [up_setl, ow_c hf hg6, e1]
    refine e_aloadn (pc := 63) dX7_clear_63 rfl ?_
    refine e_get (pc := 64) dX7_clear_64 fX7_23 rfl rfl ?_
    refine e_bipush (v := 6) (pc := 67) dX7_clear_67 (by decide) ?_
    refine e_iloadn (pc := 69) dX7_clear_69 rfl ?_
    refine e_imul (pc := 70) dX7_clear_70 ?_
    refine e_iloadn (pc := 71) dX7_clear_71 rfl ?_
    refine e_iadd (pc := 72) dX7_clear_72 ?_
    refine e_dup2 (pc := 73) dX7_clear_73 rfl rfl ?_
    refine aldv_owes (pc := 74) dX7_clear_74 v3 x3 ?_
    refine e_iload (pc := 75) dX7_clear_75 rfl ?_
    refine e_isub (pc := 77) dX7_clear_77 ?_
    refine ast_owes (pc := 78) dX7_clear_78 v3 ?_
    rw [up_setl, ow_c hg6 hf]
    refine e_iloadn (pc := 79) dX7_clear_79 rfl ?_
    refine e_iconst (v := 2) (pc := 80) dX7_clear_80 (by decide) ?_
    refine e_iload (pc := 81) dX7_clear_81 rfl ?_
    refine e_imul (pc := 83) dX7_clear_83 ?_
    refine e_iadd (pc := 84) dX7_clear_84 ?_
    refine e_isn1 (pc := 85) dX7_clear_85 (Nat.le_of_ble_eq_true rfl) rfl ?_
    refine e_incC3 (pc := 86) dX7_clear_86 (nI_1 g) (Nat.le_of_ble_eq_true rfl) rfl ?_
    refine e_goto (pc := 89) dX7_clear_89 (t := 14) (by decide) ?_
    exact ih (g + 1) _ _ _ _ rfl (by omega) (ycl2_len (f := f) (g := g) hl) hV
theorem lp_y_cf {s u m n : Nat → Int32} {a c d : Nat → List Int32} {q : List (Option Nat)} {h : Nat} {z : mc_W} {Post : Option Value → mc_W → Prop} {B : Nat → List Int32} {V : Int32 × List Int32}
    (hK : ∀ x3 x4, mc_E RX7 cX7_clear 7 (mc_JM (some .int) false 2 0 0 Post) 98 [some (.ref 29), some (.int V.1), some (.int (nI 6)), x3, x4, none, none] [] (WW s a q u c h m (mc_up B 2 V.2) n d z) 0 0) :
    ∀ (t f : Nat) (S : Int32) (l : List Int32) (b : Nat → List Int32) (x3 x4 : Option Value), b = mc_up B 2 l → f + t = 6 → l.length = 36 → ycf t f S l = V →
      mc_E RX7 cX7_clear 7 (mc_JM (some .int) false 2 0 0 Post) 4 [some (.ref 29), some (.int S), some (.int (nI f)), x3, x4, none, none] [] (WW s a q u c h m b n d z) 0 0 := by
  intro t
  induction t with
  | zero =>
    intro f S l b x3 x4 hb hf hl hV
    have e : f = 6 := by omega
    subst e
    have hV : (S, l) = V := hV
    subst hV hb
    refine e_iloadn (pc := 4) dX7_clear_4 rfl ?_
    refine e_bipush (v := 6) (pc := 5) dX7_clear_5 (by decide) ?_
    refine e_icmp_ge (pc := 7) dX7_clear_7 (t := 98) (by decide) (fun _ => ?_) (fun c_7 => absurd (by decide) c_7)
    exact hK _ _
  | succ t ih =>
    intro f S l b x3 x4 hb hf hl hV
    subst hb
    have hf6 : f < 6 := by omega
    simp only [ycf] at hV
    have MID : ∀ x4, mc_E RX7 cX7_clear 7 (mc_JM (some .int) false 2 0 0 Post) 92 [some (.ref 29), some (.int (ycg f (5 - f) (f + 1) S l).1), some (.int (nI f)), some (.int (nI 6)), x4, none, none] [] (WW s a q u c h m (mc_up B 2 (ycg f (5 - f) (f + 1) S l).2) n d z) 0 0 := by
      intro x4
      refine e_incC2 (pc := 92) dX7_clear_92 (nI_1 f) (Nat.le_of_ble_eq_true rfl) rfl ?_
      refine e_goto (pc := 95) dX7_clear_95 (t := 4) (by decide) ?_
      exact ih (f + 1) _ _ _ _ _ rfl (by omega) (ycg_len _ _ _ _ _ hl) hV
    refine e_iloadn (pc := 4) dX7_clear_4 rfl ?_
    refine e_bipush (v := 6) (pc := 5) dX7_clear_5 (by decide) ?_
    refine e_icmp_ge (pc := 7) dX7_clear_7 (t := 98) (by decide) (fun c_7 => absurd c_7 (nI_ge (by omega : f < 6) (by decide))) (fun _ => ?_)
    refine e_iloadn (pc := 10) dX7_clear_10 rfl ?_
    refine e_iconst (v := 1) (pc := 11) dX7_clear_11 (by decide) ?_
    refine e_iadd (pc := 12) dX7_clear_12 ?_
    refine e_top ((nI_1 f)) ?_
    refine e_isn3 (pc := 13) dX7_clear_13 (Nat.le_of_ble_eq_true rfl) rfl ?_
    exact lp_y_cg hf6 MID (5 - f) (f + 1) S l _ _ rfl (by omega) hl rfl
set_option maxHeartbeats 1000000 in
theorem lp_y_ct {s u m n : Nat → Int32} {a c d : Nat → List Int32} {q : List (Option Nat)} {h : Nat} {z : mc_W} {B : Nat → List Int32} {V : Int32 × List Int32} :
    ∀ (t k : Nat) (S : Int32) (l : List Int32) (b : Nat → List Int32) (x3 x4 x5 x6 : Option Value), b = mc_up B 2 l → k + t = 216 → l.length = 36 → yct t k S l = V →
      mc_E RX7 cX7_clear 7 (mc_JM (some .int) false 2 0 0 (fun r' w' => r' = some (.int (V.1)) ∧ w' = WW s a q u c h m (mc_up B 2 V.2) n d z)) 100 [some (.ref 29), some (.int S), some (.int (nI k)), x3, x4, x5, x6] [] (WW s a q u c h m b n d z) 0 0 := by
  intro t
  induction t with
  | zero =>
    intro k S l b x3 x4 x5 x6 hb hk hl hV
    have e : k = 216 := by omega
    subst e
    have hV : (S, l) = V := hV
    subst hV hb
    refine e_iloadn (pc := 100) dX7_clear_100 rfl ?_
    refine e_sipush (v := 216) (pc := 101) dX7_clear_101 (by decide) ?_
    refine e_icmp_ge (pc := 104) dX7_clear_104 (t := 256) (by decide) (fun _ => ?_) (fun c_104 => absurd (by decide) c_104)
    refine e_iloadn (pc := 256) dX7_clear_256 rfl ?_
    exact e_iret (pc := 257) dX7_clear_257 rfl (Nat.le_refl _) (Nat.le_refl _) ⟨rfl, rfl⟩
  | succ t ih =>
    intro k S l b x3 x4 x5 x6 hb hk hl hV
    subst hb
    simp only [yct] at hV
    have hf : k / 36 < 6 := by omega
    have hg : k / 6 % 6 < 6 := by omega
    have he : k % 6 < 6 := by omega
    have r1 : nI k / 36 = nI (k / 36) := pk_div (a := k) (d := 36) (by omega) (by decide) (by decide)
    have r2 : nI k / 6 = nI (k / 6) := pk_div (a := k) (d := 6) (by omega) (by decide) (by decide)
    have r3 : nI (k / 6) - nI (k / 6) / 6 * 6 = nI (k / 6 % 6) := pk_rem (a := k / 6) (d := 6) (by omega) (by decide) (by decide)
    have r4 : nI k - nI k / 6 * 6 = nI (k % 6) := pk_rem (a := k) (d := 6) (by omega) (by decide) (by decide)
    have q1 : nI (k / 36) = nI (k / 6 % 6) ↔ k / 36 = k / 6 % 6 := nI_eq (by omega) (by omega)
    have q2 : nI (k / 6 % 6) = nI (k % 6) ↔ k / 6 % 6 = k % 6 := nI_eq (by omega) (by omega)
    have q3 : nI (k / 36) = nI (k % 6) ↔ k / 36 = k % 6 := nI_eq (by omega) (by omega)
    generalize k / 36 = f at hf r1 q1 q3 hV
    generalize k / 6 % 6 = g at hg r3 q1 q2 hV
    generalize hee : k % 6 = e at he r4 q2 q3 hV
    have l1 : (ysu l f g (ycv3 l f g e)).length = 36 := ysu_len hl
    have l2 : (ysu (ysu l f g (ycv3 l f g e)) g e (ycv3 l f g e)).length = 36 := ysu_len l1
    have x1 : ((mc_up B 2 l) 2).getD (6 * nI f + nI g).toNatClampNeg 0 = yow l f g := ow_get hf hg
    have x2 : ((mc_up B 2 l) 2).getD (6 * nI g + nI e).toNatClampNeg 0 = yow l g e := ow_get hg he
    have x3 : ((mc_up B 2 l) 2).getD (6 * nI e + nI f).toNatClampNeg 0 = yow l e f := ow_get he hf
    have x4 : ((mc_up B 2 (ysu l f g (ycv3 l f g e))) 2).getD (6 * nI g + nI e).toNatClampNeg 0 = yow (ysu l f g (ycv3 l f g e)) g e := ow_get hg he
    have x5 : ((mc_up B 2 (ysu (ysu l f g (ycv3 l f g e)) g e (ycv3 l f g e))) 2).getD (6 * nI e + nI f).toNatClampNeg 0 = yow (ysu (ysu l f g (ycv3 l f g e)) g e (ycv3 l f g e)) e f := ow_get he hf
    have v1 : vp_in (6 * nI f + nI g) ((mc_up B 2 l) 2).length := ow_in (l := l) hl hf hg
    have v2 : vp_in (6 * nI g + nI e) ((mc_up B 2 l) 2).length := ow_in (l := l) hl hg he
    have v3 : vp_in (6 * nI e + nI f) ((mc_up B 2 l) 2).length := ow_in (l := l) hl he hf
    have v4 : vp_in (6 * nI g + nI e) ((mc_up B 2 (ysu l f g (ycv3 l f g e))) 2).length := ow_in (l := ysu l f g (ycv3 l f g e)) l1 hg he
    have v5 : vp_in (6 * nI e + nI f) ((mc_up B 2 (ysu (ysu l f g (ycv3 l f g e)) g e (ycv3 l f g e))) 2).length := ow_in (l := ysu (ysu l f g (ycv3 l f g e)) g e (ycv3 l f g e)) l2 he hf
    have e1 : mc_up B 2 (l.set (6 * f + g) (yow l f g - ycv3 l f g e)) = mc_up B 2 (ysu l f g (ycv3 l f g e)) := rfl
    have e2 : mc_up B 2 ((ysu l f g (ycv3 l f g e)).set (6 * g + e) (yow (ysu l f g (ycv3 l f g e)) g e - ycv3 l f g e)) = mc_up B 2 (ysu (ysu l f g (ycv3 l f g e)) g e (ycv3 l f g e)) := rfl
    refine e_iloadn (pc := 100) dX7_clear_100 rfl ?_
    refine e_sipush (v := 216) (pc := 101) dX7_clear_101 (by decide) ?_
    refine e_icmp_ge (pc := 104) dX7_clear_104 (t := 256) (by decide) (fun c_104 => absurd c_104 (nI_ge (by omega : k < 216) (by decide))) (fun _ => ?_)
    refine e_iloadn (pc := 107) dX7_clear_107 rfl ?_
    refine e_bipush (v := 36) (pc := 108) dX7_clear_108 (by decide) ?_
    refine e_idiv (pc := 110) dX7_clear_110 (by decide) ?_
    refine e_top (r1) ?_
    refine e_isn3 (pc := 111) dX7_clear_111 (Nat.le_of_ble_eq_true rfl) rfl ?_
    refine e_iloadn (pc := 112) dX7_clear_112 rfl ?_
    refine e_bipush (v := 6) (pc := 113) dX7_clear_113 (by decide) ?_
    refine e_idiv (pc := 115) dX7_clear_115 (by decide) ?_
    refine e_top (r2) ?_
    refine e_bipush (v := 6) (pc := 116) dX7_clear_116 (by decide) ?_
    refine e_irem (pc := 118) dX7_clear_118 (by decide) ?_
    refine e_top (r3) ?_
    refine e_isw4 (pc := 119) dX7_clear_119 (Nat.le_of_ble_eq_true rfl) rfl ?_
    refine e_iloadn (pc := 121) dX7_clear_121 rfl ?_
    refine e_bipush (v := 6) (pc := 122) dX7_clear_122 (by decide) ?_
    refine e_irem (pc := 124) dX7_clear_124 (by decide) ?_
    refine e_top (r4) ?_
    refine e_isw5 (pc := 125) dX7_clear_125 (Nat.le_of_ble_eq_true rfl) rfl ?_
    refine e_iloadn (pc := 127) dX7_clear_127 rfl ?_
    refine e_iload (pc := 128) dX7_clear_128 rfl ?_
    refine e_icmp_eq (pc := 130) dX7_clear_130 (t := 250) (by decide) (fun c_130 => ?_) (fun c_130 => ?_)
    · skip
      refine e_incC2 (pc := 250) dX7_clear_250 (nI_1 k) (Nat.le_of_ble_eq_true rfl) rfl ?_
      refine e_goto (pc := 253) dX7_clear_253 (t := 100) (by decide) ?_
      exact ih (k + 1) _ _ _ _ _ _ _ rfl (by omega) hl (by rw [← hV, if_pos (Or.inl (q1.mp c_130))])
    · skip
      refine e_iload (pc := 133) dX7_clear_133 rfl ?_
      refine e_iload (pc := 135) dX7_clear_135 rfl ?_
      refine e_icmp_eq (pc := 137) dX7_clear_137 (t := 250) (by decide) (fun c_137 => ?_) (fun c_137 => ?_)
      · skip
        refine e_incC2 (pc := 250) dX7_clear_250 (nI_1 k) (Nat.le_of_ble_eq_true rfl) rfl ?_
        refine e_goto (pc := 253) dX7_clear_253 (t := 100) (by decide) ?_
        exact ih (k + 1) _ _ _ _ _ _ _ rfl (by omega) hl (by rw [← hV, if_pos (Or.inr (Or.inl (q2.mp c_137)))])
      · skip
        refine e_iloadn (pc := 140) dX7_clear_140 rfl ?_
        refine e_iload (pc := 141) dX7_clear_141 rfl ?_
        refine e_icmp_eq (pc := 143) dX7_clear_143 (t := 250) (by decide) (fun c_143 => ?_) (fun c_143 => ?_)
        · skip
          refine e_incC2 (pc := 250) dX7_clear_250 (nI_1 k) (Nat.le_of_ble_eq_true rfl) rfl ?_
          refine e_goto (pc := 253) dX7_clear_253 (t := 100) (by decide) ?_
          exact ih (k + 1) _ _ _ _ _ _ _ rfl (by omega) hl (by rw [← hV, if_pos (Or.inr (Or.inr (q3.mp c_143)))])
        · skip
          refine e_aloadn (pc := 146) dX7_clear_146 rfl ?_
          refine e_get (pc := 147) dX7_clear_147 fX7_23 rfl rfl ?_
          refine e_bipush (v := 6) (pc := 150) dX7_clear_150 (by decide) ?_
          refine e_iloadn (pc := 152) dX7_clear_152 rfl ?_
          refine e_imul (pc := 153) dX7_clear_153 ?_
          refine e_iload (pc := 154) dX7_clear_154 rfl ?_
          refine e_iadd (pc := 156) dX7_clear_156 ?_
          refine aldv_owes (pc := 157) dX7_clear_157 v1 x1 ?_
          refine e_aloadn (pc := 158) dX7_clear_158 rfl ?_
          refine e_get (pc := 159) dX7_clear_159 fX7_23 rfl rfl ?_
          refine e_bipush (v := 6) (pc := 162) dX7_clear_162 (by decide) ?_
          refine e_iload (pc := 164) dX7_clear_164 rfl ?_
          refine e_imul (pc := 166) dX7_clear_166 ?_
          refine e_iload (pc := 167) dX7_clear_167 rfl ?_
          refine e_iadd (pc := 169) dX7_clear_169 ?_
          refine aldv_owes (pc := 170) dX7_clear_170 v2 x2 ?_
          refine e_aloadn (pc := 171) dX7_clear_171 rfl ?_
          refine e_get (pc := 172) dX7_clear_172 fX7_23 rfl rfl ?_
          refine e_bipush (v := 6) (pc := 175) dX7_clear_175 (by decide) ?_
          refine e_iload (pc := 177) dX7_clear_177 rfl ?_
          refine e_imul (pc := 179) dX7_clear_179 ?_
          refine e_iloadn (pc := 180) dX7_clear_180 rfl ?_
          refine e_iadd (pc := 181) dX7_clear_181 ?_
          refine aldv_owes (pc := 182) dX7_clear_182 v3 x3 ?_
          refine e_csD (pc := 183) (sp_y_least) dX7_clear_183 kX7_250 rfl rfl (mc_CR_of (Nat.le_of_ble_eq_true rfl) (Nat.le_of_ble_eq_true rfl) (Nat.le_refl _) (Nat.le_refl _)) (Nat.le_of_ble_eq_true rfl) ?_
          refine e_csD (pc := 186) (sp_y_least) dX7_clear_186 kX7_250 rfl rfl (mc_CR_of (Nat.le_of_ble_eq_true rfl) (Nat.le_of_ble_eq_true rfl) (Nat.le_refl _) (Nat.le_refl _)) (Nat.le_of_ble_eq_true rfl) ?_
          rw [show yy_le (yow l f g) (yy_le (yow l g e) (yow l e f)) = ycv3 l f g e from rfl]
          refine e_isw6 (pc := 189) dX7_clear_189 (Nat.le_of_ble_eq_true rfl) rfl ?_
          refine e_aloadn (pc := 191) dX7_clear_191 rfl ?_
          refine e_get (pc := 192) dX7_clear_192 fX7_23 rfl rfl ?_
          refine e_bipush (v := 6) (pc := 195) dX7_clear_195 (by decide) ?_
          refine e_iloadn (pc := 197) dX7_clear_197 rfl ?_
          refine e_imul (pc := 198) dX7_clear_198 ?_
          refine e_iload (pc := 199) dX7_clear_199 rfl ?_
          refine e_iadd (pc := 201) dX7_clear_201 ?_
          refine e_dup2 (pc := 202) dX7_clear_202 rfl rfl ?_
          refine aldv_owes (pc := 203) dX7_clear_203 v1 x1 ?_
          refine e_iload (pc := 204) dX7_clear_204 rfl ?_
          refine e_isub (pc := 206) dX7_clear_206 ?_
          refine ast_owes (pc := 207) dX7_clear_207 v1 ?_
          rw [up_setl, ow_c hf hg, e1]
          refine e_aloadn (pc := 208) dX7_clear_208 rfl ?_
          refine e_get (pc := 209) dX7_clear_209 fX7_23 rfl rfl ?_
          refine e_bipush (v := 6) (pc := 212) dX7_clear_212 (by decide) ?_
          refine e_iload (pc := 214) dX7_clear_214 rfl ?_
          refine e_imul (pc := 216) dX7_clear_216 ?_
          refine e_iload (pc := 217) dX7_clear_217 rfl ?_
          refine e_iadd (pc := 219) dX7_clear_219 ?_
          refine e_dup2 (pc := 220) dX7_clear_220 rfl rfl ?_
          refine aldv_owes (pc := 221) dX7_clear_221 v4 x4 ?_
          refine e_iload (pc := 222) dX7_clear_222 rfl ?_
          refine e_isub (pc := 224) dX7_clear_224 ?_
          refine ast_owes (pc := 225) dX7_clear_225 v4 ?_
          rw [up_setl, ow_c hg he, e2]
          refine e_aloadn (pc := 226) dX7_clear_226 rfl ?_
          refine e_get (pc := 227) dX7_clear_227 fX7_23 rfl rfl ?_
          refine e_bipush (v := 6) (pc := 230) dX7_clear_230 (by decide) ?_
          refine e_iload (pc := 232) dX7_clear_232 rfl ?_
          refine e_imul (pc := 234) dX7_clear_234 ?_
          refine e_iloadn (pc := 235) dX7_clear_235 rfl ?_
          refine e_iadd (pc := 236) dX7_clear_236 ?_
          refine e_dup2 (pc := 237) dX7_clear_237 rfl rfl ?_
          refine aldv_owes (pc := 238) dX7_clear_238 v5 x5 ?_
          refine e_iload (pc := 239) dX7_clear_239 rfl ?_
          refine e_isub (pc := 241) dX7_clear_241 ?_
          refine ast_owes (pc := 242) dX7_clear_242 v5 ?_
          rw [up_setl, ow_c he hf]
          refine e_iloadn (pc := 243) dX7_clear_243 rfl ?_
          refine e_iconst (v := 3) (pc := 244) dX7_clear_244 (by decide) ?_
          refine e_iload (pc := 245) dX7_clear_245 rfl ?_
          refine e_imul (pc := 247) dX7_clear_247 ?_
          refine e_iadd (pc := 248) dX7_clear_248 ?_
          refine e_isn1 (pc := 249) dX7_clear_249 (Nat.le_of_ble_eq_true rfl) rfl ?_
          refine e_incC2 (pc := 250) dX7_clear_250 (nI_1 k) (Nat.le_of_ble_eq_true rfl) rfl ?_
          refine e_goto (pc := 253) dX7_clear_253 (t := 100) (by decide) ?_
          exact ih (k + 1) _ _ _ _ _ _ _ rfl (by omega) (ycl3_len (f := f) (g := g) (e := e) hl) (by rw [← hV, if_neg (fun q => q.elim (fun q => c_130 (q1.mpr q)) (fun q => q.elim (fun q => c_137 (q2.mpr q)) (fun q => c_143 (q3.mpr q))))]; rfl)
theorem sp_y_clear {s u m n : Nat → Int32} {a c b d : Nat → List Int32} {q : List (Option Nat)} {h : Nat} {z : mc_W} (hL : yL b) : mc_D yX7_clear cX7_clear 7 (some .int) 2 [.ref 29] (WW s a q u c h m b n d z) (some (.int (yclear (b 2)).1)) (WW s a q u c h m (mc_up b 2 (yclear (b 2)).2) n d z) := by
  refine mc_start (own := RX7) (ini := false) rfl (by decide +kernel) (fun h => by cases h) (Nat.le_of_ble_eq_true rfl) ?_
  show mc_E _ _ _ _ _ [some (.ref 29), none, none, none, none, none, none] [] _ _ _
  refine e_iconst (v := 0) (pc := 0) dX7_clear_0 (by decide) ?_
  refine e_isn1 (pc := 1) dX7_clear_1 (Nat.le_of_ble_eq_true rfl) rfl ?_
  refine e_iconst (v := 0) (pc := 2) dX7_clear_2 (by decide) ?_
  refine e_isn2 (pc := 3) dX7_clear_3 (Nat.le_of_ble_eq_true rfl) rfl ?_
  refine lp_y_cf (B := b) (V := ycf 6 0 0 (b 2)) ?_ 6 0 0 (b 2) b _ _ (mc_up_self b 2).symm (by omega) hL.2.2.1 rfl
  intro x3 x4
  refine e_iconst (v := 0) (pc := 98) dX7_clear_98 (by decide) ?_
  refine e_isn2 (pc := 99) dX7_clear_99 (Nat.le_of_ble_eq_true rfl) rfl ?_
  exact lp_y_ct 216 0 _ _ _ _ _ _ _ rfl (by omega) (ycf_len _ _ _ _ hL.2.2.1) rfl
end Zj_39_y20
