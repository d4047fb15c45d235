/-- the first that is most -/
def ymost (off : Nat → Int64) : Nat → Nat → Int32 → Int64 → Int32 × Int64
  | 0, _, be, mo => (be, mo)
  | f + 1, i, be, mo => if be = -1 ∨ mo < off i then ymost off f (i + 1) (nI i) (off i) else ymost off f (i + 1) be mo
/-- what clerk k reads himself of the figures xs -/
def yself (m : Nat → Int32) (b : Nat → List Int32) (k : Int32) (xs : List Int32) : Int64 := yrd (yfg m b k) (if yy_it (gt (b 0) k) = true then xs.reverse else xs)
def yslo (m : Nat → Int32) (b : Nat → List Int32) (k : Int32) (xs : List Int32) (i : Nat) : Int64 := yy_far (yself m b k (xs.set i (ysd (yfg m b k) (xs.getD i 0)))) (yself m b k xs)
def yslip (m : Nat → Int32) (b : Nat → List Int32) (k v w : Int32) : Int64 :=
  if mc_wi k 0 (m 2 - 1) = false then -5 else if (mc_wi v 0 99999 && mc_wi w 0 1) = false then -7
  else if w = 0 then (ymost (yslo m b k (ywr m b k v)) (ywr m b k v).length 0 (-1) 0).1.toInt64 else (ymost (yslo m b k (ywr m b k v)) (ywr m b k v).length 0 (-1) 0).2
theorem yF_set {xs : List Int32} {n : Nat → Int32} {d : Nat → List Int32} (hF : yF xs n d) (hx : xs.length ≤ 17) (i : Nat) (hi : i < xs.length) (x : Int32) : yF (xs.set i x) n (mc_up d 3 ((d 3).set i x)) := by
  obtain ⟨hD, h7, ht⟩ := hF
  refine ⟨yD_set3 hD _ _, by rw [List.length_set]; exact h7, ?_⟩
  show ((d 3).set i x).take _ = _
  rw [List.length_set]
  refine tk_of (by rw [List.length_set]) (by rw [List.length_set, hD.2.2.2]; omega) fun j hj => ?_
  rw [gD_set (by rw [hD.2.2.2]; omega), gD_set hi, tk_get ht hj]
theorem set_back {xs : List Int32} {i : Nat} {x : Int32} (hi : i < xs.length) : (xs.set i x).set i (xs.getD i 0) = xs := by
  rw [List.set_set]
  apply List.ext_getElem?
  intro j
  rw [List.getElem?_set]
  by_cases h : i = j
  · subst h
    rw [if_pos rfl, if_pos hi, List.getD_eq_getElem?_getD, List.getElem?_eq_getElem hi]; rfl
  · rw [if_neg h]
theorem mc_cg {x y : Int64} (h : ¬ lg_cmp x y ≤ 0) : y < x := Classical.not_not.mp (fun q => h (mc_cmp_le.mpr q))
set_option maxHeartbeats 1000000 in
theorem lp_y_slip {s u m n : Nat → Int32} {a c b : Nat → List Int32} {q : List (Option Nat)} {h : Nat} {z : mc_W} {k0 v w : Int32} {V : Int32 × Int64} {xs : List Int32} (hG : yG m b) (hc : mc_wi k0 0 (m 2 - 1) = true) (hx : xs.length ≤ 17) :
    ∀ (f i : Nat) (be : Int32) (mo : Int64) (d : Nat → List Int32) (x10 x11 x12 x13 : Option Value), i + f = xs.length → yF xs n d → ymost (yslo m b k0 xs) f i be mo = V →
      mc_E RX7 cX7_slip 14 (mc_JM (some .long) false 6 0 0 (fun r' w' => r' = some (.long (if w = 0 then V.1.toInt64 else V.2)) ∧ ∃ n1 d1, yD d1 ∧ w' = WW s a q u c h m b n1 d1 z)) 63 [some (.ref 29), some (.int k0), some (.int v), some (.int w), some (.long (yself m b k0 xs)), none, some (.int be), some (.long mo), none, some (.int (nI i)), x10, x11, x12, x13] [] (WW s a q u c h m b n d z) 0 0 := by
  intro f
  induction f with
  | zero =>
    intro i be mo d x10 x11 x12 x13 hi hF hV
    simp only [ymost] at hV
    subst hV
    refine e_iload (pc := 63) dX7_slip_63 rfl ?_
    refine e_aloadn (pc := 65) dX7_slip_65 rfl ?_
    refine e_get (pc := 66) dX7_slip_66 fX7_175 rfl rfl ?_
    refine e_icmp_ge (pc := 69) dX7_slip_69 (t := 180) (by decide) (fun _ => ?_) (fun c_69 => absurd (by rw [hF.2.1]; exact nI_le (by omega) (by omega)) c_69)
    refine e_iloadn (pc := 180) dX7_slip_180 rfl ?_
    refine e_if_ne (pc := 181) dX7_slip_181 (t := 190) (by decide) (fun c_181 => ?_) (fun c_181 => ?_)
    · skip
      refine e_lload (pc := 190) dX7_slip_190 rfl ?_
      exact e_lret (pc := 192) dX7_slip_192 rfl (Nat.le_refl _) (Nat.le_refl _) ⟨by rw [if_neg c_181], n, d, hF.1, rfl⟩
    · skip
      refine e_iload (pc := 184) dX7_slip_184 rfl ?_
      refine e_i2l (pc := 186) dX7_slip_186 ?_
      refine e_goto (pc := 187) dX7_slip_187 (t := 192) (by decide) ?_
      exact e_lret (pc := 192) dX7_slip_192 rfl (Nat.le_refl _) (Nat.le_refl _) ⟨by rw [if_pos c_181], n, d, hF.1, rfl⟩
  | succ f ih =>
    intro i be mo d x10 x11 x12 x13 hi hF hV
    simp only [ymost] at hV
    have hix : i < xs.length := by omega
    have iv : vp_in (nI i) (d 3).length := by rw [hF.1.2.2.2]; exact vp_in_nI (by omega) (by decide)
    have ex : (d 3).getD (nI i).toNatClampNeg 0 = xs.getD i 0 := by rw [nIc (by omega)]; exact tk_get hF.2.2 hix
    have hF2 : yF (xs.set i (ysd (yfg m b k0) (xs.getD i 0))) n (mc_up d 3 ((d 3).set (nI i).toNatClampNeg (ysd (yfg m b k0) (xs.getD i 0)))) := by rw [nIc (by omega)]; exact yF_set hF hx i hix _
    have hF3 : yF xs n (mc_up (mc_up d 3 ((d 3).set (nI i).toNatClampNeg (ysd (yfg m b k0) (xs.getD i 0)))) 3 (((mc_up d 3 ((d 3).set (nI i).toNatClampNeg (ysd (yfg m b k0) (xs.getD i 0)))) 3).set (nI i).toNatClampNeg (xs.getD i 0))) := by
      have := yF_set hF2 (by rw [List.length_set]; exact hx) i (by rw [List.length_set]; exact hix) (xs.getD i 0)
      rw [set_back hix] at this
      rw [nIc (by omega)] at this ⊢
      exact this
    have iv2 : vp_in (nI i) ((mc_up d 3 ((d 3).set (nI i).toNatClampNeg (ysd (yfg m b k0) (xs.getD i 0)))) 3).length := by rw [hF2.1.2.2.2]; exact vp_in_nI (by omega) (by decide)
    refine e_iload (pc := 63) dX7_slip_63 rfl ?_
    refine e_aloadn (pc := 65) dX7_slip_65 rfl ?_
    refine e_get (pc := 66) dX7_slip_66 fX7_175 rfl rfl ?_
    refine e_icmp_ge (pc := 69) dX7_slip_69 (t := 180) (by decide) (fun c_69 => absurd c_69 (by rw [hF.2.1]; exact nI_ge (by omega) (by omega))) (fun _ => ?_)
    refine e_aloadn (pc := 72) dX7_slip_72 rfl ?_
    refine e_get (pc := 73) dX7_slip_73 fX7_62 rfl rfl ?_
    refine e_iload (pc := 76) dX7_slip_76 rfl ?_
    refine aldv_figures (pc := 78) dX7_slip_78 iv ex ?_
    refine e_isw10 (pc := 79) dX7_slip_79 (Nat.le_of_ble_eq_true rfl) rfl ?_
    refine e_aloadn (pc := 81) dX7_slip_81 rfl ?_
    refine e_get (pc := 82) dX7_slip_82 fX7_62 rfl rfl ?_
    refine e_iload (pc := 85) dX7_slip_85 rfl ?_
    refine e_aloadn (pc := 87) dX7_slip_87 rfl ?_
    refine e_iloadn (pc := 88) dX7_slip_88 rfl ?_
    refine e_iload (pc := 89) dX7_slip_89 rfl ?_
    refine e_cvD (pc := 91) (sp_y_slipped (hG.k0 hc) (hG.k1 hc)) dX7_slip_91 kX7_230 rfl rfl rfl rfl rfl (mc_CR_of (Nat.le_of_ble_eq_true rfl) (Nat.le_of_ble_eq_true rfl) (Nat.le_refl _) (Nat.le_refl _)) (Nat.le_of_ble_eq_true rfl) ?_
    refine ast_figures (pc := 94) dX7_slip_94 iv ?_
    refine e_aloadn (pc := 95) dX7_slip_95 rfl ?_
    refine e_aloadn (pc := 96) dX7_slip_96 rfl ?_
    refine e_iloadn (pc := 97) dX7_slip_97 rfl ?_
    refine e_cvD (pc := 98) (sp_y_figuresOf (hG.k0 hc) (hG.k1 hc)) dX7_slip_98 kX7_169 rfl rfl rfl rfl rfl (mc_CR_of (Nat.le_of_ble_eq_true rfl) (Nat.le_of_ble_eq_true rfl) (Nat.le_refl _) (Nat.le_refl _)) (Nat.le_of_ble_eq_true rfl) ?_
    refine e_aloadn (pc := 101) dX7_slip_101 rfl ?_
    refine e_iloadn (pc := 102) dX7_slip_102 rfl ?_
    refine e_cvD (pc := 103) (sp_y_isTurned (hG.k0 hc)) dX7_slip_103 kX7_172 rfl rfl rfl rfl rfl (mc_CR_of (Nat.le_of_ble_eq_true rfl) (Nat.le_of_ble_eq_true rfl) (Nat.le_refl _) (Nat.le_refl _)) (Nat.le_of_ble_eq_true rfl) ?_
    refine e_cvD (pc := 106) (sp_y_readsBy hF2 (by rw [List.length_set]; exact hx)) dX7_slip_106 kX7_194 rfl rfl rfl rfl rfl (mc_CR_of (Nat.le_of_ble_eq_true rfl) (Nat.le_of_ble_eq_true rfl) (Nat.le_refl _) (Nat.le_refl _)) (Nat.le_of_ble_eq_true rfl) ?_
    refine e_lload (pc := 109) dX7_slip_109 rfl ?_
    refine e_csD (pc := 111) (sp_y_far) dX7_slip_111 kX7_208 rfl rfl (mc_CR_of (Nat.le_of_ble_eq_true rfl) (Nat.le_of_ble_eq_true rfl) (Nat.le_refl _) (Nat.le_refl _)) (Nat.le_of_ble_eq_true rfl) ?_
    refine e_lsw11 (pc := 114) dX7_slip_114 (Nat.le_of_ble_eq_true rfl) rfl ?_
    refine e_aloadn (pc := 116) dX7_slip_116 rfl ?_
    refine e_get (pc := 117) dX7_slip_117 fX7_62 rfl rfl ?_
    refine e_iload (pc := 120) dX7_slip_120 rfl ?_
    refine e_iload (pc := 122) dX7_slip_122 rfl ?_
    refine ast_figures (pc := 124) dX7_slip_124 iv2 ?_
    refine e_iload (pc := 125) dX7_slip_125 rfl ?_
    refine e_iconst (v := -1) (pc := 127) dX7_slip_127 (by decide) ?_
    refine e_icmp_eq (pc := 128) dX7_slip_128 (t := 139) (by decide) (fun c_128 => ?_) (fun c_128 => ?_)
    · skip
      refine e_iconst (v := 1) (pc := 139) dX7_slip_139 (by decide) ?_
      refine e_goto (pc := 140) dX7_slip_140 (t := 144) (by decide) ?_
      refine e_isw13 (pc := 144) dX7_slip_144 (Nat.le_of_ble_eq_true rfl) rfl ?_
      refine e_iload (pc := 146) dX7_slip_146 rfl ?_
      refine e_if_eq (pc := 148) dX7_slip_148 (t := 156) (by decide) (fun c_148 => absurd c_148 (by decide)) (fun _ => ?_)
      refine e_iload (pc := 151) dX7_slip_151 rfl ?_
      refine e_goto (pc := 153) dX7_slip_153 (t := 158) (by decide) ?_
      refine e_isw6 (pc := 158) dX7_slip_158 (Nat.le_of_ble_eq_true rfl) rfl ?_
      refine e_iload (pc := 160) dX7_slip_160 rfl ?_
      refine e_if_eq (pc := 162) dX7_slip_162 (t := 170) (by decide) (fun c_162 => absurd c_162 (by decide)) (fun _ => ?_)
      refine e_lload (pc := 165) dX7_slip_165 rfl ?_
      refine e_goto (pc := 167) dX7_slip_167 (t := 172) (by decide) ?_
      refine e_lsw7 (pc := 172) dX7_slip_172 (Nat.le_of_ble_eq_true rfl) rfl ?_
      refine e_incC9 (pc := 174) dX7_slip_174 (nI_1 i) (Nat.le_of_ble_eq_true rfl) rfl ?_
      refine e_goto (pc := 177) dX7_slip_177 (t := 63) (by decide) ?_
      exact ih (i + 1) _ _ _ _ _ _ _ (by omega) hF3 (by rw [← hV, if_pos (c := be = -1 ∨ mo < yslo m b k0 xs i) (Or.inl c_128)] <;> rfl)
    · skip
      refine e_lload (pc := 131) dX7_slip_131 rfl ?_
      refine e_lload (pc := 133) dX7_slip_133 rfl ?_
      refine e_lcmp (pc := 135) dX7_slip_135 ?_
      refine e_if_le (pc := 136) dX7_slip_136 (t := 143) (by decide) (fun c_136 => ?_) (fun c_136 => ?_)
      · skip
        refine e_iconst (v := 0) (pc := 143) dX7_slip_143 (by decide) ?_
        refine e_isw13 (pc := 144) dX7_slip_144 (Nat.le_of_ble_eq_true rfl) rfl ?_
        refine e_iload (pc := 146) dX7_slip_146 rfl ?_
        refine e_if_eq (pc := 148) dX7_slip_148 (t := 156) (by decide) (fun _ => ?_) (fun c_148 => absurd (by decide) c_148)
        refine e_iload (pc := 156) dX7_slip_156 rfl ?_
        refine e_isw6 (pc := 158) dX7_slip_158 (Nat.le_of_ble_eq_true rfl) rfl ?_
        refine e_iload (pc := 160) dX7_slip_160 rfl ?_
        refine e_if_eq (pc := 162) dX7_slip_162 (t := 170) (by decide) (fun _ => ?_) (fun c_162 => absurd (by decide) c_162)
        refine e_lload (pc := 170) dX7_slip_170 rfl ?_
        refine e_lsw7 (pc := 172) dX7_slip_172 (Nat.le_of_ble_eq_true rfl) rfl ?_
        refine e_incC9 (pc := 174) dX7_slip_174 (nI_1 i) (Nat.le_of_ble_eq_true rfl) rfl ?_
        refine e_goto (pc := 177) dX7_slip_177 (t := 63) (by decide) ?_
        exact ih (i + 1) _ _ _ _ _ _ _ (by omega) hF3 (by rw [← hV, if_neg (c := be = -1 ∨ mo < yslo m b k0 xs i) (fun q => q.elim c_128 (mc_cmp_le.mp c_136))] <;> rfl)
      · skip
        refine e_iconst (v := 1) (pc := 139) dX7_slip_139 (by decide) ?_
        refine e_goto (pc := 140) dX7_slip_140 (t := 144) (by decide) ?_
        refine e_isw13 (pc := 144) dX7_slip_144 (Nat.le_of_ble_eq_true rfl) rfl ?_
        refine e_iload (pc := 146) dX7_slip_146 rfl ?_
        refine e_if_eq (pc := 148) dX7_slip_148 (t := 156) (by decide) (fun c_148 => absurd c_148 (by decide)) (fun _ => ?_)
        refine e_iload (pc := 151) dX7_slip_151 rfl ?_
        refine e_goto (pc := 153) dX7_slip_153 (t := 158) (by decide) ?_
        refine e_isw6 (pc := 158) dX7_slip_158 (Nat.le_of_ble_eq_true rfl) rfl ?_
        refine e_iload (pc := 160) dX7_slip_160 rfl ?_
        refine e_if_eq (pc := 162) dX7_slip_162 (t := 170) (by decide) (fun c_162 => absurd c_162 (by decide)) (fun _ => ?_)
        refine e_lload (pc := 165) dX7_slip_165 rfl ?_
        refine e_goto (pc := 167) dX7_slip_167 (t := 172) (by decide) ?_
        refine e_lsw7 (pc := 172) dX7_slip_172 (Nat.le_of_ble_eq_true rfl) rfl ?_
        refine e_incC9 (pc := 174) dX7_slip_174 (nI_1 i) (Nat.le_of_ble_eq_true rfl) rfl ?_
        refine e_goto (pc := 177) dX7_slip_177 (t := 63) (by decide) ?_
        exact ih (i + 1) _ _ _ _ _ _ _ (by omega) hF3 (by rw [← hV, if_pos (c := be = -1 ∨ mo < yslo m b k0 xs i) (Or.inr (mc_cg c_136))] <;> rfl)
theorem sp_y_slip {s u m n : Nat → Int32} {a c b d : Nat → List Int32} {q : List (Option Nat)} {h : Nat} {z : mc_W} {k v w : Int32} (hG : yG m b) (hD : yD d) : mc_T yX7_slip cX7_slip 14 (some .long) 6 [.ref 29, .int k, .int v, .int w] (WW s a q u c h m b n d z) (some (.long (yslip m b k v w))) (fun w' => ∃ n1 d1, yD d1 ∧ w' = WW s a q u c h m b n1 d1 z) := by
  refine mc_start (own := RX7) (ini := false) rfl (by decide +kernel) (fun h => by cases h) (Nat.le_of_ble_eq_true rfl) ?_
  show mc_E _ _ _ _ _ [some (.ref 29), some (.int k), some (.int v), some (.int w), none, none, none, none, none, none, none, none, none, none] [] _ _ _
  refine e_aloadn (pc := 0) dX7_slip_0 rfl ?_
  refine e_iloadn (pc := 1) dX7_slip_1 rfl ?_
  refine e_cvD (pc := 2) (sp_y_isClerk) dX7_slip_2 kX7_159 rfl rfl rfl rfl rfl (mc_CR_of (Nat.le_of_ble_eq_true rfl) (Nat.le_of_ble_eq_true rfl) (Nat.le_refl _) (Nat.le_refl _)) (Nat.le_of_ble_eq_true rfl) ?_
  refine e_if_ne (pc := 5) dX7_slip_5 (t := 12) (by decide) (fun c_5 => ?_) (fun c_5 => ?_)
  · skip
    refine e_iloadn (pc := 12) dX7_slip_12 rfl ?_
    refine e_csD (pc := 13) (sp_y_isNumber) dX7_slip_13 kX7_162 rfl rfl (mc_CR_of (Nat.le_of_ble_eq_true rfl) (Nat.le_of_ble_eq_true rfl) (Nat.le_refl _) (Nat.le_refl _)) (Nat.le_of_ble_eq_true rfl) ?_
    refine e_if_eq (pc := 16) dX7_slip_16 (t := 28) (by decide) (fun c_16 => ?_) (fun c_16 => ?_)
    · skip
      refine e_ldc2 (pc := 28) dX7_slip_28 qX7_192 ?_
      exact e_lret (pc := 31) dX7_slip_31 rfl (Nat.le_refl _) (Nat.le_refl _) ⟨(by (try simp only [mc_cmp_le, mc_cmp_ge, mc_cmp_eq, mc_cmp_lt, mc_cmp_gt, mc_b0, mc_b1, Bool.not_eq_false, Bool.not_eq_true] at c_5 c_16); first | rfl | (simp [yslip, c_5, c_16]; done) | ((try simp only [← Int32.not_lt, ← Int64.not_lt, Classical.not_not] at c_5 c_16); simp [yslip, c_5, c_16])), n, d, hD, rfl⟩
    · skip
      refine e_iloadn (pc := 19) dX7_slip_19 rfl ?_
      refine e_iconst (v := 0) (pc := 20) dX7_slip_20 (by decide) ?_
      refine e_iconst (v := 1) (pc := 21) dX7_slip_21 (by decide) ?_
      refine e_csD (pc := 22) (sp_y_in) dX7_slip_22 kX7_75 rfl rfl (mc_CR_of (Nat.le_of_ble_eq_true rfl) (Nat.le_of_ble_eq_true rfl) (Nat.le_refl _) (Nat.le_refl _)) (Nat.le_of_ble_eq_true rfl) ?_
      refine e_if_ne (pc := 25) dX7_slip_25 (t := 32) (by decide) (fun c_25 => ?_) (fun c_25 => ?_)
      · skip
        refine e_aloadn (pc := 32) dX7_slip_32 rfl ?_
        refine e_iloadn (pc := 33) dX7_slip_33 rfl ?_
        refine e_iloadn (pc := 34) dX7_slip_34 rfl ?_
        refine e_cvY (pc := 35) (sp_y_writes hG.1 hG.V (hG.k0 (mc_b1.mp c_5)) (hG.k1 (mc_b1.mp c_5)) (hG.fg _) (hG.mk _ _ (by simpa [mc_b0] using c_16)) hD) dX7_slip_35 kX7_186 rfl rfl rfl rfl rfl (mc_CR_of (Nat.le_of_ble_eq_true rfl) (Nat.le_of_ble_eq_true rfl) (Nat.le_refl _) (Nat.le_refl _)) (Nat.le_of_ble_eq_true rfl) (fun w1 hw1 => ?_)
        obtain ⟨n1, d1, hF1, rfl⟩ := hw1
        refine e_aloadn (pc := 38) dX7_slip_38 rfl ?_
        refine e_aloadn (pc := 39) dX7_slip_39 rfl ?_
        refine e_iloadn (pc := 40) dX7_slip_40 rfl ?_
        refine e_cvD (pc := 41) (sp_y_figuresOf (hG.k0 (mc_b1.mp c_5)) (hG.k1 (mc_b1.mp c_5))) dX7_slip_41 kX7_169 rfl rfl rfl rfl rfl (mc_CR_of (Nat.le_of_ble_eq_true rfl) (Nat.le_of_ble_eq_true rfl) (Nat.le_refl _) (Nat.le_refl _)) (Nat.le_of_ble_eq_true rfl) ?_
        refine e_aloadn (pc := 44) dX7_slip_44 rfl ?_
        refine e_iloadn (pc := 45) dX7_slip_45 rfl ?_
        refine e_cvD (pc := 46) (sp_y_isTurned (hG.k0 (mc_b1.mp c_5))) dX7_slip_46 kX7_172 rfl rfl rfl rfl rfl (mc_CR_of (Nat.le_of_ble_eq_true rfl) (Nat.le_of_ble_eq_true rfl) (Nat.le_refl _) (Nat.le_refl _)) (Nat.le_of_ble_eq_true rfl) ?_
        refine e_cvD (pc := 49) (sp_y_readsBy hF1 (ywr_len m b k v)) dX7_slip_49 kX7_194 rfl rfl rfl rfl rfl (mc_CR_of (Nat.le_of_ble_eq_true rfl) (Nat.le_of_ble_eq_true rfl) (Nat.le_refl _) (Nat.le_refl _)) (Nat.le_of_ble_eq_true rfl) ?_
        refine e_lsw4 (pc := 52) dX7_slip_52 (Nat.le_of_ble_eq_true rfl) rfl ?_
        refine e_iconst (v := -1) (pc := 54) dX7_slip_54 (by decide) ?_
        refine e_isw6 (pc := 55) dX7_slip_55 (Nat.le_of_ble_eq_true rfl) rfl ?_
        refine e_lconst (v := 0) (pc := 57) dX7_slip_57 (by decide) ?_
        refine e_lsw7 (pc := 58) dX7_slip_58 (Nat.le_of_ble_eq_true rfl) rfl ?_
        refine e_iconst (v := 0) (pc := 60) dX7_slip_60 (by decide) ?_
        refine e_isw9 (pc := 61) dX7_slip_61 (Nat.le_of_ble_eq_true rfl) rfl ?_
        have K := lp_y_slip (n := n1) (s := s) (a := a) (q := q) (u := u) (c := c) (h := h) (z := z) (v := v) (w := w) (xs := ywr m b k v) hG (mc_b1.mp c_5) (ywr_len m b k v) (ywr m b k v).length 0 (-1) 0 d1 none none none none (by omega) hF1 rfl
        have q16 : mc_wi v 0 99999 = true := (by simpa [mc_b0] using c_16)
        unfold yslip
        rw [if_neg (c := mc_wi k 0 (m 2 - 1) = false) (by simp [mc_b1.mp c_5]), if_neg (c := (mc_wi v 0 99999 && mc_wi w 0 1) = false) (by simp [mc_b1.mp c_25, q16])]
        exact K
      · skip
        refine e_ldc2 (pc := 28) dX7_slip_28 qX7_192 ?_
        exact e_lret (pc := 31) dX7_slip_31 rfl (Nat.le_refl _) (Nat.le_refl _) ⟨(by (try simp only [mc_cmp_le, mc_cmp_ge, mc_cmp_eq, mc_cmp_lt, mc_cmp_gt, mc_b0, mc_b1, Bool.not_eq_false, Bool.not_eq_true] at c_5 c_16 c_25); first | rfl | (simp [yslip, c_5, c_16, c_25]; done) | ((try simp only [← Int32.not_lt, ← Int64.not_lt, Classical.not_not] at c_5 c_16 c_25); simp [yslip, c_5, c_16, c_25])), n, d, hD, rfl⟩
  · skip
    refine e_ldc2 (pc := 8) dX7_slip_8 qX7_190 ?_
    exact e_lret (pc := 11) dX7_slip_11 rfl (Nat.le_refl _) (Nat.le_refl _) ⟨(by (try simp only [mc_cmp_le, mc_cmp_ge, mc_cmp_eq, mc_cmp_lt, mc_cmp_gt, mc_b0, mc_b1, Bool.not_eq_false, Bool.not_eq_true] at c_5); first | rfl | (simp [yslip, c_5]; done) | ((try simp only [← Int32.not_lt, ← Int64.not_lt, Classical.not_not] at c_5); simp [yslip, c_5])), n, d, hD, rfl⟩
theorem mc_up_up {α : Type} (f : Nat → α) (k : Nat) (x y : α) : mc_up (mc_up f k x) k y = mc_up f k y := by
  funext j; unfold mc_up; by_cases h : j = k
  · rw [if_pos h, if_pos h]
  · rw [if_neg h, if_neg h, if_neg h]
theorem yG_base {m : Nat → Int32} {b : Nat → List Int32} (h : yG m b) {x : Nat} (h1 : 2 ≤ x) (h2 : x ≤ 12) : yG (mc_up m 0 (nI x)) b :=
  ⟨h.1, h.2.1, by show 2 ≤ (nI x).toInt ∧ (nI x).toInt ≤ 12; rw [nI_toInt (by omega)]; omega, h.2.2.2.1, h.2.2.2.2.1, h.2.2.2.2.2⟩
def yfew (off : Nat → Int32) : Nat → Nat → Int32 → Int32 → Int32 × Int32
  | 0, _, be, le => (be, le)
  | f + 1, i, be, le => if be = -1 ∨ off i < le then yfew off f (i + 1) (nI i) (off i) else yfew off f (i + 1) be le
def ysho (m : Nat → Int32) (b : Nat → List Int32) (s k : Int32) (i : Nat) : Int32 := yfa (mc_up m 0 (nI i)) b s k
def yshort (m : Nat → Int32) (b : Nat → List Int32) (s k w : Int32) : Int32 :=
  if ¬ ybw b s = 0 then ybw b s else if mc_wi k 0 (m 2 - 1) = false then -5 else if mc_wi w 0 1 = false then -7
  else if w = 0 then (yfew (ysho m b s k) 11 2 (-1) 0).1 else (yfew (ysho m b s k) 11 2 (-1) 0).2
set_option maxHeartbeats 1000000 in
theorem lp_y_short {s u m : Nat → Int32} {a c b : Nat → List Int32} {q : List (Option Nat)} {h : Nat} {z : mc_W} {s0 k0 w : Int32} {V : Int32 × Int32} (hG : yG m b) (hS : ySh b) (h0 : ybw b s0 = 0) (hc : mc_wi k0 0 (m 2 - 1) = true) :
    ∀ (f i : Nat) (be le : Int32) (m1 n : Nat → Int32) (d : Nat → List Int32) (x4 : Int32) (x9 x10 : Option Value), i + f = 13 → mc_is2 (some x9) = false → 2 ≤ i → (∀ x, mc_up m1 0 x = mc_up m 0 x) → yD d → yfew (ysho m b s0 k0) f i be le = V →
      mc_E RX7 cX7_shortest 11 (mc_JM (some .int) false 7 0 0 (fun r' w' => r' = some (.int (if w = 0 then V.1 else V.2)) ∧ ∃ n1 d1, yD d1 ∧ w' = WW s a q u c h m b n1 d1 z)) 53 [some (.ref 29), some (.int s0), some (.int k0), some (.int w), some (.int x4), some (.int (m 0)), some (.int be), some (.int le), some (.int (nI i)), x9, x10] [] (WW s a q u c h m1 b n d z) 0 0 := by
  have hs := (ybw0 h0)
  intro f
  induction f with
  | zero =>
    intro i be le m1 n d x4 x9 x10 hi h9 h2 hm1 hD hV
    have e13 : i = 13 := by omega
    subst e13
    simp only [yfew] at hV
    subst hV
    refine e_iload (pc := 53) dX7_shortest_53 rfl ?_
    refine e_bipush (v := 12) (pc := 55) dX7_shortest_55 (by decide) ?_
    refine e_icmp_gt (pc := 57) dX7_shortest_57 (t := 128) (by decide) (fun _ => ?_) (fun c_57 => absurd (by decide) c_57)
    refine e_aloadn (pc := 128) dX7_shortest_128 rfl ?_
    refine e_iload (pc := 129) dX7_shortest_129 rfl ?_
    refine put_y_base0 (pc := 131) dX7_shortest_131 pX7_7 ?_
    refine e_iloadn (pc := 134) dX7_shortest_134 rfl ?_
    refine e_if_ne (pc := 135) dX7_shortest_135 (t := 143) (by decide) (fun c_135 => ?_) (fun c_135 => ?_)
    · skip
      refine e_iload (pc := 143) dX7_shortest_143 rfl ?_
      exact e_iret (pc := 145) dX7_shortest_145 rfl (Nat.le_refl _) (Nat.le_refl _) ⟨by rw [if_neg c_135], n, d, hD, by rw [hm1, mc_up_self]⟩
    · skip
      refine e_iload (pc := 138) dX7_shortest_138 rfl ?_
      refine e_goto (pc := 140) dX7_shortest_140 (t := 145) (by decide) ?_
      exact e_iret (pc := 145) dX7_shortest_145 rfl (Nat.le_refl _) (Nat.le_refl _) ⟨by rw [if_pos c_135], n, d, hD, by rw [hm1, mc_up_self]⟩
  | succ f ih =>
    intro i be le m1 n d x4 x9 x10 hi h9 h2 hm1 hD hV
    simp only [yfew] at hV
    have hG2 : yG (mc_up m 0 (nI i)) b := yG_base hG h2 (by omega)
    have n12 : ¬ (12 : Int32) < nI i := nI_nlt (a := 12) (b := i) (by omega) (by decide)
    refine e_iload (pc := 53) dX7_shortest_53 rfl ?_
    refine e_bipush (v := 12) (pc := 55) dX7_shortest_55 (by decide) ?_
    refine e_icmp_gt (pc := 57) dX7_shortest_57 (t := 128) (by decide) (fun c_57 => absurd c_57 n12) (fun _ => ?_)
    refine e_aloadn (pc := 60) dX7_shortest_60 rfl ?_
    refine e_iload (pc := 61) dX7_shortest_61 rfl ?_
    refine put_y_base0 (pc := 63) dX7_shortest_63 pX7_7 ?_
    rw [hm1]
    refine e_aloadn (pc := 66) dX7_shortest_66 rfl ?_
    refine e_iloadn (pc := 67) dX7_shortest_67 rfl ?_
    refine e_iloadn (pc := 68) dX7_shortest_68 rfl ?_
    refine e_cvX (pc := 69) (sp_y_figuresAll hG2 hS hs.1 hc hs.2 hD) dX7_shortest_69 kX7_237 rfl rfl rfl rfl rfl (mc_CR_of (Nat.le_of_ble_eq_true rfl) (Nat.le_of_ble_eq_true rfl) (Nat.le_refl _) (Nat.le_refl _)) (Nat.le_of_ble_eq_true rfl) (fun w1 hw1 => ?_)
    obtain ⟨n1, d1, hD1, rfl⟩ := hw1
    refine e_isw9 (pc := 72) dX7_shortest_72 (Nat.le_of_ble_eq_true rfl) rfl ?_
    refine e_iload (pc := 74) dX7_shortest_74 rfl ?_
    refine e_iconst (v := -1) (pc := 76) dX7_shortest_76 (by decide) ?_
    refine e_icmp_eq (pc := 77) dX7_shortest_77 (t := 87) (by decide) (fun c_77 => ?_) (fun c_77 => ?_)
    · skip
      refine e_iconst (v := 1) (pc := 87) dX7_shortest_87 (by decide) ?_
      refine e_goto (pc := 88) dX7_shortest_88 (t := 92) (by decide) ?_
      refine e_isw10 (pc := 92) dX7_shortest_92 (Nat.le_of_ble_eq_true rfl) rfl ?_
      refine e_iload (pc := 94) dX7_shortest_94 rfl ?_
      refine e_if_eq (pc := 96) dX7_shortest_96 (t := 104) (by decide) (fun c_96 => absurd c_96 (by decide)) (fun _ => ?_)
      refine e_iload (pc := 99) dX7_shortest_99 rfl ?_
      refine e_goto (pc := 101) dX7_shortest_101 (t := 106) (by decide) ?_
      refine e_isw6 (pc := 106) dX7_shortest_106 (Nat.le_of_ble_eq_true rfl) rfl ?_
      refine e_iload (pc := 108) dX7_shortest_108 rfl ?_
      refine e_if_eq (pc := 110) dX7_shortest_110 (t := 118) (by decide) (fun c_110 => absurd c_110 (by decide)) (fun _ => ?_)
      refine e_iload (pc := 113) dX7_shortest_113 rfl ?_
      refine e_goto (pc := 115) dX7_shortest_115 (t := 120) (by decide) ?_
      refine e_isw7 (pc := 120) dX7_shortest_120 (Nat.le_of_ble_eq_true rfl) rfl ?_
      refine e_incC8 (pc := 122) dX7_shortest_122 (nI_1 i) (Nat.le_of_ble_eq_true rfl) rfl ?_
      refine e_goto (pc := 125) dX7_shortest_125 (t := 53) (by decide) ?_
      exact ih (i + 1) _ _ _ n1 d1 _ _ _ (by omega) rfl (by omega) (fun x => mc_up_up _ _ _ _) hD1 (by rw [← hV, if_pos (c := be = -1 ∨ ysho m b s0 k0 i < le) (Or.inl c_77)] <;> rfl)
    · skip
      refine e_iload (pc := 80) dX7_shortest_80 rfl ?_
      refine e_iload (pc := 82) dX7_shortest_82 rfl ?_
      refine e_icmp_ge (pc := 84) dX7_shortest_84 (t := 91) (by decide) (fun c_84 => ?_) (fun c_84 => ?_)
      · skip
        refine e_iconst (v := 0) (pc := 91) dX7_shortest_91 (by decide) ?_
        refine e_isw10 (pc := 92) dX7_shortest_92 (Nat.le_of_ble_eq_true rfl) rfl ?_
        refine e_iload (pc := 94) dX7_shortest_94 rfl ?_
        refine e_if_eq (pc := 96) dX7_shortest_96 (t := 104) (by decide) (fun _ => ?_) (fun c_96 => absurd (by decide) c_96)
        refine e_iload (pc := 104) dX7_shortest_104 rfl ?_
        refine e_isw6 (pc := 106) dX7_shortest_106 (Nat.le_of_ble_eq_true rfl) rfl ?_
        refine e_iload (pc := 108) dX7_shortest_108 rfl ?_
        refine e_if_eq (pc := 110) dX7_shortest_110 (t := 118) (by decide) (fun _ => ?_) (fun c_110 => absurd (by decide) c_110)
        refine e_iload (pc := 118) dX7_shortest_118 rfl ?_
        refine e_isw7 (pc := 120) dX7_shortest_120 (Nat.le_of_ble_eq_true rfl) rfl ?_
        refine e_incC8 (pc := 122) dX7_shortest_122 (nI_1 i) (Nat.le_of_ble_eq_true rfl) rfl ?_
        refine e_goto (pc := 125) dX7_shortest_125 (t := 53) (by decide) ?_
        exact ih (i + 1) _ _ _ n1 d1 _ _ _ (by omega) rfl (by omega) (fun x => mc_up_up _ _ _ _) hD1 (by rw [← hV, if_neg (c := be = -1 ∨ ysho m b s0 k0 i < le) (fun q => q.elim c_77 (Int32.not_lt.mpr c_84))] <;> rfl)
      · skip
        refine e_iconst (v := 1) (pc := 87) dX7_shortest_87 (by decide) ?_
        refine e_goto (pc := 88) dX7_shortest_88 (t := 92) (by decide) ?_
        refine e_isw10 (pc := 92) dX7_shortest_92 (Nat.le_of_ble_eq_true rfl) rfl ?_
        refine e_iload (pc := 94) dX7_shortest_94 rfl ?_
        refine e_if_eq (pc := 96) dX7_shortest_96 (t := 104) (by decide) (fun c_96 => absurd c_96 (by decide)) (fun _ => ?_)
        refine e_iload (pc := 99) dX7_shortest_99 rfl ?_
        refine e_goto (pc := 101) dX7_shortest_101 (t := 106) (by decide) ?_
        refine e_isw6 (pc := 106) dX7_shortest_106 (Nat.le_of_ble_eq_true rfl) rfl ?_
        refine e_iload (pc := 108) dX7_shortest_108 rfl ?_
        refine e_if_eq (pc := 110) dX7_shortest_110 (t := 118) (by decide) (fun c_110 => absurd c_110 (by decide)) (fun _ => ?_)
        refine e_iload (pc := 113) dX7_shortest_113 rfl ?_
        refine e_goto (pc := 115) dX7_shortest_115 (t := 120) (by decide) ?_
        refine e_isw7 (pc := 120) dX7_shortest_120 (Nat.le_of_ble_eq_true rfl) rfl ?_
        refine e_incC8 (pc := 122) dX7_shortest_122 (nI_1 i) (Nat.le_of_ble_eq_true rfl) rfl ?_
        refine e_goto (pc := 125) dX7_shortest_125 (t := 53) (by decide) ?_
        exact ih (i + 1) _ _ _ n1 d1 _ _ _ (by omega) rfl (by omega) (fun x => mc_up_up _ _ _ _) hD1 (by rw [← hV, if_pos (c := be = -1 ∨ ysho m b s0 k0 i < le) (Or.inr (Int32.not_le.mp c_84))] <;> rfl)
theorem sp_y_shortest {s u m n : Nat → Int32} {a c b d : Nat → List Int32} {q : List (Option Nat)} {h : Nat} {z : mc_W} {s0 k w : Int32} (hG : yG m b) (hS : ySh b) (hD : yD d) : mc_T yX7_shortest cX7_shortest 11 (some .int) 7 [.ref 29, .int s0, .int k, .int w] (WW s a q u c h m b n d z) (some (.int (yshort m b s0 k w))) (fun w' => ∃ n1 d1, yD d1 ∧ w' = WW s a q u c h m b n1 d1 z) := by
  refine mc_start (own := RX7) (ini := false) rfl (by decide +kernel) (fun h => by cases h) (Nat.le_of_ble_eq_true rfl) ?_
  show mc_E _ _ _ _ _ [some (.ref 29), some (.int s0), some (.int k), some (.int w), none, none, none, none, none, none, none] [] _ _ _
  refine e_aloadn (pc := 0) dX7_shortest_0 rfl ?_
  refine e_iloadn (pc := 1) dX7_shortest_1 rfl ?_
  refine e_cvD (pc := 2) (sp_y_bookWrong hG.1 hS) dX7_shortest_2 kX7_214 rfl rfl rfl rfl rfl (mc_CR_of (Nat.le_of_ble_eq_true rfl) (Nat.le_of_ble_eq_true rfl) (Nat.le_refl _) (Nat.le_refl _)) (Nat.le_of_ble_eq_true rfl) ?_
  refine e_isw4 (pc := 5) dX7_shortest_5 (Nat.le_of_ble_eq_true rfl) rfl ?_
  refine e_iload (pc := 7) dX7_shortest_7 rfl ?_
  refine e_if_eq (pc := 9) dX7_shortest_9 (t := 15) (by decide) (fun c_9 => ?_) (fun c_9 => ?_)
  · skip
    refine e_aloadn (pc := 15) dX7_shortest_15 rfl ?_
    refine e_iloadn (pc := 16) dX7_shortest_16 rfl ?_
    refine e_cvD (pc := 17) (sp_y_isClerk) dX7_shortest_17 kX7_159 rfl rfl rfl rfl rfl (mc_CR_of (Nat.le_of_ble_eq_true rfl) (Nat.le_of_ble_eq_true rfl) (Nat.le_refl _) (Nat.le_refl _)) (Nat.le_of_ble_eq_true rfl) ?_
    refine e_if_ne (pc := 20) dX7_shortest_20 (t := 26) (by decide) (fun c_20 => ?_) (fun c_20 => ?_)
    · skip
      refine e_iloadn (pc := 26) dX7_shortest_26 rfl ?_
      refine e_iconst (v := 0) (pc := 27) dX7_shortest_27 (by decide) ?_
      refine e_iconst (v := 1) (pc := 28) dX7_shortest_28 (by decide) ?_
      refine e_csD (pc := 29) (sp_y_in) dX7_shortest_29 kX7_75 rfl rfl (mc_CR_of (Nat.le_of_ble_eq_true rfl) (Nat.le_of_ble_eq_true rfl) (Nat.le_refl _) (Nat.le_refl _)) (Nat.le_of_ble_eq_true rfl) ?_
      refine e_if_ne (pc := 32) dX7_shortest_32 (t := 38) (by decide) (fun c_32 => ?_) (fun c_32 => ?_)
      · skip
        refine e_aloadn (pc := 38) dX7_shortest_38 rfl ?_
        refine e_get (pc := 39) dX7_shortest_39 fX7_7 rfl rfl ?_
        refine e_isw5 (pc := 42) dX7_shortest_42 (Nat.le_of_ble_eq_true rfl) rfl ?_
        refine e_iconst (v := -1) (pc := 44) dX7_shortest_44 (by decide) ?_
        refine e_isw6 (pc := 45) dX7_shortest_45 (Nat.le_of_ble_eq_true rfl) rfl ?_
        refine e_iconst (v := 0) (pc := 47) dX7_shortest_47 (by decide) ?_
        refine e_isw7 (pc := 48) dX7_shortest_48 (Nat.le_of_ble_eq_true rfl) rfl ?_
        refine e_iconst (v := 2) (pc := 50) dX7_shortest_50 (by decide) ?_
        refine e_isw8 (pc := 51) dX7_shortest_51 (Nat.le_of_ble_eq_true rfl) rfl ?_
        have K := lp_y_short (s := s) (a := a) (q := q) (u := u) (c := c) (h := h) (z := z) (w := w) hG hS c_9 (mc_b1.mp c_20) 11 2 (-1) 0 m n d (ybw b s0) none none (by omega) rfl (by omega) (fun _ => rfl) hD rfl
        unfold yshort
        rw [if_neg (fun q => q c_9), if_neg (c := mc_wi k 0 (m 2 - 1) = false) (by simp [mc_b1.mp c_20]), if_neg (c := mc_wi w 0 1 = false) (by simp [mc_b1.mp c_32])]
        exact K
      · skip
        refine e_bipush (v := -7) (pc := 35) dX7_shortest_35 (by decide) ?_
        exact e_iret (pc := 37) dX7_shortest_37 rfl (Nat.le_refl _) (Nat.le_refl _) ⟨(by (try simp only [mc_cmp_le, mc_cmp_ge, mc_cmp_eq, mc_cmp_lt, mc_cmp_gt, mc_b0, mc_b1, Bool.not_eq_false, Bool.not_eq_true] at c_9 c_20 c_32); first | rfl | (simp [yshort, c_9, c_20, c_32]; done) | ((try simp only [← Int32.not_lt, ← Int64.not_lt, Classical.not_not] at c_9 c_20 c_32); simp [yshort, c_9, c_20, c_32])), n, d, hD, rfl⟩
    · skip
      refine e_bipush (v := -5) (pc := 23) dX7_shortest_23 (by decide) ?_
      exact e_iret (pc := 25) dX7_shortest_25 rfl (Nat.le_refl _) (Nat.le_refl _) ⟨(by (try simp only [mc_cmp_le, mc_cmp_ge, mc_cmp_eq, mc_cmp_lt, mc_cmp_gt, mc_b0, mc_b1, Bool.not_eq_false, Bool.not_eq_true] at c_9 c_20); first | rfl | (simp [yshort, c_9, c_20]; done) | ((try simp only [← Int32.not_lt, ← Int64.not_lt, Classical.not_not] at c_9 c_20); simp [yshort, c_9, c_20])), n, d, hD, rfl⟩
  · skip
    refine e_iload (pc := 12) dX7_shortest_12 rfl ?_
    exact e_iret (pc := 14) dX7_shortest_14 rfl (Nat.le_refl _) (Nat.le_refl _) ⟨(by (try simp only [mc_cmp_le, mc_cmp_ge, mc_cmp_eq, mc_cmp_lt, mc_cmp_gt, mc_b0, mc_b1, Bool.not_eq_false, Bool.not_eq_true] at c_9); first | rfl | (simp [yshort, c_9]; done) | ((try simp only [← Int32.not_lt, ← Int64.not_lt, Classical.not_not] at c_9); simp [yshort, c_9])), n, d, hD, rfl⟩
