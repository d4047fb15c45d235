/-- the first that is least: its number, and how little -/
def ybest (off : Nat → Int64) : Nat → Nat → Int32 → Int64 → Int32 × Int64
  | 0, _, be, le => (be, le)
  | f + 1, i, be, le => if be = -1 ∨ off i < le then ybest off f (i + 1) (nI i) (off i) else ybest off f (i + 1) be le
def ywho (m : Nat → Int32) (b : Nat → List Int32) (s w : Int32) : Int64 :=
  if ¬ ybw b s = 0 then (ybw b s).toInt64 else if mc_wi w 0 1 = false then -7
  else if w = 0 then (ybest (fun i => yy_far (yhb m b s (nI i)) (yob b s)) (m 2).toNatClampNeg 0 (-1) (-1)).1.toInt64 else (ybest (fun i => yy_far (yhb m b s (nI i)) (yob b s)) (m 2).toNatClampNeg 0 (-1) (-1)).2
theorem lp_y_who {s u m n : Nat → Int32} {a c b : Nat → List Int32} {q : List (Option Nat)} {h : Nat} {z : mc_W} {s0 w : Int32} {V : Int32 × Int64} (hG : yG m b) (hS : ySh b) (h0 : ybw b s0 = 0) :
    ∀ (f i : Nat) (be : Int32) (le : Int64) (d : Nat → List Int32) (x3 : Int32) (x8 x9 x10 : Option Value), i + f = (m 2).toNatClampNeg → yD d → ybest (fun i => yy_far (yhb m b s0 (nI i)) (yob b s0)) f i be le = V →
      mc_E RX7 cX7_who 11 (mc_JM (some .long) false 6 0 0 (fun r' w' => r' = some (.long (if w = 0 then V.1.toInt64 else V.2)) ∧ ∃ n1 d1, yD d1 ∧ w' = WW s a q u c h m b n1 d1 z)) 37 [some (.ref 29), some (.int s0), some (.int w), some (.int x3), some (.int be), some (.long le), none, some (.int (nI i)), x8, x9, x10] [] (WW s a q u c h m b n d z) 0 0 := by
  have hm := nI_back hG.2.1.1
  have tm := tnc hG.2.1.1
  have hm5 := hG.2.1.2
  intro f
  induction f with
  | zero =>
    intro i be le d x3 x8 x9 x10 hi hD hV
    have hi2 : i = (m 2).toNatClampNeg := by omega
    simp only [ybest] at hV
    subst hV
    refine e_iload (pc := 37) dX7_who_37 rfl ?_
    refine e_aloadn (pc := 39) dX7_who_39 rfl ?_
    refine e_get (pc := 40) dX7_who_40 fX7_72 rfl rfl ?_
    refine e_icmp_ge (pc := 43) dX7_who_43 (t := 118) (by decide) (fun _ => ?_) (fun c_43 => absurd (by rw [hi2, ← hm]; exact Int32.le_refl _) c_43)
    refine e_iloadn (pc := 118) dX7_who_118 rfl ?_
    refine e_if_ne (pc := 119) dX7_who_119 (t := 128) (by decide) (fun c_119 => ?_) (fun c_119 => ?_)
    · skip
      refine e_lload (pc := 128) dX7_who_128 rfl ?_
      exact e_lret (pc := 130) dX7_who_130 rfl (Nat.le_refl _) (Nat.le_refl _) ⟨by rw [if_neg c_119], n, d, hD, rfl⟩
    · skip
      refine e_iload (pc := 122) dX7_who_122 rfl ?_
      refine e_i2l (pc := 124) dX7_who_124 ?_
      refine e_goto (pc := 125) dX7_who_125 (t := 130) (by decide) ?_
      exact e_lret (pc := 130) dX7_who_130 rfl (Nat.le_refl _) (Nat.le_refl _) ⟨by rw [if_pos c_119], n, d, hD, rfl⟩
  | succ f ih =>
    intro i be le d x3 x8 x9 x10 hi hD hV
    simp only [ybest] at hV
    have hci : mc_wi (nI i) 0 (m 2 - 1) = true := wi_nI (by omega)
    refine e_iload (pc := 37) dX7_who_37 rfl ?_
    refine e_aloadn (pc := 39) dX7_who_39 rfl ?_
    refine e_get (pc := 40) dX7_who_40 fX7_72 rfl rfl ?_
    refine e_icmp_ge (pc := 43) dX7_who_43 (t := 118) (by decide) (fun c_43 => absurd c_43 (by rw [hm]; exact nI_ge (by omega) (by omega))) (fun _ => ?_)
    refine e_aloadn (pc := 46) dX7_who_46 rfl ?_
    refine e_iloadn (pc := 47) dX7_who_47 rfl ?_
    refine e_iload (pc := 48) dX7_who_48 rfl ?_
    refine e_cvX (pc := 50) (sp_y_hisBook hG hS (ybw0 h0).1 hci hD) dX7_who_50 kX7_217 rfl rfl rfl rfl rfl (mc_CR_of (Nat.le_of_ble_eq_true rfl) (Nat.le_of_ble_eq_true rfl) (Nat.le_refl _) (Nat.le_refl _)) (Nat.le_of_ble_eq_true rfl) (fun w1 hw1 => ?_)
    obtain ⟨d1, hD1, g3, rfl⟩ := hw1
    refine e_aloadn (pc := 53) dX7_who_53 rfl ?_
    refine e_iloadn (pc := 54) dX7_who_54 rfl ?_
    refine e_cvD (pc := 55) (sp_y_ourBook hG.1 hS (ybw0 h0).1) dX7_who_55 kX7_220 rfl rfl rfl rfl rfl (mc_CR_of (Nat.le_of_ble_eq_true rfl) (Nat.le_of_ble_eq_true rfl) (Nat.le_refl _) (Nat.le_refl _)) (Nat.le_of_ble_eq_true rfl) ?_
    refine e_csD (pc := 58) (sp_y_far) dX7_who_58 kX7_208 rfl rfl (mc_CR_of (Nat.le_of_ble_eq_true rfl) (Nat.le_of_ble_eq_true rfl) (Nat.le_refl _) (Nat.le_refl _)) (Nat.le_of_ble_eq_true rfl) ?_
    refine e_lsw8 (pc := 61) dX7_who_61 (Nat.le_of_ble_eq_true rfl) rfl ?_
    refine e_iload (pc := 63) dX7_who_63 rfl ?_
    refine e_iconst (v := -1) (pc := 65) dX7_who_65 (by decide) ?_
    refine e_icmp_eq (pc := 66) dX7_who_66 (t := 77) (by decide) (fun c_66 => ?_) (fun c_66 => ?_)
    · skip
      refine e_iconst (v := 1) (pc := 77) dX7_who_77 (by decide) ?_
      refine e_goto (pc := 78) dX7_who_78 (t := 82) (by decide) ?_
      refine e_isw10 (pc := 82) dX7_who_82 (Nat.le_of_ble_eq_true rfl) rfl ?_
      refine e_iload (pc := 84) dX7_who_84 rfl ?_
      refine e_if_eq (pc := 86) dX7_who_86 (t := 94) (by decide) (fun c_86 => absurd c_86 (by decide)) (fun _ => ?_)
      refine e_iload (pc := 89) dX7_who_89 rfl ?_
      refine e_goto (pc := 91) dX7_who_91 (t := 96) (by decide) ?_
      refine e_isw4 (pc := 96) dX7_who_96 (Nat.le_of_ble_eq_true rfl) rfl ?_
      refine e_iload (pc := 98) dX7_who_98 rfl ?_
      refine e_if_eq (pc := 100) dX7_who_100 (t := 108) (by decide) (fun c_100 => absurd c_100 (by decide)) (fun _ => ?_)
      refine e_lload (pc := 103) dX7_who_103 rfl ?_
      refine e_goto (pc := 105) dX7_who_105 (t := 110) (by decide) ?_
      refine e_lsw5 (pc := 110) dX7_who_110 (Nat.le_of_ble_eq_true rfl) rfl ?_
      refine e_incC7 (pc := 112) dX7_who_112 (nI_1 i) (Nat.le_of_ble_eq_true rfl) rfl ?_
      refine e_goto (pc := 115) dX7_who_115 (t := 37) (by decide) ?_
      exact ih (i + 1) _ _ d1 _ _ _ _ (by omega) hD1 (by rw [← hV, if_pos (c := be = -1 ∨ yy_far (yhb m b s0 (nI i)) (yob b s0) < le) (Or.inl c_66)])
    · skip
      refine e_lload (pc := 69) dX7_who_69 rfl ?_
      refine e_lload (pc := 71) dX7_who_71 rfl ?_
      refine e_lcmp (pc := 73) dX7_who_73 ?_
      refine e_if_ge (pc := 74) dX7_who_74 (t := 81) (by decide) (fun c_74 => ?_) (fun c_74 => ?_)
      · skip
        refine e_iconst (v := 0) (pc := 81) dX7_who_81 (by decide) ?_
        refine e_isw10 (pc := 82) dX7_who_82 (Nat.le_of_ble_eq_true rfl) rfl ?_
        refine e_iload (pc := 84) dX7_who_84 rfl ?_
        refine e_if_eq (pc := 86) dX7_who_86 (t := 94) (by decide) (fun _ => ?_) (fun c_86 => absurd (by decide) c_86)
        refine e_iload (pc := 94) dX7_who_94 rfl ?_
        refine e_isw4 (pc := 96) dX7_who_96 (Nat.le_of_ble_eq_true rfl) rfl ?_
        refine e_iload (pc := 98) dX7_who_98 rfl ?_
        refine e_if_eq (pc := 100) dX7_who_100 (t := 108) (by decide) (fun _ => ?_) (fun c_100 => absurd (by decide) c_100)
        refine e_lload (pc := 108) dX7_who_108 rfl ?_
        refine e_lsw5 (pc := 110) dX7_who_110 (Nat.le_of_ble_eq_true rfl) rfl ?_
        refine e_incC7 (pc := 112) dX7_who_112 (nI_1 i) (Nat.le_of_ble_eq_true rfl) rfl ?_
        refine e_goto (pc := 115) dX7_who_115 (t := 37) (by decide) ?_
        exact ih (i + 1) _ _ d1 _ _ _ _ (by omega) hD1 (by rw [← hV, if_neg (c := be = -1 ∨ yy_far (yhb m b s0 (nI i)) (yob b s0) < le) (fun q => q.elim c_66 (mc_cnl_of c_74))])
      · skip
        refine e_iconst (v := 1) (pc := 77) dX7_who_77 (by decide) ?_
        refine e_goto (pc := 78) dX7_who_78 (t := 82) (by decide) ?_
        refine e_isw10 (pc := 82) dX7_who_82 (Nat.le_of_ble_eq_true rfl) rfl ?_
        refine e_iload (pc := 84) dX7_who_84 rfl ?_
        refine e_if_eq (pc := 86) dX7_who_86 (t := 94) (by decide) (fun c_86 => absurd c_86 (by decide)) (fun _ => ?_)
        refine e_iload (pc := 89) dX7_who_89 rfl ?_
        refine e_goto (pc := 91) dX7_who_91 (t := 96) (by decide) ?_
        refine e_isw4 (pc := 96) dX7_who_96 (Nat.le_of_ble_eq_true rfl) rfl ?_
        refine e_iload (pc := 98) dX7_who_98 rfl ?_
        refine e_if_eq (pc := 100) dX7_who_100 (t := 108) (by decide) (fun c_100 => absurd c_100 (by decide)) (fun _ => ?_)
        refine e_lload (pc := 103) dX7_who_103 rfl ?_
        refine e_goto (pc := 105) dX7_who_105 (t := 110) (by decide) ?_
        refine e_lsw5 (pc := 110) dX7_who_110 (Nat.le_of_ble_eq_true rfl) rfl ?_
        refine e_incC7 (pc := 112) dX7_who_112 (nI_1 i) (Nat.le_of_ble_eq_true rfl) rfl ?_
        refine e_goto (pc := 115) dX7_who_115 (t := 37) (by decide) ?_
        exact ih (i + 1) _ _ d1 _ _ _ _ (by omega) hD1 (by rw [← hV, if_pos (c := be = -1 ∨ yy_far (yhb m b s0 (nI i)) (yob b s0) < le) (Or.inr (mc_clt_of c_74))])
theorem sp_y_who {s u m n : Nat → Int32} {a c b d : Nat → List Int32} {q : List (Option Nat)} {h : Nat} {z : mc_W} {s0 w : Int32} (hG : yG m b) (hS : ySh b) (hD : yD d) : mc_T yX7_who cX7_who 11 (some .long) 6 [.ref 29, .int s0, .int w] (WW s a q u c h m b n d z) (some (.long (ywho m b s0 w))) (fun w' => ∃ n1 d1, yD d1 ∧ w' = WW s a q u c h m b n1 d1 z) := by
  refine mc_start (own := RX7) (ini := false) rfl (by decide +kernel) (fun h => by cases h) (Nat.le_of_ble_eq_true rfl) ?_
  show mc_E _ _ _ _ _ [some (.ref 29), some (.int s0), some (.int w), none, none, none, none, none, none, none, none] [] _ _ _
  refine e_aloadn (pc := 0) dX7_who_0 rfl ?_
  refine e_iloadn (pc := 1) dX7_who_1 rfl ?_
  refine e_cvD (pc := 2) (sp_y_bookWrong hG.1 hS) dX7_who_2 kX7_214 rfl rfl rfl rfl rfl (mc_CR_of (Nat.le_of_ble_eq_true rfl) (Nat.le_of_ble_eq_true rfl) (Nat.le_refl _) (Nat.le_refl _)) (Nat.le_of_ble_eq_true rfl) ?_
  refine e_isn3 (pc := 5) dX7_who_5 (Nat.le_of_ble_eq_true rfl) rfl ?_
  refine e_iloadn (pc := 6) dX7_who_6 rfl ?_
  refine e_if_eq (pc := 7) dX7_who_7 (t := 13) (by decide) (fun c_7 => ?_) (fun c_7 => ?_)
  · skip
    refine e_iloadn (pc := 13) dX7_who_13 rfl ?_
    refine e_iconst (v := 0) (pc := 14) dX7_who_14 (by decide) ?_
    refine e_iconst (v := 1) (pc := 15) dX7_who_15 (by decide) ?_
    refine e_csD (pc := 16) (sp_y_in) dX7_who_16 kX7_75 rfl rfl (mc_CR_of (Nat.le_of_ble_eq_true rfl) (Nat.le_of_ble_eq_true rfl) (Nat.le_refl _) (Nat.le_refl _)) (Nat.le_of_ble_eq_true rfl) ?_
    refine e_if_ne (pc := 19) dX7_who_19 (t := 26) (by decide) (fun c_19 => ?_) (fun c_19 => ?_)
    · skip
      refine e_iconst (v := -1) (pc := 26) dX7_who_26 (by decide) ?_
      refine e_isw4 (pc := 27) dX7_who_27 (Nat.le_of_ble_eq_true rfl) rfl ?_
      refine e_ldc2 (pc := 29) dX7_who_29 qX7_228 ?_
      refine e_lsw5 (pc := 32) dX7_who_32 (Nat.le_of_ble_eq_true rfl) rfl ?_
      refine e_iconst (v := 0) (pc := 34) dX7_who_34 (by decide) ?_
      refine e_isw7 (pc := 35) dX7_who_35 (Nat.le_of_ble_eq_true rfl) rfl ?_
      have K := lp_y_who (n := n) (s := s) (a := a) (q := q) (u := u) (c := c) (h := h) (z := z) (w := w) hG hS c_7 (m 2).toNatClampNeg 0 (-1) (-1) d (ybw b s0) none none none (by omega) hD rfl
      unfold ywho
      rw [if_neg (fun q => q c_7), if_neg (c := mc_wi w 0 1 = false) (by simp [mc_b1.mp c_19])]
      exact K
    · skip
      refine e_ldc2 (pc := 22) dX7_who_22 qX7_192 ?_
      exact e_lret (pc := 25) dX7_who_25 rfl (Nat.le_refl _) (Nat.le_refl _) ⟨(by (try simp only [mc_cmp_le, mc_cmp_ge, mc_cmp_eq, mc_cmp_lt, mc_cmp_gt, mc_b0, mc_b1, Bool.not_eq_false, Bool.not_eq_true] at c_7 c_19); first | rfl | (simp [ywho, c_7, c_19]; done) | ((try simp only [← Int32.not_lt, ← Int64.not_lt, Classical.not_not] at c_7 c_19); simp [ywho, c_7, c_19])), n, d, hD, rfl⟩
  · skip
    refine e_iloadn (pc := 10) dX7_who_10 rfl ?_
    refine e_i2l (pc := 11) dX7_who_11 ?_
    exact e_lret (pc := 12) dX7_who_12 rfl (Nat.le_refl _) (Nat.le_refl _) ⟨(by (try simp only [mc_cmp_le, mc_cmp_ge, mc_cmp_eq, mc_cmp_lt, mc_cmp_gt, mc_b0, mc_b1, Bool.not_eq_false, Bool.not_eq_true] at c_7); first | rfl | (simp [ywho, c_7]; done) | ((try simp only [← Int32.not_lt, ← Int64.not_lt, Classical.not_not] at c_7); simp [ywho, c_7])), n, d, hD, rfl⟩
def ysmo (m : Nat → Int32) (b : Nat → List Int32) (s k : Int32) (i : Nat) : Int64 := yy_far (yhb m b s k - (ymk m b k ((yrow b s).getD i 0)).toInt64 + (ymk m b k 0).toInt64) (yob b s)
def ysm (m : Nat → Int32) (b : Nat → List Int32) (s k w : Int32) : Int64 :=
  if ¬ ybw b s = 0 then (ybw b s).toInt64 else if mc_wi k 0 (m 2 - 1) = false then -5 else if mc_wi w 0 1 = false then -7
  else if w = 0 then (ybest (ysmo m b s k) (yrow b s).length 0 (-1) (-1)).1.toInt64 else (ybest (ysmo m b s k) (yrow b s).length 0 (-1) (-1)).2
set_option maxHeartbeats 1000000 in
theorem lp_y_smug {s u m n : Nat → Int32} {a c b : Nat → List Int32} {q : List (Option Nat)} {h : Nat} {z : mc_W} {s0 k0 w : Int32} {V : Int32 × Int64} (hG : yG m b) (hS : ySh b) (h0 : ybw b s0 = 0) (hc : mc_wi k0 0 (m 2 - 1) = true) :
    ∀ (f i : Nat) (be : Int32) (le : Int64) (d : Nat → List Int32) (x4 : Int32) (x11 x12 x13 : Option Value), i + f = (yrow b s0).length → yD d → ybest (ysmo m b s0 k0) f i be le = V →
      mc_E RX7 cX7_smuggled 14 (mc_JM (some .long) false 6 0 0 (fun r' w' => r' = some (.long (if w = 0 then V.1.toInt64 else V.2)) ∧ ∃ n1 d1, yD d1 ∧ w' = WW s a q u c h m b n1 d1 z)) 60 [some (.ref 29), some (.int s0), some (.int k0), some (.int w), some (.int x4), some (.int be), some (.long le), none, some (.long (yhb m b s0 k0)), none, some (.int (nI i)), x11, x12, x13] [] (WW s a q u c h m b n d z) 0 0 := by
  have hL := hG.1
  have hs := (ybw0 h0).1
  obtain ⟨sz, hz, hlen, i7, i8, e8, i9, e9⟩ := yrow_facts hL hS hs
  intro f
  induction f with
  | zero =>
    intro i be le d x4 x11 x12 x13 hi hD hV
    simp only [ybest] at hV
    subst hV
    refine e_iload (pc := 60) dX7_smuggled_60 rfl ?_
    refine e_aloadn (pc := 62) dX7_smuggled_62 rfl ?_
    refine e_get (pc := 63) dX7_smuggled_63 fX7_41 rfl rfl ?_
    refine e_iloadn (pc := 66) dX7_smuggled_66 rfl ?_
    refine aldv_sheetSize (pc := 67) dX7_smuggled_67 i8 e8 ?_
    refine e_icmp_ge (pc := 68) dX7_smuggled_68 (t := 165) (by decide) (fun _ => ?_) (fun c_68 => absurd (by exact nI_le (by omega) (by omega)) c_68)
    refine e_iloadn (pc := 165) dX7_smuggled_165 rfl ?_
    refine e_if_ne (pc := 166) dX7_smuggled_166 (t := 175) (by decide) (fun c_166 => ?_) (fun c_166 => ?_)
    · skip
      refine e_lload (pc := 175) dX7_smuggled_175 rfl ?_
      exact e_lret (pc := 177) dX7_smuggled_177 rfl (Nat.le_refl _) (Nat.le_refl _) ⟨by rw [if_neg c_166], n, d, hD, rfl⟩
    · skip
      refine e_iload (pc := 169) dX7_smuggled_169 rfl ?_
      refine e_i2l (pc := 171) dX7_smuggled_171 ?_
      refine e_goto (pc := 172) dX7_smuggled_172 (t := 177) (by decide) ?_
      exact e_lret (pc := 177) dX7_smuggled_177 rfl (Nat.le_refl _) (Nat.le_refl _) ⟨by rw [if_pos c_166], n, d, hD, rfl⟩
  | succ f ih =>
    intro i be le d x4 x11 x12 x13 hi hD hV
    simp only [ybest] at hV
    have g3 : i < sz := by omega
    have ex : (b 9).getD (40 * s0 + nI i).toNatClampNeg 0 = (yrow b s0).getD i 0 := e9 i g3
    refine e_iload (pc := 60) dX7_smuggled_60 rfl ?_
    refine e_aloadn (pc := 62) dX7_smuggled_62 rfl ?_
    refine e_get (pc := 63) dX7_smuggled_63 fX7_41 rfl rfl ?_
    refine e_iloadn (pc := 66) dX7_smuggled_66 rfl ?_
    refine aldv_sheetSize (pc := 67) dX7_smuggled_67 i8 e8 ?_
    refine e_icmp_ge (pc := 68) dX7_smuggled_68 (t := 165) (by decide) (fun c_68 => absurd c_68 (nI_ge g3 (by omega))) (fun _ => ?_)
    refine e_lload (pc := 71) dX7_smuggled_71 rfl ?_
    refine e_aloadn (pc := 73) dX7_smuggled_73 rfl ?_
    refine e_iloadn (pc := 74) dX7_smuggled_74 rfl ?_
    refine e_aloadn (pc := 75) dX7_smuggled_75 rfl ?_
    refine e_get (pc := 76) dX7_smuggled_76 fX7_44 rfl rfl ?_
    refine e_bipush (v := 40) (pc := 79) dX7_smuggled_79 (by decide) ?_
    refine e_iloadn (pc := 81) dX7_smuggled_81 rfl ?_
    refine e_imul (pc := 82) dX7_smuggled_82 ?_
    refine e_iload (pc := 83) dX7_smuggled_83 rfl ?_
    refine e_iadd (pc := 85) dX7_smuggled_85 ?_
    refine aldv_ycells (pc := 86) dX7_smuggled_86 (i9 i (by omega)) ex ?_
    refine e_cvX (pc := 87) (sp_y_makesOf hG.1 hG.V (hG.k0 hc) (hG.k1 hc) hD) dX7_smuggled_87 kX7_178 rfl rfl rfl rfl rfl (mc_CR_of (Nat.le_of_ble_eq_true rfl) (Nat.le_of_ble_eq_true rfl) (Nat.le_refl _) (Nat.le_refl _)) (Nat.le_of_ble_eq_true rfl) (fun w1 hw1 => ?_)
    obtain ⟨d1, hD1, g4, rfl⟩ := hw1
    refine e_i2l (pc := 90) dX7_smuggled_90 ?_
    refine e_lsub (pc := 91) dX7_smuggled_91 ?_
    refine e_aloadn (pc := 92) dX7_smuggled_92 rfl ?_
    refine e_iloadn (pc := 93) dX7_smuggled_93 rfl ?_
    refine e_iconst (v := 0) (pc := 94) dX7_smuggled_94 (by decide) ?_
    refine e_cvX (pc := 95) (sp_y_makesOf hG.1 hG.V (hG.k0 hc) (hG.k1 hc) hD1) dX7_smuggled_95 kX7_178 rfl rfl rfl rfl rfl (mc_CR_of (Nat.le_of_ble_eq_true rfl) (Nat.le_of_ble_eq_true rfl) (Nat.le_refl _) (Nat.le_refl _)) (Nat.le_of_ble_eq_true rfl) (fun w1 hw1 => ?_)
    obtain ⟨d2, hD2, g5, rfl⟩ := hw1
    refine e_i2l (pc := 98) dX7_smuggled_98 ?_
    refine e_ladd (pc := 99) dX7_smuggled_99 ?_
    refine e_aloadn (pc := 100) dX7_smuggled_100 rfl ?_
    refine e_iloadn (pc := 101) dX7_smuggled_101 rfl ?_
    refine e_cvD (pc := 102) (sp_y_ourBook hG.1 hS hs) dX7_smuggled_102 kX7_220 rfl rfl rfl rfl rfl (mc_CR_of (Nat.le_of_ble_eq_true rfl) (Nat.le_of_ble_eq_true rfl) (Nat.le_refl _) (Nat.le_refl _)) (Nat.le_of_ble_eq_true rfl) ?_
    refine e_csD (pc := 105) (sp_y_far) dX7_smuggled_105 kX7_208 rfl rfl (mc_CR_of (Nat.le_of_ble_eq_true rfl) (Nat.le_of_ble_eq_true rfl) (Nat.le_refl _) (Nat.le_refl _)) (Nat.le_of_ble_eq_true rfl) ?_
    refine e_lsw11 (pc := 108) dX7_smuggled_108 (Nat.le_of_ble_eq_true rfl) rfl ?_
    refine e_iload (pc := 110) dX7_smuggled_110 rfl ?_
    refine e_iconst (v := -1) (pc := 112) dX7_smuggled_112 (by decide) ?_
    refine e_icmp_eq (pc := 113) dX7_smuggled_113 (t := 124) (by decide) (fun c_113 => ?_) (fun c_113 => ?_)
    · skip
      refine e_iconst (v := 1) (pc := 124) dX7_smuggled_124 (by decide) ?_
      refine e_goto (pc := 125) dX7_smuggled_125 (t := 129) (by decide) ?_
      refine e_isw13 (pc := 129) dX7_smuggled_129 (Nat.le_of_ble_eq_true rfl) rfl ?_
      refine e_iload (pc := 131) dX7_smuggled_131 rfl ?_
      refine e_if_eq (pc := 133) dX7_smuggled_133 (t := 141) (by decide) (fun c_133 => absurd c_133 (by decide)) (fun _ => ?_)
      refine e_iload (pc := 136) dX7_smuggled_136 rfl ?_
      refine e_goto (pc := 138) dX7_smuggled_138 (t := 143) (by decide) ?_
      refine e_isw5 (pc := 143) dX7_smuggled_143 (Nat.le_of_ble_eq_true rfl) rfl ?_
      refine e_iload (pc := 145) dX7_smuggled_145 rfl ?_
      refine e_if_eq (pc := 147) dX7_smuggled_147 (t := 155) (by decide) (fun c_147 => absurd c_147 (by decide)) (fun _ => ?_)
      refine e_lload (pc := 150) dX7_smuggled_150 rfl ?_
      refine e_goto (pc := 152) dX7_smuggled_152 (t := 157) (by decide) ?_
      refine e_lsw6 (pc := 157) dX7_smuggled_157 (Nat.le_of_ble_eq_true rfl) rfl ?_
      refine e_incC10 (pc := 159) dX7_smuggled_159 (nI_1 i) (Nat.le_of_ble_eq_true rfl) rfl ?_
      refine e_goto (pc := 162) dX7_smuggled_162 (t := 60) (by decide) ?_
      exact ih (i + 1) _ _ d2 _ _ _ _ (by omega) hD2 (by rw [← hV, if_pos (c := be = -1 ∨ ysmo m b s0 k0 i < le) (Or.inl c_113)] <;> rfl)
    · skip
      refine e_lload (pc := 116) dX7_smuggled_116 rfl ?_
      refine e_lload (pc := 118) dX7_smuggled_118 rfl ?_
      refine e_lcmp (pc := 120) dX7_smuggled_120 ?_
      refine e_if_ge (pc := 121) dX7_smuggled_121 (t := 128) (by decide) (fun c_121 => ?_) (fun c_121 => ?_)
      · skip
        refine e_iconst (v := 0) (pc := 128) dX7_smuggled_128 (by decide) ?_
        refine e_isw13 (pc := 129) dX7_smuggled_129 (Nat.le_of_ble_eq_true rfl) rfl ?_
        refine e_iload (pc := 131) dX7_smuggled_131 rfl ?_
        refine e_if_eq (pc := 133) dX7_smuggled_133 (t := 141) (by decide) (fun _ => ?_) (fun c_133 => absurd (by decide) c_133)
        refine e_iload (pc := 141) dX7_smuggled_141 rfl ?_
        refine e_isw5 (pc := 143) dX7_smuggled_143 (Nat.le_of_ble_eq_true rfl) rfl ?_
        refine e_iload (pc := 145) dX7_smuggled_145 rfl ?_
        refine e_if_eq (pc := 147) dX7_smuggled_147 (t := 155) (by decide) (fun _ => ?_) (fun c_147 => absurd (by decide) c_147)
        refine e_lload (pc := 155) dX7_smuggled_155 rfl ?_
        refine e_lsw6 (pc := 157) dX7_smuggled_157 (Nat.le_of_ble_eq_true rfl) rfl ?_
        refine e_incC10 (pc := 159) dX7_smuggled_159 (nI_1 i) (Nat.le_of_ble_eq_true rfl) rfl ?_
        refine e_goto (pc := 162) dX7_smuggled_162 (t := 60) (by decide) ?_
        exact ih (i + 1) _ _ d2 _ _ _ _ (by omega) hD2 (by rw [← hV, if_neg (c := be = -1 ∨ ysmo m b s0 k0 i < le) (fun q => q.elim c_113 (mc_cnl_of c_121))] <;> rfl)
      · skip
        refine e_iconst (v := 1) (pc := 124) dX7_smuggled_124 (by decide) ?_
        refine e_goto (pc := 125) dX7_smuggled_125 (t := 129) (by decide) ?_
        refine e_isw13 (pc := 129) dX7_smuggled_129 (Nat.le_of_ble_eq_true rfl) rfl ?_
        refine e_iload (pc := 131) dX7_smuggled_131 rfl ?_
        refine e_if_eq (pc := 133) dX7_smuggled_133 (t := 141) (by decide) (fun c_133 => absurd c_133 (by decide)) (fun _ => ?_)
        refine e_iload (pc := 136) dX7_smuggled_136 rfl ?_
        refine e_goto (pc := 138) dX7_smuggled_138 (t := 143) (by decide) ?_
        refine e_isw5 (pc := 143) dX7_smuggled_143 (Nat.le_of_ble_eq_true rfl) rfl ?_
        refine e_iload (pc := 145) dX7_smuggled_145 rfl ?_
        refine e_if_eq (pc := 147) dX7_smuggled_147 (t := 155) (by decide) (fun c_147 => absurd c_147 (by decide)) (fun _ => ?_)
        refine e_lload (pc := 150) dX7_smuggled_150 rfl ?_
        refine e_goto (pc := 152) dX7_smuggled_152 (t := 157) (by decide) ?_
        refine e_lsw6 (pc := 157) dX7_smuggled_157 (Nat.le_of_ble_eq_true rfl) rfl ?_
        refine e_incC10 (pc := 159) dX7_smuggled_159 (nI_1 i) (Nat.le_of_ble_eq_true rfl) rfl ?_
        refine e_goto (pc := 162) dX7_smuggled_162 (t := 60) (by decide) ?_
        exact ih (i + 1) _ _ d2 _ _ _ _ (by omega) hD2 (by rw [← hV, if_pos (c := be = -1 ∨ ysmo m b s0 k0 i < le) (Or.inr (mc_clt_of c_121))] <;> rfl)
theorem sp_y_smuggled {s u m n : Nat → Int32} {a c b d : Nat → List Int32} {q : List (Option Nat)} {h : Nat} {z : mc_W} {s0 k w : Int32} (hG : yG m b) (hS : ySh b) (hD : yD d) : mc_T yX7_smuggled cX7_smuggled 14 (some .long) 6 [.ref 29, .int s0, .int k, .int w] (WW s a q u c h m b n d z) (some (.long (ysm m b s0 k w))) (fun w' => ∃ n1 d1, yD d1 ∧ w' = WW s a q u c h m b n1 d1 z) := by
  refine mc_start (own := RX7) (ini := false) rfl (by decide +kernel) (fun h => by cases h) (Nat.le_of_ble_eq_true rfl) ?_
  show mc_E _ _ _ _ _ [some (.ref 29), some (.int s0), some (.int k), some (.int w), none, none, none, none, none, none, none, none, none, none] [] _ _ _
  refine e_aloadn (pc := 0) dX7_smuggled_0 rfl ?_
  refine e_iloadn (pc := 1) dX7_smuggled_1 rfl ?_
  refine e_cvD (pc := 2) (sp_y_bookWrong hG.1 hS) dX7_smuggled_2 kX7_214 rfl rfl rfl rfl rfl (mc_CR_of (Nat.le_of_ble_eq_true rfl) (Nat.le_of_ble_eq_true rfl) (Nat.le_refl _) (Nat.le_refl _)) (Nat.le_of_ble_eq_true rfl) ?_
  refine e_isw4 (pc := 5) dX7_smuggled_5 (Nat.le_of_ble_eq_true rfl) rfl ?_
  refine e_iload (pc := 7) dX7_smuggled_7 rfl ?_
  refine e_if_eq (pc := 9) dX7_smuggled_9 (t := 16) (by decide) (fun c_9 => ?_) (fun c_9 => ?_)
  · skip
    refine e_aloadn (pc := 16) dX7_smuggled_16 rfl ?_
    refine e_iloadn (pc := 17) dX7_smuggled_17 rfl ?_
    refine e_cvD (pc := 18) (sp_y_isClerk) dX7_smuggled_18 kX7_159 rfl rfl rfl rfl rfl (mc_CR_of (Nat.le_of_ble_eq_true rfl) (Nat.le_of_ble_eq_true rfl) (Nat.le_refl _) (Nat.le_refl _)) (Nat.le_of_ble_eq_true rfl) ?_
    refine e_if_ne (pc := 21) dX7_smuggled_21 (t := 28) (by decide) (fun c_21 => ?_) (fun c_21 => ?_)
    · skip
      refine e_iloadn (pc := 28) dX7_smuggled_28 rfl ?_
      refine e_iconst (v := 0) (pc := 29) dX7_smuggled_29 (by decide) ?_
      refine e_iconst (v := 1) (pc := 30) dX7_smuggled_30 (by decide) ?_
      refine e_csD (pc := 31) (sp_y_in) dX7_smuggled_31 kX7_75 rfl rfl (mc_CR_of (Nat.le_of_ble_eq_true rfl) (Nat.le_of_ble_eq_true rfl) (Nat.le_refl _) (Nat.le_refl _)) (Nat.le_of_ble_eq_true rfl) ?_
      refine e_if_ne (pc := 34) dX7_smuggled_34 (t := 41) (by decide) (fun c_34 => ?_) (fun c_34 => ?_)
      · skip
        refine e_iconst (v := -1) (pc := 41) dX7_smuggled_41 (by decide) ?_
        refine e_isw5 (pc := 42) dX7_smuggled_42 (Nat.le_of_ble_eq_true rfl) rfl ?_
        refine e_ldc2 (pc := 44) dX7_smuggled_44 qX7_228 ?_
        refine e_lsw6 (pc := 47) dX7_smuggled_47 (Nat.le_of_ble_eq_true rfl) rfl ?_
        refine e_aloadn (pc := 49) dX7_smuggled_49 rfl ?_
        refine e_iloadn (pc := 50) dX7_smuggled_50 rfl ?_
        refine e_iloadn (pc := 51) dX7_smuggled_51 rfl ?_
        refine e_cvX (pc := 52) (sp_y_hisBook hG hS (ybw0 c_9).1 (mc_b1.mp c_21) hD) dX7_smuggled_52 kX7_217 rfl rfl rfl rfl rfl (mc_CR_of (Nat.le_of_ble_eq_true rfl) (Nat.le_of_ble_eq_true rfl) (Nat.le_refl _) (Nat.le_refl _)) (Nat.le_of_ble_eq_true rfl) (fun w1 hw1 => ?_)
        obtain ⟨d1, hD1, g3, rfl⟩ := hw1
        refine e_lsw8 (pc := 55) dX7_smuggled_55 (Nat.le_of_ble_eq_true rfl) rfl ?_
        refine e_iconst (v := 0) (pc := 57) dX7_smuggled_57 (by decide) ?_
        refine e_isw10 (pc := 58) dX7_smuggled_58 (Nat.le_of_ble_eq_true rfl) rfl ?_
        have K := lp_y_smug (n := n) (s := s) (a := a) (q := q) (u := u) (c := c) (h := h) (z := z) (w := w) hG hS c_9 (mc_b1.mp c_21) (yrow b s0).length 0 (-1) (-1) d1 (ybw b s0) none none none (by omega) hD1 rfl
        unfold ysm
        rw [if_neg (fun q => q c_9), if_neg (c := mc_wi k 0 (m 2 - 1) = false) (by simp [mc_b1.mp c_21]), if_neg (c := mc_wi w 0 1 = false) (by simp [mc_b1.mp c_34])]
        exact K
      · skip
        refine e_ldc2 (pc := 37) dX7_smuggled_37 qX7_192 ?_
        exact e_lret (pc := 40) dX7_smuggled_40 rfl (Nat.le_refl _) (Nat.le_refl _) ⟨(by (try simp only [mc_cmp_le, mc_cmp_ge, mc_cmp_eq, mc_cmp_lt, mc_cmp_gt, mc_b0, mc_b1, Bool.not_eq_false, Bool.not_eq_true] at c_9 c_21 c_34); first | rfl | (simp [ysm, c_9, c_21, c_34]; done) | ((try simp only [← Int32.not_lt, ← Int64.not_lt, Classical.not_not] at c_9 c_21 c_34); simp [ysm, c_9, c_21, c_34])), n, d, hD, rfl⟩
    · skip
      refine e_ldc2 (pc := 24) dX7_smuggled_24 qX7_190 ?_
      exact e_lret (pc := 27) dX7_smuggled_27 rfl (Nat.le_refl _) (Nat.le_refl _) ⟨(by (try simp only [mc_cmp_le, mc_cmp_ge, mc_cmp_eq, mc_cmp_lt, mc_cmp_gt, mc_b0, mc_b1, Bool.not_eq_false, Bool.not_eq_true] at c_9 c_21); first | rfl | (simp [ysm, c_9, c_21]; done) | ((try simp only [← Int32.not_lt, ← Int64.not_lt, Classical.not_not] at c_9 c_21); simp [ysm, c_9, c_21])), n, d, hD, rfl⟩
  · skip
    refine e_iload (pc := 12) dX7_smuggled_12 rfl ?_
    refine e_i2l (pc := 14) dX7_smuggled_14 ?_
    exact e_lret (pc := 15) dX7_smuggled_15 rfl (Nat.le_refl _) (Nat.le_refl _) ⟨(by (try simp only [mc_cmp_le, mc_cmp_ge, mc_cmp_eq, mc_cmp_lt, mc_cmp_gt, mc_b0, mc_b1, Bool.not_eq_false, Bool.not_eq_true] at c_9); first | rfl | (simp [ysm, c_9]; done) | ((try simp only [← Int32.not_lt, ← Int64.not_lt, Classical.not_not] at c_9); simp [ysm, c_9])), n, d, hD, rfl⟩
def ysd (g f : Int32) : Int32 := if f = g then f - 1 else f + 1
theorem sp_y_slipped {s u m n : Nat → Int32} {a c b d : Nat → List Int32} {q : List (Option Nat)} {h : Nat} {z : mc_W} {k f : Int32} (h0 : vp_in k (b 0).length) (h1 : vp_in k (b 1).length) : mc_D yX7_slipped cX7_slipped 3 (some .int) 2 [.ref 29, .int k, .int f] (WW s a q u c h m b n d z) (some (.int (ysd (yfg m b k) f))) (WW s a q u c h m b n d z) := by
  refine mc_start (own := RX7) (ini := false) rfl (by decide +kernel) (fun h => by cases h) (Nat.le_of_ble_eq_true rfl) ?_
  show mc_E _ _ _ _ _ [some (.ref 29), some (.int k), some (.int f)] [] _ _ _
  refine e_iloadn (pc := 0) dX7_slipped_0 rfl ?_
  refine e_aloadn (pc := 1) dX7_slipped_1 rfl ?_
  refine e_iloadn (pc := 2) dX7_slipped_2 rfl ?_
  refine e_cvD (pc := 3) (sp_y_figuresOf h0 h1) dX7_slipped_3 kX7_169 rfl rfl rfl rfl rfl (mc_CR_of (Nat.le_of_ble_eq_true rfl) (Nat.le_of_ble_eq_true rfl) (Nat.le_refl _) (Nat.le_refl _)) (Nat.le_of_ble_eq_true rfl) ?_
  refine e_icmp_ne (pc := 6) dX7_slipped_6 (t := 15) (by decide) (fun c_6 => ?_) (fun c_6 => ?_)
  · skip
    refine e_iloadn (pc := 15) dX7_slipped_15 rfl ?_
    refine e_iconst (v := 1) (pc := 16) dX7_slipped_16 (by decide) ?_
    refine e_iadd (pc := 17) dX7_slipped_17 ?_
    exact e_iret (pc := 18) dX7_slipped_18 rfl (Nat.le_refl _) (Nat.le_refl _) ⟨by rw [show ysd (yfg m b k) f = _ from if_neg c_6], rfl⟩
  · skip
    refine e_iloadn (pc := 9) dX7_slipped_9 rfl ?_
    refine e_iconst (v := 1) (pc := 10) dX7_slipped_10 (by decide) ?_
    refine e_isub (pc := 11) dX7_slipped_11 ?_
    refine e_goto (pc := 12) dX7_slipped_12 (t := 18) (by decide) ?_
    exact e_iret (pc := 18) dX7_slipped_18 rfl (Nat.le_refl _) (Nat.le_refl _) ⟨by rw [show ysd (yfg m b k) f = _ from if_pos c_6], rfl⟩
def ysr (x : Int32) : Nat → Int64 → Int64
  | 0, acc => acc
  | f + 1, acc => ysr x f (acc * (100 - x).toInt64 / 100)
def ysure (m : Nat → Int32) (b : Nat → List Int32) (k v : Int32) : Int64 := if mc_wi k 0 (m 2 - 1) = false then -5 else if mc_wi v 0 99999 = false then -7 else ysr (yask m b 1 k v 0) (ywr m b k v).length 1000000000
theorem lp_y_sure {s u m n : Nat → Int32} {a c b : Nat → List Int32} {q : List (Option Nat)} {h : Nat} {z : mc_W} {k0 v : Int32} {V : Int64} {N : Nat} (hG : yG m b) (hc : mc_wi k0 0 (m 2 - 1) = true) (hN : N ≤ 17) (h7 : n 7 = nI N) :
    ∀ (f i : Nat) (acc : Int64) (d : Nat → List Int32), i + f = N → yD d → ysr (yask m b 1 k0 v 0) f acc = V →
      mc_E RX7 cX7_sure 6 (mc_JM (some .long) false 6 0 0 (fun r' w' => r' = some (.long V) ∧ ∃ n1 d1, yD d1 ∧ w' = WW s a q u c h m b n1 d1 z)) 36 [some (.ref 29), some (.int k0), some (.int v), some (.long acc), none, some (.int (nI i))] [] (WW s a q u c h m b n d z) 0 0 := by
  intro f
  induction f with
  | zero =>
    intro i acc d hi hD hV
    have hV : acc = V := hV
    subst hV
    refine e_iload (pc := 36) dX7_sure_36 rfl ?_
    refine e_aloadn (pc := 38) dX7_sure_38 rfl ?_
    refine e_get (pc := 39) dX7_sure_39 fX7_175 rfl rfl ?_
    refine e_icmp_ge (pc := 42) dX7_sure_42 (t := 70) (by decide) (fun _ => ?_) (fun c_42 => absurd (by rw [h7]; exact nI_le (by omega) (by omega)) c_42)
    refine e_lloadn (pc := 70) dX7_sure_70 rfl ?_
    exact e_lret (pc := 71) dX7_sure_71 rfl (Nat.le_refl _) (Nat.le_refl _) ⟨rfl, n, d, hD, rfl⟩
  | succ f ih =>
    intro i acc d hi hD hV
    refine e_iload (pc := 36) dX7_sure_36 rfl ?_
    refine e_aloadn (pc := 38) dX7_sure_38 rfl ?_
    refine e_get (pc := 39) dX7_sure_39 fX7_175 rfl rfl ?_
    refine e_icmp_ge (pc := 42) dX7_sure_42 (t := 70) (by decide) (fun c_42 => absurd c_42 (by rw [h7]; exact nI_ge (by omega) (by omega))) (fun _ => ?_)
    refine e_lloadn (pc := 45) dX7_sure_45 rfl ?_
    refine e_bipush (v := 100) (pc := 46) dX7_sure_46 (by decide) ?_
    refine e_aloadn (pc := 48) dX7_sure_48 rfl ?_
    refine e_iconst (v := 1) (pc := 49) dX7_sure_49 (by decide) ?_
    refine e_iloadn (pc := 50) dX7_sure_50 rfl ?_
    refine e_iloadn (pc := 51) dX7_sure_51 rfl ?_
    refine e_iconst (v := 0) (pc := 52) dX7_sure_52 (by decide) ?_
    refine e_cvX (pc := 53) (sp_y_asksOf (p := 1) hG.1 hG.V (by decide) rfl (hG.k1 hc) hD) dX7_sure_53 kX7_165 rfl rfl rfl rfl rfl (mc_CR_of (Nat.le_of_ble_eq_true rfl) (Nat.le_of_ble_eq_true rfl) (Nat.le_refl _) (Nat.le_refl _)) (Nat.le_of_ble_eq_true rfl) (fun w1 hw1 => ?_)
    obtain ⟨d1, hD1, g3, rfl⟩ := hw1
    refine e_isub (pc := 56) dX7_sure_56 ?_
    refine e_i2l (pc := 57) dX7_sure_57 ?_
    refine e_lmul (pc := 58) dX7_sure_58 ?_
    refine e_ldc2 (pc := 59) dX7_sure_59 qX7_235 ?_
    refine e_ldiv (pc := 62) dX7_sure_62 (by decide) ?_
    refine e_lsn3 (pc := 63) dX7_sure_63 (Nat.le_of_ble_eq_true rfl) rfl ?_
    refine e_incC5 (pc := 64) dX7_sure_64 (nI_1 i) (Nat.le_of_ble_eq_true rfl) rfl ?_
    refine e_goto (pc := 67) dX7_sure_67 (t := 36) (by decide) ?_
    exact ih (i + 1) _ d1 (by omega) hD1 hV
theorem sp_y_sure {s u m n : Nat → Int32} {a c b d : Nat → List Int32} {q : List (Option Nat)} {h : Nat} {z : mc_W} {k v : Int32} (hG : yG m b) (hD : yD d) : mc_T yX7_sure cX7_sure 6 (some .long) 6 [.ref 29, .int k, .int v] (WW s a q u c h m b n d z) (some (.long (ysure m b k v))) (fun w' => ∃ n1 d1, yD d1 ∧ w' = WW s a q u c h m b n1 d1 z) := by
  refine mc_start (own := RX7) (ini := false) rfl (by decide +kernel) (fun h => by cases h) (Nat.le_of_ble_eq_true rfl) ?_
  show mc_E _ _ _ _ _ [some (.ref 29), some (.int k), some (.int v), none, none, none] [] _ _ _
  refine e_aloadn (pc := 0) dX7_sure_0 rfl ?_
  refine e_iloadn (pc := 1) dX7_sure_1 rfl ?_
  refine e_cvD (pc := 2) (sp_y_isClerk) dX7_sure_2 kX7_159 rfl rfl rfl rfl rfl (mc_CR_of (Nat.le_of_ble_eq_true rfl) (Nat.le_of_ble_eq_true rfl) (Nat.le_refl _) (Nat.le_refl _)) (Nat.le_of_ble_eq_true rfl) ?_
  refine e_if_ne (pc := 5) dX7_sure_5 (t := 12) (by decide) (fun c_5 => ?_) (fun c_5 => ?_)
  · skip
    refine e_iloadn (pc := 12) dX7_sure_12 rfl ?_
    refine e_csD (pc := 13) (sp_y_isNumber) dX7_sure_13 kX7_162 rfl rfl (mc_CR_of (Nat.le_of_ble_eq_true rfl) (Nat.le_of_ble_eq_true rfl) (Nat.le_refl _) (Nat.le_refl _)) (Nat.le_of_ble_eq_true rfl) ?_
    refine e_if_ne (pc := 16) dX7_sure_16 (t := 23) (by decide) (fun c_16 => ?_) (fun c_16 => ?_)
    · skip
      refine e_aloadn (pc := 23) dX7_sure_23 rfl ?_
      refine e_iloadn (pc := 24) dX7_sure_24 rfl ?_
      refine e_iloadn (pc := 25) dX7_sure_25 rfl ?_
      refine e_cvY (pc := 26) (sp_y_writes hG.1 hG.V (hG.k0 (mc_b1.mp c_5)) (hG.k1 (mc_b1.mp c_5)) (hG.fg _) (hG.mk _ _ (mc_b1.mp c_16)) hD) dX7_sure_26 kX7_186 rfl rfl rfl rfl rfl (mc_CR_of (Nat.le_of_ble_eq_true rfl) (Nat.le_of_ble_eq_true rfl) (Nat.le_refl _) (Nat.le_refl _)) (Nat.le_of_ble_eq_true rfl) (fun w1 hw1 => ?_)
      obtain ⟨n1, d1, hF1, rfl⟩ := hw1
      refine e_ldc2 (pc := 29) dX7_sure_29 qX7_233 ?_
      refine e_lsn3 (pc := 32) dX7_sure_32 (Nat.le_of_ble_eq_true rfl) rfl ?_
      refine e_iconst (v := 0) (pc := 33) dX7_sure_33 (by decide) ?_
      refine e_isw5 (pc := 34) dX7_sure_34 (Nat.le_of_ble_eq_true rfl) rfl ?_
      exact lp_y_sure hG (mc_b1.mp c_5) (ywr_len m b k v) hF1.2.1 (ywr m b k v).length 0 _ d1 (by omega) hF1.1 (by unfold ysure; rw [if_neg (c := mc_wi k 0 (m 2 - 1) = false) (by simp [mc_b1.mp c_5]), if_neg (c := mc_wi v 0 99999 = false) (by simp [mc_b1.mp c_16])])
    · skip
      refine e_ldc2 (pc := 19) dX7_sure_19 qX7_192 ?_
      exact e_lret (pc := 22) dX7_sure_22 rfl (Nat.le_refl _) (Nat.le_refl _) ⟨(by (try simp only [mc_cmp_le, mc_cmp_ge, mc_cmp_eq, mc_cmp_lt, mc_cmp_gt, mc_b0, mc_b1, Bool.not_eq_false, Bool.not_eq_true] at c_5 c_16); first | rfl | (simp [ysure, c_5, c_16]; done) | ((try simp only [← Int32.not_lt, ← Int64.not_lt, Classical.not_not] at c_5 c_16); simp [ysure, c_5, c_16])), n, d, hD, rfl⟩
  · skip
    refine e_ldc2 (pc := 8) dX7_sure_8 qX7_190 ?_
    exact e_lret (pc := 11) dX7_sure_11 rfl (Nat.le_refl _) (Nat.le_refl _) ⟨(by (try simp only [mc_cmp_le, mc_cmp_ge, mc_cmp_eq, mc_cmp_lt, mc_cmp_gt, mc_b0, mc_b1, Bool.not_eq_false, Bool.not_eq_true] at c_5); first | rfl | (simp [ysure, c_5]; done) | ((try simp only [← Int32.not_lt, ← Int64.not_lt, Classical.not_not] at c_5); simp [ysure, c_5])), n, d, hD, rfl⟩
def yfa (m : Nat → Int32) (b : Nat → List Int32) (s k : Int32) : Int32 := (yrow b s).foldl (fun acc v => acc + nI (ywr m b k v).length) 0
theorem lp_y_figAll {s u m : Nat → Int32} {a c b : Nat → List Int32} {q : List (Option Nat)} {h : Nat} {z : mc_W} {s0 k0 V : Int32} (hG : yG m b) (hS : ySh b) (hs : mc_wi s0 0 3 = true) (hc : mc_wi k0 0 (m 2 - 1) = true) :
    ∀ (r : List Int32) (k : Nat) (acc : Int32) (n : Nat → Int32) (d : Nat → List Int32), (yrow b s0).drop k = r → k ≤ (yrow b s0).length → (∀ v ∈ r, ynum v = true) → yD d → r.foldl (fun acc v => acc + nI (ywr m b k0 v).length) acc = V →
      mc_E RX7 cX7_figuresAll 5 (mc_JM (some .int) false 6 0 0 (fun r' w' => r' = some (.int V) ∧ ∃ n1 d1, yD d1 ∧ w' = WW s a q u c h m b n1 d1 z)) 5 [some (.ref 29), some (.int s0), some (.int k0), some (.int acc), some (.int (nI k))] [] (WW s a q u c h m b n d z) 0 0 := by
  have hL := hG.1
  obtain ⟨sz, hz, hlen, i7, i8, e8, i9, e9⟩ := yrow_facts hL hS hs
  intro r
  induction r with
  | nil =>
    intro k acc n d hk hkl hr hD hV
    have hkz : k = sz := by
      have := congrArg List.length hk
      rw [List.length_drop] at this
      simp at this
      omega
    have hV : acc = V := hV
    subst hV
    refine e_iload (pc := 5) dX7_figuresAll_5 rfl ?_
    refine e_aloadn (pc := 7) dX7_figuresAll_7 rfl ?_
    refine e_get (pc := 8) dX7_figuresAll_8 fX7_41 rfl rfl ?_
    refine e_iloadn (pc := 11) dX7_figuresAll_11 rfl ?_
    refine aldv_sheetSize (pc := 12) dX7_figuresAll_12 i8 e8 ?_
    refine e_icmp_ge (pc := 13) dX7_figuresAll_13 (t := 46) (by decide) (fun _ => ?_) (fun c_13 => absurd (by rw [hkz]; exact nI_le (Nat.le_refl _) (by omega)) c_13)
    refine e_iloadn (pc := 46) dX7_figuresAll_46 rfl ?_
    exact e_iret (pc := 47) dX7_figuresAll_47 rfl (Nat.le_refl _) (Nat.le_refl _) ⟨rfl, n, d, hD, rfl⟩
  | cons x r ih =>
    intro k acc n d hk hkl hr hD hV
    obtain ⟨g1, g2, g3⟩ := drop_cons hk
    rw [hlen] at g3
    have ex : (b 9).getD (40 * s0 + nI k).toNatClampNeg 0 = x := (e9 k g3).trans g1
    refine e_iload (pc := 5) dX7_figuresAll_5 rfl ?_
    refine e_aloadn (pc := 7) dX7_figuresAll_7 rfl ?_
    refine e_get (pc := 8) dX7_figuresAll_8 fX7_41 rfl rfl ?_
    refine e_iloadn (pc := 11) dX7_figuresAll_11 rfl ?_
    refine aldv_sheetSize (pc := 12) dX7_figuresAll_12 i8 e8 ?_
    refine e_icmp_ge (pc := 13) dX7_figuresAll_13 (t := 46) (by decide) (fun c_13 => absurd c_13 (nI_ge g3 (by omega))) (fun _ => ?_)
    refine e_aloadn (pc := 16) dX7_figuresAll_16 rfl ?_
    refine e_iloadn (pc := 17) dX7_figuresAll_17 rfl ?_
    refine e_aloadn (pc := 18) dX7_figuresAll_18 rfl ?_
    refine e_get (pc := 19) dX7_figuresAll_19 fX7_44 rfl rfl ?_
    refine e_bipush (v := 40) (pc := 22) dX7_figuresAll_22 (by decide) ?_
    refine e_iloadn (pc := 24) dX7_figuresAll_24 rfl ?_
    refine e_imul (pc := 25) dX7_figuresAll_25 ?_
    refine e_iload (pc := 26) dX7_figuresAll_26 rfl ?_
    refine e_iadd (pc := 28) dX7_figuresAll_28 ?_
    refine aldv_ycells (pc := 29) dX7_figuresAll_29 (i9 k (by omega)) ex ?_
    refine e_cvY (pc := 30) (sp_y_writes hG.1 hG.V (hG.k0 hc) (hG.k1 hc) (hG.fg _) (hG.mk _ _ (hr x List.mem_cons_self)) hD) dX7_figuresAll_30 kX7_186 rfl rfl rfl rfl rfl (mc_CR_of (Nat.le_of_ble_eq_true rfl) (Nat.le_of_ble_eq_true rfl) (Nat.le_refl _) (Nat.le_refl _)) (Nat.le_of_ble_eq_true rfl) (fun w1 hw1 => ?_)
    obtain ⟨n1, d1, hF1, rfl⟩ := hw1
    refine e_iloadn (pc := 33) dX7_figuresAll_33 rfl ?_
    refine e_aloadn (pc := 34) dX7_figuresAll_34 rfl ?_
    refine e_get (pc := 35) dX7_figuresAll_35 fX7_175 rfl rfl ?_
    refine e_iadd (pc := 38) dX7_figuresAll_38 ?_
    refine e_isn3 (pc := 39) dX7_figuresAll_39 (Nat.le_of_ble_eq_true rfl) rfl ?_
    refine e_incC4 (pc := 40) dX7_figuresAll_40 (nI_1 k) (Nat.le_of_ble_eq_true rfl) rfl ?_
    refine e_goto (pc := 43) dX7_figuresAll_43 (t := 5) (by decide) ?_
    exact ih (k + 1) _ n1 d1 g2 (by omega) (fun v hv => hr v (List.mem_cons_of_mem _ hv)) hF1.1 (by rw [hF1.2.1]; exact hV)
theorem sp_y_figuresAll {s u m n : Nat → Int32} {a c b d : Nat → List Int32} {q : List (Option Nat)} {h : Nat} {z : mc_W} {s0 k0 : Int32} (hG : yG m b) (hS : ySh b) (hs : mc_wi s0 0 3 = true) (hc : mc_wi k0 0 (m 2 - 1) = true) (hr : ∀ v ∈ yrow b s0, ynum v = true) (hD : yD d) : mc_T yX7_figuresAll cX7_figuresAll 5 (some .int) 6 [.ref 29, .int s0, .int k0] (WW s a q u c h m b n d z) (some (.int (yfa m b s0 k0))) (fun w' => ∃ n1 d1, yD d1 ∧ w' = WW s a q u c h m b n1 d1 z) := by
  refine mc_start (own := RX7) (ini := false) rfl (by decide +kernel) (fun h => by cases h) (Nat.le_of_ble_eq_true rfl) ?_
  show mc_E _ _ _ _ _ [some (.ref 29), some (.int s0), some (.int k0), none, none] [] _ _ _
  refine e_iconst (v := 0) (pc := 0) dX7_figuresAll_0 (by decide) ?_
  refine e_isn3 (pc := 1) dX7_figuresAll_1 (Nat.le_of_ble_eq_true rfl) rfl ?_
  refine e_iconst (v := 0) (pc := 2) dX7_figuresAll_2 (by decide) ?_
  refine e_isw4 (pc := 3) dX7_figuresAll_3 (Nat.le_of_ble_eq_true rfl) rfl ?_
  exact lp_y_figAll hG hS hs hc _ 0 0 n d rfl (Nat.zero_le _) hr hD rfl
