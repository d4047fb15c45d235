/-! ===== apart, alike, slips, lots ===== -/
def xoI (M : Int32 → Int32) (mo v : Int32) : Int32 := if 0 ≤ M v + M (v + mo) - (v + (v + mo)) then M v + M (v + mo) - (v + (v + mo)) else -(M v + M (v + mo) - (v + (v + mo)))
def xapl (M : Int32 → Int32) (mo w : Int32) : Nat → Nat → Int32
  | 0, _ => if w = 0 then -1 else 0
  | f + 1, v => if xoI M mo (nI v) = 0 then xapl M mo w f (v + 1) else if w = 0 then nI v else xoI M mo (nI v)
def xap (s : Nat → Int32) (a : Nat → List Int32) (sg : Nat → List Int32) (k mo w : Int32) : Int32 := if mc_wi k 0 (s 2 - 1) = false then -5 else if (mc_wi mo 0 999 && mc_wi w 0 1) = false then -7 else xapl (xmk s a sg k) mo w 1000 0
theorem lp_x_apart {s u m n : Nat → Int32} {a b d : Nat → List Int32} {q : List (Option Nat)} {h : Nat} {z : mc_W} {c0 : Nat → List Int32} {k mo w V K nu mm ba ye : Int32} {sg : Nat → List Int32} (hc0 : xC c0) :
    ∀ (f i : Nat) (c : Nat → List Int32) (x6 x7 : Option Value), xHd q z h u c K mm nu ba ye sg → xKc c0 c → i + f = 1000 → xapl (hmk K mm nu ba ye sg) mo w f i = V →
      mc_E RX6 cX6_apart 8 (mc_JM (some .int) false 7 0 0 (fun r' w' => r' = some (.int V) ∧ ∃ u1 c1 h1, xC c1 ∧ w' = (WW s a q u1 c1 h1 m b n d z))) 42 [some (.ref 0), some (.int k), some (.int mo), some (.int w), some (.ref 17), some (.int (nI i)), x6, x7] [] (WW s a q u c h m b n d z) 0 0 := by
  intro f
  induction f with
  | zero =>
    intro i c x6 x7 hH hk hi hV
    have e : i = 1000 := by omega
    subst e
    simp only [xapl] at hV
    refine e_iload (pc := 42) dX6_apart_42 rfl ?_
    refine e_sipush (v := 999) (pc := 44) dX6_apart_44 (by decide) ?_
    refine e_icmp_gt (pc := 47) dX6_apart_47 (t := 105) (by decide) (fun _ => ?_) (fun c_47 => absurd (by decide) c_47)
    refine e_iloadn (pc := 105) dX6_apart_105 rfl ?_
    refine e_if_ne (pc := 106) dX6_apart_106 (t := 113) (by decide) (fun c_106 => ?_) (fun c_106 => ?_)
    · skip
      refine e_iconst (v := 0) (pc := 113) dX6_apart_113 (by decide) ?_
      exact e_iret (pc := 114) dX6_apart_114 rfl (Nat.le_refl _) (Nat.le_refl _) ⟨by rw [← hV, if_neg c_106], u, c, h, hH.C hk hc0, rfl⟩
    · skip
      refine e_iconst (v := -1) (pc := 109) dX6_apart_109 (by decide) ?_
      refine e_goto (pc := 110) dX6_apart_110 (t := 114) (by decide) ?_
      exact e_iret (pc := 114) dX6_apart_114 rfl (Nat.le_refl _) (Nat.le_refl _) ⟨by rw [← hV, if_pos c_106], u, c, h, hH.C hk hc0, rfl⟩
  | succ f ih =>
    intro i c x6 x7 hH hk hi hV
    simp only [xapl] at hV
    have hi2 : i < 1000 := by omega
    refine e_iload (pc := 42) dX6_apart_42 rfl ?_
    refine e_sipush (v := 999) (pc := 44) dX6_apart_44 (by decide) ?_
    refine e_icmp_gt (pc := 47) dX6_apart_47 (t := 105) (by decide) (fun c_47 => absurd c_47 (fun q => absurd (nI_le (a := i) (b := 999) (by omega) (by decide)) (Int32.not_le.mpr q))) (fun _ => ?_)
    refine e_iload (pc := 50) dX6_apart_50 rfl ?_
    refine e_iloadn (pc := 52) dX6_apart_52 rfl ?_
    refine e_iadd (pc := 53) dX6_apart_53 ?_
    refine e_isw6 (pc := 54) dX6_apart_54 (Nat.le_of_ble_eq_true rfl) rfl ?_
    refine e_aload (pc := 56) dX6_apart_56 rfl ?_
    refine e_iload (pc := 58) dX6_apart_58 rfl ?_
    refine e_cvX (pc := 60) (sp_x_makes hH) dX6_apart_60 kX6_157 rfl rfl rfl rfl rfl (mc_CR_of (Nat.le_of_ble_eq_true rfl) (Nat.le_of_ble_eq_true rfl) (Nat.le_refl _) (Nat.le_refl _)) (Nat.le_of_ble_eq_true rfl) (fun w1 hw1 => ?_)
    obtain ⟨c1, hH1, hk1, -, rfl⟩ := hw1
    refine e_aload (pc := 63) dX6_apart_63 rfl ?_
    refine e_iload (pc := 65) dX6_apart_65 rfl ?_
    refine e_cvX (pc := 67) (sp_x_makes hH1) dX6_apart_67 kX6_157 rfl rfl rfl rfl rfl (mc_CR_of (Nat.le_of_ble_eq_true rfl) (Nat.le_of_ble_eq_true rfl) (Nat.le_refl _) (Nat.le_refl _)) (Nat.le_of_ble_eq_true rfl) (fun w1 hw1 => ?_)
    obtain ⟨c2, hH2, hk2, -, rfl⟩ := hw1
    refine e_iadd (pc := 70) dX6_apart_70 ?_
    refine e_iload (pc := 71) dX6_apart_71 rfl ?_
    refine e_iload (pc := 73) dX6_apart_73 rfl ?_
    refine e_iadd (pc := 75) dX6_apart_75 ?_
    refine e_isub (pc := 76) dX6_apart_76 ?_
    refine e_abs (pc := 77) dX6_apart_77 mX6_163 (mc_JR_of (Nat.le_of_ble_eq_true rfl) (Nat.le_refl _) (Nat.le_refl _) (Nat.le_of_ble_eq_true rfl)) ?_
    refine e_top (y := xoI (hmk K mm nu ba ye sg) mo (nI i)) rfl ?_
    refine e_isw7 (pc := 80) dX6_apart_80 (Nat.le_of_ble_eq_true rfl) rfl ?_
    refine e_iload (pc := 82) dX6_apart_82 rfl ?_
    refine e_if_eq (pc := 84) dX6_apart_84 (t := 99) (by decide) (fun c_84 => ?_) (fun c_84 => ?_)
    · skip
      refine e_incC5 (pc := 99) dX6_apart_99 (nI_1 i) (Nat.le_of_ble_eq_true rfl) rfl ?_
      refine e_goto (pc := 102) dX6_apart_102 (t := 42) (by decide) ?_
      exact ih (i + 1) c2 _ _ hH2 ((hk.trans hk1).trans hk2) (by omega) (by rw [← hV, if_pos c_84])
    · skip
      refine e_iloadn (pc := 87) dX6_apart_87 rfl ?_
      refine e_if_ne (pc := 88) dX6_apart_88 (t := 96) (by decide) (fun c_88 => ?_) (fun c_88 => ?_)
      · skip
        refine e_iload (pc := 96) dX6_apart_96 rfl ?_
        exact e_iret (pc := 98) dX6_apart_98 rfl (Nat.le_refl _) (Nat.le_refl _) ⟨by rw [← hV, if_neg c_84, if_neg c_88], u, c2, h, hH2.C ((hk.trans hk1).trans hk2) hc0, rfl⟩
      · skip
        refine e_iload (pc := 91) dX6_apart_91 rfl ?_
        refine e_goto (pc := 93) dX6_apart_93 (t := 98) (by decide) ?_
        exact e_iret (pc := 98) dX6_apart_98 rfl (Nat.le_refl _) (Nat.le_refl _) ⟨by rw [← hV, if_neg c_84, if_pos c_88], u, c2, h, hH2.C ((hk.trans hk1).trans hk2) hc0, rfl⟩
theorem sp_x_apart {s u m n : Nat → Int32} {a c b d : Nat → List Int32} {q : List (Option Nat)} {h : Nat} {z : mc_W} {T : Nat} {sg : Nat → Nat → List Int32} {k mo w : Int32} (hO : xOK s a q c z T sg) : mc_T yX6_apart cX6_apart 8 (some .int) 7 [.ref 0, .int k, .int mo, .int w] (WW s a q u c h m b n d z) (some (.int (xap s a (sg (tl s)) k mo w))) (fun w1 => ∃ u1 c1 h1, xC c1 ∧ w1 = (WW s a q u1 c1 h1 m b n d z)) := by
  refine mc_start (own := RX6) (ini := false) rfl (by decide +kernel) (fun h => by cases h) (Nat.le_of_ble_eq_true rfl) ?_
  show mc_E _ _ _ _ _ [some (.ref 0), some (.int k), some (.int mo), some (.int w), none, none, none, none] [] _ _ _
  refine e_aloadn (pc := 0) dX6_apart_0 rfl ?_
  refine e_iloadn (pc := 1) dX6_apart_1 rfl ?_
  refine e_cvD (pc := 2) (sp_x_isClerk hO.2.1) dX6_apart_2 kX6_115 rfl rfl rfl rfl rfl (mc_CR_of (Nat.le_of_ble_eq_true rfl) (Nat.le_of_ble_eq_true rfl) (Nat.le_refl _) (Nat.le_refl _)) (Nat.le_of_ble_eq_true rfl) ?_
  refine e_if_ne (pc := 5) dX6_apart_5 (t := 11) (by decide) (fun c_5 => ?_) (fun c_5 => ?_)
  · skip
    refine e_iloadn (pc := 11) dX6_apart_11 rfl ?_
    refine e_iconst (v := 0) (pc := 12) dX6_apart_12 (by decide) ?_
    refine e_sipush (v := 999) (pc := 13) dX6_apart_13 (by decide) ?_
    refine e_csD (pc := 16) (sp_isWithin) dX6_apart_16 kX6_86 rfl rfl (mc_CR_of (Nat.le_of_ble_eq_true rfl) (Nat.le_of_ble_eq_true rfl) (Nat.le_refl _) (Nat.le_refl _)) (Nat.le_of_ble_eq_true rfl) ?_
    refine e_if_eq (pc := 19) dX6_apart_19 (t := 29) (by decide) (fun c_19 => ?_) (fun c_19 => ?_)
    · skip
      refine e_bipush (v := -7) (pc := 29) dX6_apart_29 (by decide) ?_
      exact e_iret (pc := 31) dX6_apart_31 rfl (Nat.le_refl _) (Nat.le_refl _) ⟨by unfold xap; rw [if_neg (by rw [mc_b1.mp c_5]; decide), if_pos (by simp only [mc_b0, mc_b1, Bool.not_eq_false] at *; simp_all)], u, c, h, hO.2.2.2.2.2.1, rfl⟩
    · skip
      refine e_iloadn (pc := 22) dX6_apart_22 rfl ?_
      refine e_csD (pc := 23) (sp_isTwofold) dX6_apart_23 kX6_160 rfl rfl (mc_CR_of (Nat.le_of_ble_eq_true rfl) (Nat.le_of_ble_eq_true rfl) (Nat.le_refl _) (Nat.le_refl _)) (Nat.le_of_ble_eq_true rfl) ?_
      refine e_if_ne (pc := 26) dX6_apart_26 (t := 32) (by decide) (fun c_26 => ?_) (fun c_26 => ?_)
      · skip
        refine e_aloadn (pc := 32) dX6_apart_32 rfl ?_
        refine e_iloadn (pc := 33) dX6_apart_33 rfl ?_
        refine e_cvX (pc := 34) (sp_x_handOf hO (mc_b1.mp c_5)) dX6_apart_34 kX6_121 rfl rfl rfl rfl rfl (mc_CR_of (Nat.le_of_ble_eq_true rfl) (Nat.le_of_ble_eq_true rfl) (Nat.le_refl _) (Nat.le_refl _)) (Nat.le_of_ble_eq_true rfl) (fun w1 hw1 => ?_)
        obtain ⟨u1, c1, hH, hk1, rfl⟩ := hw1
        refine e_asw4 (pc := 37) dX6_apart_37 (Nat.le_of_ble_eq_true rfl) rfl ?_
        refine e_iconst (v := 0) (pc := 39) dX6_apart_39 (by decide) ?_
        refine e_isw5 (pc := 40) dX6_apart_40 (Nat.le_of_ble_eq_true rfl) rfl ?_
        have e : xap s a (sg (tl s)) k mo w = xapl (xmk s a (sg (tl s)) k) mo w 1000 0 := by unfold xap; rw [if_neg (by rw [mc_b1.mp c_5]; decide), if_neg (by simp only [mc_b0, mc_b1, Bool.not_eq_false] at *; simp_all)]
        rw [e]
        exact lp_x_apart hO.2.2.2.2.2.1 1000 0 c1 _ _ hH hk1 (by omega) rfl
      · skip
        refine e_bipush (v := -7) (pc := 29) dX6_apart_29 (by decide) ?_
        exact e_iret (pc := 31) dX6_apart_31 rfl (Nat.le_refl _) (Nat.le_refl _) ⟨by unfold xap; rw [if_neg (by rw [mc_b1.mp c_5]; decide), if_pos (by simp only [mc_b0, mc_b1, Bool.not_eq_false] at *; simp_all)], u, c, h, hO.2.2.2.2.2.1, rfl⟩
  · skip
    refine e_bipush (v := -5) (pc := 8) dX6_apart_8 (by decide) ?_
    exact e_iret (pc := 10) dX6_apart_10 rfl (Nat.le_refl _) (Nat.le_refl _) ⟨by unfold xap; rw [if_pos (mc_b0.mp c_5)], u, c, h, hO.2.2.2.2.2.1, rfl⟩
theorem hl1 (l : List Int32) (h : l.length ≤ 17) (h0 : ¬ nI l.length = 0) : nI l.length - 1 = nI (l.length - 1) ∧ l.length - 1 < l.length := by
  have : ¬ l.length = 0 := fun q => h0 (by rw [q]; rfl)
  exact ⟨nI_sub1 (by omega), by omega⟩
theorem hl0 (l : List Int32) (h : l.length ≤ 17) (h0 : nI l.length = 0) : l.length = 0 := (nI_eq (a := l.length) (b := 0) (by omega) (by decide)).mp h0
theorem sp_x_lastF {s u m n : Nat → Int32} {a c b d : Nat → List Int32} {q : List (Option Nat)} {h : Nat} {z : mc_W} {K mo nu ba ye : Int32} {sg : Nat → List Int32} {y : Int32} (hH : xHd q z h u c K mo nu ba ye sg) (hy : -99999 ≤ y.toInt ∧ y.toInt ≤ 99999) : mc_T yX6_lastFigureOf cX6_lastFigureOf 2 (some .int) 7 [.ref 17, .int y] (WW s a q u c h m b n d z) (some (.int (ylst (hwr K mo nu ba ye sg (yab y))))) (fun w1 => ∃ u1 c1, xHd q z h u1 c1 K mo nu ba ye sg ∧ xKc c c1 ∧ w1 = (WW s a q u1 c1 h m b n d z)) := by
  refine mc_start (own := RX6) (ini := false) rfl (by decide +kernel) (fun h => by cases h) (Nat.le_of_ble_eq_true rfl) ?_
  show mc_E _ _ _ _ _ [some (.ref 17), some (.int y)] [] _ _ _
  have ey : (if 0 ≤ y then y else -y) = yab y := by
    unfold yab
    by_cases q : y < 0
    · rw [if_pos q, if_neg (Int32.not_le.mpr q)]
    · rw [if_neg q, if_pos (Int32.not_lt.mp q)]
  have by0 : 0 ≤ (yab y).toInt ∧ (yab y).toInt ≤ 99999 := by
    unfold yab
    by_cases q : y < 0
    · rw [if_pos q]
      have ng : (-y : Int32).toInt = -y.toInt := by rw [Int32.toInt_neg, Int.bmod_eq_of_le] <;> omega
      rw [Int32.lt_iff_toInt_lt, i0] at q
      rw [ng]; omega
    · rw [if_neg q]; rw [Int32.lt_iff_toInt_lt, i0] at q; omega
  refine e_aloadn (pc := 0) dX6_lastFigureOf_0 rfl ?_
  refine e_iloadn (pc := 1) dX6_lastFigureOf_1 rfl ?_
  refine e_abs (pc := 2) dX6_lastFigureOf_2 mX6_163 (mc_JR_of (Nat.le_of_ble_eq_true rfl) (Nat.le_refl _) (Nat.le_refl _) (Nat.le_of_ble_eq_true rfl)) ?_
  rw [ey]
  refine e_cvY (pc := 5) (sp_x_write hH (hH.mk by0)) dX6_lastFigureOf_5 kX6_135 rfl rfl rfl rfl rfl (mc_CR_of (Nat.le_of_ble_eq_true rfl) (Nat.le_of_ble_eq_true rfl) (Nat.le_refl _) (Nat.le_refl _)) (Nat.le_of_ble_eq_true rfl) (fun w1 hw1 => ?_)
  obtain ⟨u2, c2, hH2, hk2, hF, rfl⟩ := hw1
  refine e_aloadn (pc := 8) dX6_lastFigureOf_8 rfl ?_
  refine e_cvD (pc := 9) (sp_x_many) dX6_lastFigureOf_9 kX6_138 rfl rfl rfl rfl rfl (mc_CR_of (Nat.le_of_ble_eq_true rfl) (Nat.le_of_ble_eq_true rfl) (Nat.le_refl _) (Nat.le_refl _)) (Nat.le_of_ble_eq_true rfl) ?_
  rw [hF.1]
  refine e_if_ne (pc := 12) dX6_lastFigureOf_12 (t := 19) (by decide) (fun c_12 => ?_) (fun c_12 => ?_)
  · skip
    refine e_aloadn (pc := 19) dX6_lastFigureOf_19 rfl ?_
    refine e_aloadn (pc := 20) dX6_lastFigureOf_20 rfl ?_
    refine e_cvD (pc := 21) (sp_x_many) dX6_lastFigureOf_21 kX6_138 rfl rfl rfl rfl rfl (mc_CR_of (Nat.le_of_ble_eq_true rfl) (Nat.le_of_ble_eq_true rfl) (Nat.le_refl _) (Nat.le_refl _)) (Nat.le_of_ble_eq_true rfl) ?_
    rw [hF.1]
    refine e_iconst (v := 1) (pc := 24) dX6_lastFigureOf_24 (by decide) ?_
    refine e_isub (pc := 25) dX6_lastFigureOf_25 ?_
    refine e_cvD (pc := 26) (sp_x_written (j := (hwr K mo nu ba ye sg (yab y)).length - 1) hF (hl1 _ hF.2.2.2 c_12).1 (hl1 _ hF.2.2.2 c_12).2) dX6_lastFigureOf_26 kX6_141 rfl rfl rfl rfl rfl (mc_CR_of (Nat.le_of_ble_eq_true rfl) (Nat.le_of_ble_eq_true rfl) (Nat.le_refl _) (Nat.le_refl _)) (Nat.le_of_ble_eq_true rfl) ?_
    exact e_iret (pc := 29) dX6_lastFigureOf_29 rfl (Nat.le_refl _) (Nat.le_refl _) ⟨rfl, u2, c2, hH2, hk2, rfl⟩
  · skip
    refine e_iconst (v := 0) (pc := 15) dX6_lastFigureOf_15 (by decide) ?_
    refine e_goto (pc := 16) dX6_lastFigureOf_16 (t := 29) (by decide) ?_
    exact e_iret (pc := 29) dX6_lastFigureOf_29 rfl (Nat.le_refl _) (Nat.le_refl _) ⟨by have h0 := hl0 _ hF.2.2.2 c_12; unfold ylst; rw [List.getD_eq_getElem?_getD, List.getElem?_eq_none (by omega)]; rfl, u2, c2, hH2, hk2, rfl⟩
theorem yr_999 {Y : Int32} {i : Nat} (hy : yy_yr Y = true) (hi : 1 ≤ i ∧ i ≤ 200) : (-998 ≤ (yy_ay (yy_az Y + nI i)).toInt ∧ (yy_ay (yy_az Y + nI i)).toInt ≤ 1200) ∧ (yy_yr (yy_ay (yy_az Y + nI i)) = true ↔ yy_ay (yy_az Y + nI i) ≤ 999) := by
  have f1 := yr_rng hy
  have ti := nI_toInt (n := i) (by omega)
  have f2 : -998 ≤ (yy_az Y).toInt ∧ (yy_az Y).toInt ≤ 999 := by
    unfold yy_az
    by_cases q : Y < 0
    · rw [if_pos q, i32_add (by omega) (by decide), i1]
      rw [Int32.lt_iff_toInt_lt, i0] at q; omega
    · rw [if_neg q]; rw [Int32.lt_iff_toInt_lt, i0] at q; omega
  have e : (yy_az Y + nI i).toInt = (yy_az Y).toInt + i := by rw [i32_add (by omega) (by omega), ti]
  have g : (yy_ay (yy_az Y + nI i)).toInt = if (yy_az Y).toInt + i < 1 then (yy_az Y).toInt + i - 1 else (yy_az Y).toInt + i := by
    unfold yy_ay
    by_cases q : yy_az Y + nI i < 1
    · have q2 := q
      rw [Int32.lt_iff_toInt_lt, e, i1] at q2
      rw [if_pos q, if_pos q2, i32_sub (by omega) (by decide), e, i1]
    · have q2 := q
      rw [Int32.lt_iff_toInt_lt, e, i1] at q2
      rw [if_neg q, if_neg q2, e]
  have nz : ¬ (yy_ay (yy_az Y + nI i)).toInt = 0 := by rw [g]; split <;> omega
  have b1 : -998 ≤ (yy_ay (yy_az Y + nI i)).toInt ∧ (yy_ay (yy_az Y + nI i)).toInt ≤ 1200 := by rw [g]; split <;> omega
  refine ⟨b1, ?_⟩
  unfold yy_yr
  rw [Bool.and_eq_true, mc_wi_iff, Int32.le_iff_toInt_le, show (-999 : Int32).toInt = -999 from rfl, show (999 : Int32).toInt = 999 from rfl]
  refine ⟨fun q => q.1.2, fun q => ⟨⟨by omega, q⟩, ?_⟩⟩
  rw [bne_iff_ne]
  exact fun r => nz (by rw [r]; rfl)
def xlf (s : Nat → Int32) (a : Nat → List Int32) (sg : Nat → List Int32) (k y : Int32) : Int32 := ylst (xwr s a sg k (yab y))
def xaY (s : Nat → Int32) (i : Nat) : Int32 := yy_ay (yy_az (s 1) + nI i)
def xali (s : Nat → Int32) (a : Nat → List Int32) (sg : Nat → List Int32) (k yrs : Int32) : Int32 × Int32 := yalf (xaY s) (fun i => xlf s a sg k (xaY s i)) (xlf s a sg k (s 1)) (yrs.toNatClampNeg - 1) 1 0 (-100001)
def xalike (s : Nat → Int32) (a : Nat → List Int32) (sg : Nat → List Int32) (k yrs w : Int32) : Int32 :=
  if mc_wi k 0 (s 2 - 1) = false then -100005 else if (mc_wi yrs 1 200 && mc_wi w 0 1) = false then -100007
  else if w = 0 then (xali s a sg k yrs).1 else (xali s a sg k yrs).2
theorem lp_x_alike {s m n : Nat → Int32} {a b d : Nat → List Int32} {q : List (Option Nat)} {h : Nat} {z : mc_W} {c0 : Nat → List Int32} {k w la K nu mm ba ye : Int32} {sg : Nat → List Int32} {N : Nat} {V : Int32 × Int32} (hc0 : xC c0) (hy : yy_yr (s 1) = true) (hN : N ≤ 200) :
    ∀ (f i : Nat) (cn fi : Int32) (u : Nat → Int32) (c : Nat → List Int32) (x9 : Option Value), xHd q z h u c K mm nu ba ye sg → xKc c0 c → 1 ≤ i → i + f = N → yalf (xaY s) (fun i => ylst (hwr K mm nu ba ye sg (yab (xaY s i)))) la f i cn fi = V →
      mc_E RX6 cX6_alike 10 (mc_JM (some .int) false 8 0 0 (fun r' w' => r' = some (.int (if w = 0 then V.1 else V.2)) ∧ ∃ u1 c1 h1, xC c1 ∧ w' = (WW s a q u1 c1 h1 m b n d z))) 63 [some (.ref 0), some (.int k), some (.int (nI N)), some (.int w), some (.ref 17), some (.int la), some (.int fi), some (.int cn), some (.int (nI i)), x9] [] (WW s a q u c h m b n d z) 0 0 := by
  intro f
  induction f with
  | zero =>
    intro i cn fi u c x9 hH hk h1 hi hV
    have e : i = N := by omega
    subst e
    simp only [yalf] at hV
    subst hV
    refine e_iload (pc := 63) dX6_alike_63 rfl ?_
    refine e_iloadn (pc := 65) dX6_alike_65 rfl ?_
    refine e_icmp_ge (pc := 66) dX6_alike_66 (t := 122) (by decide) (fun _ => ?_) (fun c_66 => absurd (nI_le (Nat.le_refl _) (by omega)) c_66)
    refine e_iloadn (pc := 122) dX6_alike_122 rfl ?_
    refine e_if_ne (pc := 123) dX6_alike_123 (t := 131) (by decide) (fun c_123 => ?_) (fun c_123 => ?_)
    · skip
      refine e_iload (pc := 131) dX6_alike_131 rfl ?_
      exact e_iret (pc := 133) dX6_alike_133 rfl (Nat.le_refl _) (Nat.le_refl _) ⟨by rw [if_neg c_123], u, c, h, hH.C hk hc0, rfl⟩
    · skip
      refine e_iload (pc := 126) dX6_alike_126 rfl ?_
      refine e_goto (pc := 128) dX6_alike_128 (t := 133) (by decide) ?_
      exact e_iret (pc := 133) dX6_alike_133 rfl (Nat.le_refl _) (Nat.le_refl _) ⟨by rw [if_pos c_123], u, c, h, hH.C hk hc0, rfl⟩
  | succ f ih =>
    intro i cn fi u c x9 hH hk h1 hi hV
    simp only [yalf] at hV
    have hi2 : i < N := by omega
    have hyr : (-998 ≤ (xaY s i).toInt ∧ (xaY s i).toInt ≤ 1200) ∧ (yy_yr (xaY s i) = true ↔ xaY s i ≤ 999) := yr_999 hy (i := i) ⟨h1, by omega⟩
    have ti := nI_toInt (n := i) (by omega)
    have eY : xx_yp (xx_py (s 1) + nI i) = xaY s i := xx_behind hy (by omega)
    refine e_iload (pc := 63) dX6_alike_63 rfl ?_
    refine e_iloadn (pc := 65) dX6_alike_65 rfl ?_
    refine e_icmp_ge (pc := 66) dX6_alike_66 (t := 122) (by decide) (fun c_66 => absurd c_66 (nI_ge hi2 (by omega))) (fun _ => ?_)
    refine e_aloadn (pc := 69) dX6_alike_69 rfl ?_
    refine e_get (pc := 70) dX6_alike_70 fX6_13 rfl rfl ?_
    refine e_csD (pc := 73) (sp_placeOfYear) dX6_alike_73 kX6_262 rfl rfl (mc_CR_of (Nat.le_of_ble_eq_true rfl) (Nat.le_of_ble_eq_true rfl) (Nat.le_refl _) (Nat.le_refl _)) (Nat.le_of_ble_eq_true rfl) ?_
    refine e_iload (pc := 76) dX6_alike_76 rfl ?_
    refine e_iadd (pc := 78) dX6_alike_78 ?_
    refine e_csD (pc := 79) (sp_yearAtPlace) dX6_alike_79 kX6_265 rfl rfl (mc_CR_of (Nat.le_of_ble_eq_true rfl) (Nat.le_of_ble_eq_true rfl) (Nat.le_refl _) (Nat.le_refl _)) (Nat.le_of_ble_eq_true rfl) ?_
    rw [eY]
    refine e_isw9 (pc := 82) dX6_alike_82 (Nat.le_of_ble_eq_true rfl) rfl ?_
    refine e_iload (pc := 84) dX6_alike_84 rfl ?_
    refine e_csD (pc := 86) (sp_isYear) dX6_alike_86 kX6_90 rfl rfl (mc_CR_of (Nat.le_of_ble_eq_true rfl) (Nat.le_of_ble_eq_true rfl) (Nat.le_refl _) (Nat.le_refl _)) (Nat.le_of_ble_eq_true rfl) ?_
    refine e_if_eq (pc := 89) dX6_alike_89 (t := 116) (by decide) (fun c_89 => ?_) (fun c_89 => ?_)
    · skip
      refine e_incC8 (pc := 116) dX6_alike_116 (nI_1 i) (Nat.le_of_ble_eq_true rfl) rfl ?_
      refine e_goto (pc := 119) dX6_alike_119 (t := 63) (by decide) ?_
      exact ih (i + 1) _ _ _ _ _ hH hk (by omega) (by omega) (by rw [← hV, if_neg (fun q => by rw [hyr.2.mpr q.1] at c_89; exact absurd c_89 (by decide)), Int32.add_zero])
    · skip
      refine e_aload (pc := 92) dX6_alike_92 rfl ?_
      refine e_iload (pc := 94) dX6_alike_94 rfl ?_
      refine e_csX (pc := 96) (sp_x_lastF (y := xaY s i) hH (by omega)) dX6_alike_96 kX6_271 rfl rfl (mc_CR_of (Nat.le_of_ble_eq_true rfl) (Nat.le_of_ble_eq_true rfl) (Nat.le_refl _) (Nat.le_refl _)) (Nat.le_of_ble_eq_true rfl) (fun w1 hw1 => ?_)
      obtain ⟨u1, c1, hH1, hk1, rfl⟩ := hw1
      refine e_iload (pc := 99) dX6_alike_99 rfl ?_
      refine e_icmp_ne (pc := 101) dX6_alike_101 (t := 116) (by decide) (fun c_101 => ?_) (fun c_101 => ?_)
      · skip
        refine e_incC8 (pc := 116) dX6_alike_116 (nI_1 i) (Nat.le_of_ble_eq_true rfl) rfl ?_
        refine e_goto (pc := 119) dX6_alike_119 (t := 63) (by decide) ?_
        exact ih (i + 1) _ _ _ _ _ hH1 (hk.trans hk1) (by omega) (by omega) (by rw [← hV, if_neg (fun q => c_101 q.2), Int32.add_zero])
      · skip
        refine e_iload (pc := 104) dX6_alike_104 rfl ?_
        refine e_if_ne (pc := 106) dX6_alike_106 (t := 113) (by decide) (fun c_106 => ?_) (fun c_106 => ?_)
        · skip
          refine e_incC7 (pc := 113) dX6_alike_113 (show cn + Int32.ofInt 1 = cn + 1 from rfl) (Nat.le_of_ble_eq_true rfl) rfl ?_
          refine e_incC8 (pc := 116) dX6_alike_116 (nI_1 i) (Nat.le_of_ble_eq_true rfl) rfl ?_
          refine e_goto (pc := 119) dX6_alike_119 (t := 63) (by decide) ?_
          exact ih (i + 1) _ _ _ _ _ hH1 (hk.trans hk1) (by omega) (by omega) (by rw [← hV, if_pos ⟨hyr.2.mp (mc_b1.mp c_89), c_101⟩, if_neg c_106])
        · skip
          refine e_iload (pc := 109) dX6_alike_109 rfl ?_
          refine e_isw6 (pc := 111) dX6_alike_111 (Nat.le_of_ble_eq_true rfl) rfl ?_
          refine e_incC7 (pc := 113) dX6_alike_113 (show cn + Int32.ofInt 1 = cn + 1 from rfl) (Nat.le_of_ble_eq_true rfl) rfl ?_
          refine e_incC8 (pc := 116) dX6_alike_116 (nI_1 i) (Nat.le_of_ble_eq_true rfl) rfl ?_
          refine e_goto (pc := 119) dX6_alike_119 (t := 63) (by decide) ?_
          exact ih (i + 1) _ _ _ _ _ hH1 (hk.trans hk1) (by omega) (by omega) (by rw [← hV, if_pos ⟨hyr.2.mp (mc_b1.mp c_89), c_101⟩, if_pos c_106])
theorem sp_x_alike {s u m n : Nat → Int32} {a c b d : Nat → List Int32} {q : List (Option Nat)} {h : Nat} {z : mc_W} {T : Nat} {sg : Nat → Nat → List Int32} {k yrs w : Int32} (hy : yy_yr (s 1) = true) (hO : xOK s a q c z T sg) : mc_T yX6_alike cX6_alike 10 (some .int) 8 [.ref 0, .int k, .int yrs, .int w] (WW s a q u c h m b n d z) (some (.int (xalike s a (sg (tl s)) k yrs w))) (fun w1 => ∃ u1 c1 h1, xC c1 ∧ w1 = (WW s a q u1 c1 h1 m b n d z)) := by
  refine mc_start (own := RX6) (ini := false) rfl (by decide +kernel) (fun h => by cases h) (Nat.le_of_ble_eq_true rfl) ?_
  show mc_E _ _ _ _ _ [some (.ref 0), some (.int k), some (.int yrs), some (.int w), none, none, none, none, none, none] [] _ _ _
  refine e_aloadn (pc := 0) dX6_alike_0 rfl ?_
  refine e_iloadn (pc := 1) dX6_alike_1 rfl ?_
  refine e_cvD (pc := 2) (sp_x_isClerk hO.2.1) dX6_alike_2 kX6_115 rfl rfl rfl rfl rfl (mc_CR_of (Nat.le_of_ble_eq_true rfl) (Nat.le_of_ble_eq_true rfl) (Nat.le_refl _) (Nat.le_refl _)) (Nat.le_of_ble_eq_true rfl) ?_
  refine e_if_ne (pc := 5) dX6_alike_5 (t := 12) (by decide) (fun c_5 => ?_) (fun c_5 => ?_)
  · skip
    refine e_iloadn (pc := 12) dX6_alike_12 rfl ?_
    refine e_iconst (v := 1) (pc := 13) dX6_alike_13 (by decide) ?_
    refine e_sipush (v := 200) (pc := 14) dX6_alike_14 (by decide) ?_
    refine e_csD (pc := 17) (sp_isWithin) dX6_alike_17 kX6_86 rfl rfl (mc_CR_of (Nat.le_of_ble_eq_true rfl) (Nat.le_of_ble_eq_true rfl) (Nat.le_refl _) (Nat.le_refl _)) (Nat.le_of_ble_eq_true rfl) ?_
    refine e_if_eq (pc := 20) dX6_alike_20 (t := 30) (by decide) (fun c_20 => ?_) (fun c_20 => ?_)
    · skip
      refine e_ldcw (pc := 30) dX6_alike_30 qX6_270 ?_
      exact e_iret (pc := 33) dX6_alike_33 rfl (Nat.le_refl _) (Nat.le_refl _) ⟨by unfold xalike; rw [if_neg (by rw [mc_b1.mp c_5]; decide), if_pos (by simp only [mc_b0, mc_b1, Bool.not_eq_false] at *; simp_all)], u, c, h, hO.2.2.2.2.2.1, rfl⟩
    · skip
      refine e_iloadn (pc := 23) dX6_alike_23 rfl ?_
      refine e_csD (pc := 24) (sp_isTwofold) dX6_alike_24 kX6_160 rfl rfl (mc_CR_of (Nat.le_of_ble_eq_true rfl) (Nat.le_of_ble_eq_true rfl) (Nat.le_refl _) (Nat.le_refl _)) (Nat.le_of_ble_eq_true rfl) ?_
      refine e_if_ne (pc := 27) dX6_alike_27 (t := 34) (by decide) (fun c_27 => ?_) (fun c_27 => ?_)
      · skip
        refine e_aloadn (pc := 34) dX6_alike_34 rfl ?_
        refine e_iloadn (pc := 35) dX6_alike_35 rfl ?_
        refine e_cvX (pc := 36) (sp_x_handOf hO (mc_b1.mp c_5)) dX6_alike_36 kX6_121 rfl rfl rfl rfl rfl (mc_CR_of (Nat.le_of_ble_eq_true rfl) (Nat.le_of_ble_eq_true rfl) (Nat.le_refl _) (Nat.le_refl _)) (Nat.le_of_ble_eq_true rfl) (fun w1 hw1 => ?_)
        obtain ⟨u1, c1, hH, hk1, rfl⟩ := hw1
        refine e_asw4 (pc := 39) dX6_alike_39 (Nat.le_of_ble_eq_true rfl) rfl ?_
        refine e_aload (pc := 41) dX6_alike_41 rfl ?_
        refine e_aloadn (pc := 43) dX6_alike_43 rfl ?_
        refine e_get (pc := 44) dX6_alike_44 fX6_13 rfl rfl ?_
        refine e_csX (pc := 47) (sp_x_lastF (y := s 1) hH (by have := yr_rng hy; omega)) dX6_alike_47 kX6_271 rfl rfl (mc_CR_of (Nat.le_of_ble_eq_true rfl) (Nat.le_of_ble_eq_true rfl) (Nat.le_refl _) (Nat.le_refl _)) (Nat.le_of_ble_eq_true rfl) (fun w1 hw1 => ?_)
        obtain ⟨u2, c2, hH2, hk2, rfl⟩ := hw1
        refine e_isw5 (pc := 50) dX6_alike_50 (Nat.le_of_ble_eq_true rfl) rfl ?_
        refine e_ldcw (pc := 52) dX6_alike_52 qX6_268 ?_
        refine e_isw6 (pc := 55) dX6_alike_55 (Nat.le_of_ble_eq_true rfl) rfl ?_
        refine e_iconst (v := 0) (pc := 57) dX6_alike_57 (by decide) ?_
        refine e_isw7 (pc := 58) dX6_alike_58 (Nat.le_of_ble_eq_true rfl) rfl ?_
        refine e_iconst (v := 1) (pc := 60) dX6_alike_60 (by decide) ?_
        refine e_isw8 (pc := 61) dX6_alike_61 (Nat.le_of_ble_eq_true rfl) rfl ?_
        have e : xalike s a (sg (tl s)) k yrs w = if w = 0 then (xali s a (sg (tl s)) k yrs).1 else (xali s a (sg (tl s)) k yrs).2 := by unfold xalike; rw [if_neg (by rw [mc_b1.mp c_5]; decide), if_neg (by simp only [mc_b0, mc_b1, Bool.not_eq_false] at *; simp_all)]
        have hyrs := mc_wi_iff.mp (mc_b1.mp c_20)
        rw [i1, show (200 : Int32).toInt = 200 from rfl] at hyrs
        have ty := tnc (x := yrs) (by omega)
        rw [e]
        obtain ⟨N, hN⟩ : ∃ N, yrs.toNatClampNeg = N := ⟨_, rfl⟩
        have ey : yrs = nI N := by rw [← hN]; exact nI_back (by omega)
        subst ey
        exact lp_x_alike hO.2.2.2.2.2.1 hy (by omega) (N - 1) 1 0 (-100001) u2 c2 _ hH2 (hk1.trans hk2) (by omega) (by omega) (by unfold xali; rw [hN]; rfl)
      · skip
        refine e_ldcw (pc := 30) dX6_alike_30 qX6_270 ?_
        exact e_iret (pc := 33) dX6_alike_33 rfl (Nat.le_refl _) (Nat.le_refl _) ⟨by unfold xalike; rw [if_neg (by rw [mc_b1.mp c_5]; decide), if_pos (by simp only [mc_b0, mc_b1, Bool.not_eq_false] at *; simp_all)], u, c, h, hO.2.2.2.2.2.1, rfl⟩
  · skip
    refine e_ldcw (pc := 8) dX6_alike_8 qX6_269 ?_
    exact e_iret (pc := 11) dX6_alike_11 rfl (Nat.le_refl _) (Nat.le_refl _) ⟨by unfold xalike; rw [if_pos (mc_b0.mp c_5)], u, c, h, hO.2.2.2.2.2.1, rfl⟩
/-- a figure slips -/
def xsd (g f : Int32) : Int32 := if f < g then f + 1 else f - 1
theorem take_set {l xs : List Int32} {j : Nat} {x : Int32} (h : l.take xs.length = xs) (hj : j < xs.length) : (l.set j x).take xs.length = xs.set j x := by
  rw [List.take_set, h]
theorem xRw.set {u : Nat → Int32} {c c1 : Nat → List Int32} {xs : List Int32} {j : Nat} {x : Int32} (h : xRw u c xs) (hj : j < xs.length) (h5 : c1 5 = (c 5).set j x) : xRw u c1 (xs.set j x) :=
  ⟨by rw [List.length_set]; exact h.1, by rw [List.length_set, h5]; exact take_set h.2.1 hj, by rw [h5, List.length_set]; exact h.2.2.1, by rw [List.length_set]; exact h.2.2.2⟩
theorem sp_x_putBack {s u m n : Nat → Int32} {a c b d : Nat → List Int32} {q : List (Option Nat)} {h : Nat} {z : mc_W} {K mo nu ba ye : Int32} {sg : Nat → List Int32} {xs : List Int32} {i x : Int32} {j : Nat} (hH : xHd q z h u c K mo nu ba ye sg) (hF : xRw u c xs) (hi : i = nI j) (hj : j < xs.length) : mc_T yX1_putBack cX1_putBack 3 none 1 [.ref 17, .int i, .int x] (WW s a q u c h m b n d z) none (fun w1 => ∃ c1, xHd q z h u c1 K mo nu ba ye sg ∧ xKc c c1 ∧ xRw u c1 (xs.set j x) ∧ w1 = (WW s a q u c1 h m b n d z)) := by
  refine mc_start (own := RX1) (ini := false) rfl (by decide +kernel) (fun h => by cases h) (Nat.le_of_ble_eq_true rfl) ?_
  show mc_E _ _ _ _ _ [some (.ref 17), some (.int i), some (.int x)] [] _ _ _
  subst hi
  have h17 := hF.2.2.2
  obtain ⟨hT, hK, hc3, h48, h40, hr⟩ := id hH
  refine e_iloadn (pc := 0) dX1_putBack_0 rfl ?_
  refine e_if_lt (pc := 1) dX1_putBack_1 (t := 28) (by decide) (fun c_1 => absurd c_1 (nI_pos (by omega))) (fun _ => ?_)
  refine e_iloadn (pc := 4) dX1_putBack_4 rfl ?_
  refine e_aloadn (pc := 5) dX1_putBack_5 rfl ?_
  refine e_get (pc := 6) dX1_putBack_6 fX1_61 rfl rfl ?_
  refine e_icmp_ge (pc := 9) dX1_putBack_9 (t := 28) (by decide) (fun c_9 => absurd c_9 (by rw [hF.1]; exact nI_ge hj (by omega))) (fun _ => ?_)
  refine e_iloadn (pc := 12) dX1_putBack_12 rfl ?_
  refine e_aloadn (pc := 13) dX1_putBack_13 rfl ?_
  refine e_get (pc := 14) dX1_putBack_14 fX1_18 rfl rfl ?_
  refine e_alen (pc := 17) dX1_putBack_17 rfl (show Int32.ofNat (c 5).length = nI 40 by rw [h40]; rfl) ?_
  refine e_icmp_ge (pc := 18) dX1_putBack_18 (t := 28) (by decide) (fun c_18 => absurd c_18 (nI_ge (by omega) (by decide))) (fun _ => ?_)
  refine e_aloadn (pc := 21) dX1_putBack_21 rfl ?_
  refine e_get (pc := 22) dX1_putBack_22 fX1_18 rfl rfl ?_
  refine e_iloadn (pc := 25) dX1_putBack_25 rfl ?_
  refine e_iloadn (pc := 26) dX1_putBack_26 rfl ?_
  refine ast_row (pc := 27) dX1_putBack_27 (by rw [h40]; exact vp_in_nI (by omega) (by decide)) ?_
  exact e_vret (pc := 28) dX1_putBack_28 rfl (Nat.le_refl _) (Nat.le_refl _) ⟨rfl, mc_up c 5 ((c 5).set j x), ⟨hT, hK, hc3, h48, by show ((c 5).set j x).length = 40; rw [List.length_set]; exact h40, hr⟩, ⟨rfl, rfl, rfl⟩, hF.set hj rfl, by rw [nIc (by omega)]⟩
theorem sp_x_slipAt {s u m n : Nat → Int32} {a c b d : Nat → List Int32} {q : List (Option Nat)} {h : Nat} {z : mc_W} {K mo nu ba ye : Int32} {sg : Nat → List Int32} {xs : List Int32} {i : Int32} {j : Nat} (hH : xHd q z h u c K mo nu ba ye sg) (hF : xRw u c xs) (hi : i = nI j) (hj : j < xs.length) : mc_T yX1_slipAt cX1_slipAt 3 none 3 [.ref 17, .int i] (WW s a q u c h m b n d z) none (fun w1 => ∃ c1, xHd q z h u c1 K mo nu ba ye sg ∧ xKc c c1 ∧ xRw u c1 (xs.set j (xsd (yy_fg K mo ba) (xs.getD j 0))) ∧ w1 = (WW s a q u c1 h m b n d z)) := by
  refine mc_start (own := RX1) (ini := false) rfl (by decide +kernel) (fun h => by cases h) (Nat.le_of_ble_eq_true rfl) ?_
  show mc_E _ _ _ _ _ [some (.ref 17), some (.int i), none] [] _ _ _
  refine e_aloadn (pc := 0) dX1_slipAt_0 rfl ?_
  refine e_iloadn (pc := 1) dX1_slipAt_1 rfl ?_
  refine e_cvD (pc := 2) (sp_x_written hF hi hj) dX1_slipAt_2 kX1_71 rfl rfl rfl rfl rfl (mc_CR_of (Nat.le_of_ble_eq_true rfl) (Nat.le_of_ble_eq_true rfl) (Nat.le_refl _) (Nat.le_refl _)) (Nat.le_of_ble_eq_true rfl) ?_
  refine e_isn2 (pc := 5) dX1_slipAt_5 (Nat.le_of_ble_eq_true rfl) rfl ?_
  refine e_aloadn (pc := 6) dX1_slipAt_6 rfl ?_
  refine e_iloadn (pc := 7) dX1_slipAt_7 rfl ?_
  refine e_iloadn (pc := 8) dX1_slipAt_8 rfl ?_
  refine e_aloadn (pc := 9) dX1_slipAt_9 rfl ?_
  refine e_cvD (pc := 10) (sp_x_figures hH) dX1_slipAt_10 kX1_53 rfl rfl rfl rfl rfl (mc_CR_of (Nat.le_of_ble_eq_true rfl) (Nat.le_of_ble_eq_true rfl) (Nat.le_refl _) (Nat.le_refl _)) (Nat.le_of_ble_eq_true rfl) ?_
  refine e_icmp_ge (pc := 13) dX1_slipAt_13 (t := 22) (by decide) (fun c_13 => ?_) (fun c_13 => ?_)
  · skip
    refine e_iloadn (pc := 22) dX1_slipAt_22 rfl ?_
    refine e_iconst (v := 1) (pc := 23) dX1_slipAt_23 (by decide) ?_
    refine e_isub (pc := 24) dX1_slipAt_24 ?_
    refine e_cvY (pc := 25) (sp_x_putBack hH hF hi hj) dX1_slipAt_25 kX1_74 rfl rfl rfl rfl rfl (mc_CR_of (Nat.le_of_ble_eq_true rfl) (Nat.le_of_ble_eq_true rfl) (Nat.le_refl _) (Nat.le_refl _)) (Nat.le_of_ble_eq_true rfl) (fun w1 hw1 => ?_)
    obtain ⟨c1, hH1, hk1, hF1, rfl⟩ := hw1
    exact e_vret (pc := 28) dX1_slipAt_28 rfl (Nat.le_refl _) (Nat.le_refl _) ⟨rfl, c1, hH1, hk1, by unfold xsd; rw [if_neg (Int32.not_lt.mpr c_13)]; exact hF1, rfl⟩
  · skip
    refine e_iloadn (pc := 16) dX1_slipAt_16 rfl ?_
    refine e_iconst (v := 1) (pc := 17) dX1_slipAt_17 (by decide) ?_
    refine e_iadd (pc := 18) dX1_slipAt_18 ?_
    refine e_goto (pc := 19) dX1_slipAt_19 (t := 25) (by decide) ?_
    refine e_cvY (pc := 25) (sp_x_putBack hH hF hi hj) dX1_slipAt_25 kX1_74 rfl rfl rfl rfl rfl (mc_CR_of (Nat.le_of_ble_eq_true rfl) (Nat.le_of_ble_eq_true rfl) (Nat.le_refl _) (Nat.le_refl _)) (Nat.le_of_ble_eq_true rfl) (fun w1 hw1 => ?_)
    obtain ⟨c1, hH1, hk1, hF1, rfl⟩ := hw1
    exact e_vret (pc := 28) dX1_slipAt_28 rfl (Nat.le_refl _) (Nat.le_refl _) ⟨rfl, c1, hH1, hk1, by unfold xsd; rw [if_pos (Int32.not_le.mp c_13)]; exact hF1, rfl⟩
def xself (K mo ba : Int32) (xs : List Int32) : Int64 := yrd (yy_fg K mo ba) (if yy_it K = true then xs.reverse else xs)
def xabl (x : Int64) : Int64 := if 0 < x then x else -x
def xslo (K mo ba : Int32) (xs : List Int32) (i : Nat) : Int64 := xabl (xself K mo ba (xs.set i (xsd (yy_fg K mo ba) (xs.getD i 0))) - xself K mo ba xs)
def xslip (s : Nat → Int32) (a : Nat → List Int32) (sg : Nat → List Int32) (k v w : Int32) : Int64 :=
  if mc_wi k 0 (s 2 - 1) = false then -5 else if (mc_wi v 0 99999 && mc_wi w 0 1) = false then -7
  else if w = 0 then (ymost (xslo (gt (a 0) k) (gt (a 1) k) (s 0) (xwr s a sg k v)) (xwr s a sg k v).length 0 (-1) 0).1.toInt64 else (ymost (xslo (gt (a 0) k) (gt (a 1) k) (s 0) (xwr s a sg k v)) (xwr s a sg k v).length 0 (-1) 0).2
theorem set_bk (xs : List Int32) (j : Nat) (y : Int32) : (xs.set j y).set j (xs.getD j 0) = xs := by
  refine li_ext (by rw [List.length_set, List.length_set]) fun i hi => ?_
  rw [List.length_set, List.length_set] at hi
  rw [List.set_set]
  by_cases hj : j < xs.length
  · rw [gD_set hj]
    by_cases e : i = j
    · rw [if_pos e, e]
    · rw [if_neg e]
  · rw [List.set_eq_of_length_le (by omega)]
theorem lp_x_slip {s u m n : Nat → Int32} {a b d : Nat → List Int32} {q : List (Option Nat)} {h : Nat} {z : mc_W} {c0 : Nat → List Int32} {k v w K nu mm ba ye : Int32} {sg : Nat → List Int32} {xs : List Int32} {V : Int32 × Int64} (hc0 : xC c0) :
    ∀ (f i : Nat) (be : Int32) (mx : Int64) (c : Nat → List Int32) (x11 x12 : Option Value), xHd q z h u c K mm nu ba ye sg → xKc c0 c → xRw u c xs → i + f = xs.length → ymost (xslo K mm ba xs) f i be mx = V →
      mc_E RX6 cX6_slip 14 (mc_JM (some .long) false 8 0 0 (fun r' w' => r' = some (.long (if w = 0 then V.1.toInt64 else V.2)) ∧ ∃ u1 c1 h1, xC c1 ∧ w' = (WW s a q u1 c1 h1 m b n d z))) 59 [some (.ref 0), some (.int k), some (.int v), some (.int w), some (.ref 17), some (.long (xself K mm ba xs)), none, some (.int be), some (.long mx), none, some (.int (nI i)), x11, x12, none] [] (WW s a q u c h m b n d z) 0 0 := by
  intro f
  induction f with
  | zero =>
    intro i be mx c x11 x12 hH hk hF hi hV
    have h17 := hF.2.2.2
    have e : i = xs.length := by omega
    subst e
    simp only [ymost] at hV
    subst hV
    refine e_iload (pc := 59) dX6_slip_59 rfl ?_
    refine e_aload (pc := 61) dX6_slip_61 rfl ?_
    refine e_cvD (pc := 63) (sp_x_many) dX6_slip_63 kX6_138 rfl rfl rfl rfl rfl (mc_CR_of (Nat.le_of_ble_eq_true rfl) (Nat.le_of_ble_eq_true rfl) (Nat.le_refl _) (Nat.le_refl _)) (Nat.le_of_ble_eq_true rfl) ?_
    rw [hF.1]
    refine e_icmp_ge (pc := 66) dX6_slip_66 (t := 135) (by decide) (fun _ => ?_) (fun c_66 => absurd (nI_le (Nat.le_refl _) (by omega)) c_66)
    refine e_iloadn (pc := 135) dX6_slip_135 rfl ?_
    refine e_if_ne (pc := 136) dX6_slip_136 (t := 145) (by decide) (fun c_136 => ?_) (fun c_136 => ?_)
    · skip
      refine e_lload (pc := 145) dX6_slip_145 rfl ?_
      exact e_lret (pc := 147) dX6_slip_147 rfl (Nat.le_refl _) (Nat.le_refl _) ⟨by rw [if_neg c_136], u, c, h, hH.C hk hc0, rfl⟩
    · skip
      refine e_iload (pc := 139) dX6_slip_139 rfl ?_
      refine e_i2l (pc := 141) dX6_slip_141 ?_
      refine e_goto (pc := 142) dX6_slip_142 (t := 147) (by decide) ?_
      exact e_lret (pc := 147) dX6_slip_147 rfl (Nat.le_refl _) (Nat.le_refl _) ⟨by rw [if_pos c_136], u, c, h, hH.C hk hc0, rfl⟩
  | succ f ih =>
    intro i be mx c x11 x12 hH hk hF hi hV
    have h17 := hF.2.2.2
    simp only [ymost] at hV
    have hi2 : i < xs.length := by omega
    have hi3 : ∀ y, i < (xs.set i y).length := fun y => by rw [List.length_set]; exact hi2
    refine e_iload (pc := 59) dX6_slip_59 rfl ?_
    refine e_aload (pc := 61) dX6_slip_61 rfl ?_
    refine e_cvD (pc := 63) (sp_x_many) dX6_slip_63 kX6_138 rfl rfl rfl rfl rfl (mc_CR_of (Nat.le_of_ble_eq_true rfl) (Nat.le_of_ble_eq_true rfl) (Nat.le_refl _) (Nat.le_refl _)) (Nat.le_of_ble_eq_true rfl) ?_
    rw [hF.1]
    refine e_icmp_ge (pc := 66) dX6_slip_66 (t := 135) (by decide) (fun c_66 => absurd c_66 (nI_ge hi2 (by omega))) (fun _ => ?_)
    refine e_aload (pc := 69) dX6_slip_69 rfl ?_
    refine e_iload (pc := 71) dX6_slip_71 rfl ?_
    refine e_cvD (pc := 73) (sp_x_written hF rfl hi2) dX6_slip_73 kX6_141 rfl rfl rfl rfl rfl (mc_CR_of (Nat.le_of_ble_eq_true rfl) (Nat.le_of_ble_eq_true rfl) (Nat.le_refl _) (Nat.le_refl _)) (Nat.le_of_ble_eq_true rfl) ?_
    refine e_isw11 (pc := 76) dX6_slip_76 (Nat.le_of_ble_eq_true rfl) rfl ?_
    refine e_aload (pc := 78) dX6_slip_78 rfl ?_
    refine e_iload (pc := 80) dX6_slip_80 rfl ?_
    refine e_cvY (pc := 82) (sp_x_slipAt hH hF rfl hi2) dX6_slip_82 kX6_205 rfl rfl rfl rfl rfl (mc_CR_of (Nat.le_of_ble_eq_true rfl) (Nat.le_of_ble_eq_true rfl) (Nat.le_refl _) (Nat.le_refl _)) (Nat.le_of_ble_eq_true rfl) (fun w1 hw1 => ?_)
    obtain ⟨c1, hH1, hk1, hF1, rfl⟩ := hw1
    refine e_aload (pc := 85) dX6_slip_85 rfl ?_
    refine e_cvD (pc := 87) (sp_x_readHim hH1 hF1) dX6_slip_87 kX6_202 rfl rfl rfl rfl rfl (mc_CR_of (Nat.le_of_ble_eq_true rfl) (Nat.le_of_ble_eq_true rfl) (Nat.le_refl _) (Nat.le_refl _)) (Nat.le_of_ble_eq_true rfl) ?_
    refine e_lload (pc := 90) dX6_slip_90 rfl ?_
    refine e_lsub (pc := 92) dX6_slip_92 ?_
    refine e_absl (pc := 93) dX6_slip_93 mX6_183 (mc_JR_of (Nat.le_of_ble_eq_true rfl) (Nat.le_refl _) (Nat.le_refl _) (Nat.le_of_ble_eq_true rfl)) ?_
    refine e_topl (y := xslo K mm ba xs i) rfl ?_
    refine e_lsw12 (pc := 96) dX6_slip_96 (Nat.le_of_ble_eq_true rfl) rfl ?_
    refine e_aload (pc := 98) dX6_slip_98 rfl ?_
    refine e_iload (pc := 100) dX6_slip_100 rfl ?_
    refine e_iload (pc := 102) dX6_slip_102 rfl ?_
    refine e_cvY (pc := 104) (sp_x_putBack (x := xs.getD i 0) hH1 hF1 rfl (hi3 _)) dX6_slip_104 kX6_208 rfl rfl rfl rfl rfl (mc_CR_of (Nat.le_of_ble_eq_true rfl) (Nat.le_of_ble_eq_true rfl) (Nat.le_refl _) (Nat.le_refl _)) (Nat.le_of_ble_eq_true rfl) (fun w1 hw1 => ?_)
    obtain ⟨c2, hH2, hk2, hF2, rfl⟩ := hw1
    refine e_iload (pc := 107) dX6_slip_107 rfl ?_
    refine e_iconst (v := -1) (pc := 109) dX6_slip_109 (by decide) ?_
    refine e_icmp_eq (pc := 110) dX6_slip_110 (t := 121) (by decide) (fun c_110 => ?_) (fun c_110 => ?_)
    · skip
      refine e_iload (pc := 121) dX6_slip_121 rfl ?_
      refine e_isw7 (pc := 123) dX6_slip_123 (Nat.le_of_ble_eq_true rfl) rfl ?_
      refine e_lload (pc := 125) dX6_slip_125 rfl ?_
      refine e_lsw8 (pc := 127) dX6_slip_127 (Nat.le_of_ble_eq_true rfl) rfl ?_
      refine e_incC10 (pc := 129) dX6_slip_129 (nI_1 i) (Nat.le_of_ble_eq_true rfl) rfl ?_
      refine e_goto (pc := 132) dX6_slip_132 (t := 59) (by decide) ?_
      exact ih (i + 1) _ _ _ _ _ hH2 ((hk.trans hk1).trans hk2) (by have hb := hF2; rw [set_bk xs i _] at hb; exact hb) (by omega) (by rw [← hV, if_pos (Or.inl c_110)])
    · skip
      refine e_lload (pc := 113) dX6_slip_113 rfl ?_
      refine e_lload (pc := 115) dX6_slip_115 rfl ?_
      refine e_lcmp (pc := 117) dX6_slip_117 ?_
      refine e_if_le (pc := 118) dX6_slip_118 (t := 129) (by decide) (fun c_118 => ?_) (fun c_118 => ?_)
      · skip
        refine e_incC10 (pc := 129) dX6_slip_129 (nI_1 i) (Nat.le_of_ble_eq_true rfl) rfl ?_
        refine e_goto (pc := 132) dX6_slip_132 (t := 59) (by decide) ?_
        exact ih (i + 1) _ _ _ _ _ hH2 ((hk.trans hk1).trans hk2) (by have hb := hF2; rw [set_bk xs i _] at hb; exact hb) (by omega) (by rw [← hV, if_neg (fun q => q.elim c_110 (fun r => absurd (mc_cmp_gt.mpr r) (Int32.not_lt.mpr c_118)))])
      · skip
        refine e_iload (pc := 121) dX6_slip_121 rfl ?_
        refine e_isw7 (pc := 123) dX6_slip_123 (Nat.le_of_ble_eq_true rfl) rfl ?_
        refine e_lload (pc := 125) dX6_slip_125 rfl ?_
        refine e_lsw8 (pc := 127) dX6_slip_127 (Nat.le_of_ble_eq_true rfl) rfl ?_
        refine e_incC10 (pc := 129) dX6_slip_129 (nI_1 i) (Nat.le_of_ble_eq_true rfl) rfl ?_
        refine e_goto (pc := 132) dX6_slip_132 (t := 59) (by decide) ?_
        exact ih (i + 1) _ _ _ _ _ hH2 ((hk.trans hk1).trans hk2) (by have hb := hF2; rw [set_bk xs i _] at hb; exact hb) (by omega) (by rw [← hV, if_pos (Or.inr (mc_cmp_gt.mp (Int32.not_le.mp c_118)))])
theorem sp_x_slip {s u m n : Nat → Int32} {a c b d : Nat → List Int32} {q : List (Option Nat)} {h : Nat} {z : mc_W} {T : Nat} {sg : Nat → Nat → List Int32} {k v w : Int32} (hO : xOK s a q c z T sg) : mc_T yX6_slip cX6_slip 14 (some .long) 8 [.ref 0, .int k, .int v, .int w] (WW s a q u c h m b n d z) (some (.long (xslip s a (sg (tl s)) k v w))) (fun w1 => ∃ u1 c1 h1, xC c1 ∧ w1 = (WW s a q u1 c1 h1 m b n d z)) := by
  refine mc_start (own := RX6) (ini := false) rfl (by decide +kernel) (fun h => by cases h) (Nat.le_of_ble_eq_true rfl) ?_
  show mc_E _ _ _ _ _ [some (.ref 0), some (.int k), some (.int v), some (.int w), none, none, none, none, none, none, none, none, none, none] [] _ _ _
  refine e_aloadn (pc := 0) dX6_slip_0 rfl ?_
  refine e_iloadn (pc := 1) dX6_slip_1 rfl ?_
  refine e_cvD (pc := 2) (sp_x_isClerk hO.2.1) dX6_slip_2 kX6_115 rfl rfl rfl rfl rfl (mc_CR_of (Nat.le_of_ble_eq_true rfl) (Nat.le_of_ble_eq_true rfl) (Nat.le_refl _) (Nat.le_refl _)) (Nat.le_of_ble_eq_true rfl) ?_
  refine e_if_ne (pc := 5) dX6_slip_5 (t := 12) (by decide) (fun c_5 => ?_) (fun c_5 => ?_)
  · skip
    refine e_iloadn (pc := 12) dX6_slip_12 rfl ?_
    refine e_csD (pc := 13) (sp_isNumber) dX6_slip_13 kX6_118 rfl rfl (mc_CR_of (Nat.le_of_ble_eq_true rfl) (Nat.le_of_ble_eq_true rfl) (Nat.le_refl _) (Nat.le_refl _)) (Nat.le_of_ble_eq_true rfl) ?_
    refine e_if_eq (pc := 16) dX6_slip_16 (t := 26) (by decide) (fun c_16 => ?_) (fun c_16 => ?_)
    · skip
      refine e_ldc2 (pc := 26) dX6_slip_26 qX6_147 ?_
      exact e_lret (pc := 29) dX6_slip_29 rfl (Nat.le_refl _) (Nat.le_refl _) ⟨by unfold xslip; rw [if_neg (by rw [mc_b1.mp c_5]; decide), if_pos (by simp only [mc_b0, mc_b1, Bool.not_eq_false] at *; simp_all)], u, c, h, hO.2.2.2.2.2.1, rfl⟩
    · skip
      refine e_iloadn (pc := 19) dX6_slip_19 rfl ?_
      refine e_csD (pc := 20) (sp_isTwofold) dX6_slip_20 kX6_160 rfl rfl (mc_CR_of (Nat.le_of_ble_eq_true rfl) (Nat.le_of_ble_eq_true rfl) (Nat.le_refl _) (Nat.le_refl _)) (Nat.le_of_ble_eq_true rfl) ?_
      refine e_if_ne (pc := 23) dX6_slip_23 (t := 30) (by decide) (fun c_23 => ?_) (fun c_23 => ?_)
      · skip
        refine e_aloadn (pc := 30) dX6_slip_30 rfl ?_
        refine e_iloadn (pc := 31) dX6_slip_31 rfl ?_
        refine e_cvX (pc := 32) (sp_x_handOf hO (mc_b1.mp c_5)) dX6_slip_32 kX6_121 rfl rfl rfl rfl rfl (mc_CR_of (Nat.le_of_ble_eq_true rfl) (Nat.le_of_ble_eq_true rfl) (Nat.le_refl _) (Nat.le_refl _)) (Nat.le_of_ble_eq_true rfl) (fun w1 hw1 => ?_)
        obtain ⟨u1, c1, hH, hk1, rfl⟩ := hw1
        refine e_asw4 (pc := 35) dX6_slip_35 (Nat.le_of_ble_eq_true rfl) rfl ?_
        refine e_aload (pc := 37) dX6_slip_37 rfl ?_
        refine e_iloadn (pc := 39) dX6_slip_39 rfl ?_
        refine e_cvY (pc := 40) (sp_x_write hH (hH.mk (wi_num (mc_b1.mp c_16)))) dX6_slip_40 kX6_135 rfl rfl rfl rfl rfl (mc_CR_of (Nat.le_of_ble_eq_true rfl) (Nat.le_of_ble_eq_true rfl) (Nat.le_refl _) (Nat.le_refl _)) (Nat.le_of_ble_eq_true rfl) (fun w1 hw1 => ?_)
        obtain ⟨u2, c2, hH2, hk2, hF, rfl⟩ := hw1
        refine e_aload (pc := 43) dX6_slip_43 rfl ?_
        refine e_cvD (pc := 45) (sp_x_readHim hH2 hF) dX6_slip_45 kX6_202 rfl rfl rfl rfl rfl (mc_CR_of (Nat.le_of_ble_eq_true rfl) (Nat.le_of_ble_eq_true rfl) (Nat.le_refl _) (Nat.le_refl _)) (Nat.le_of_ble_eq_true rfl) ?_
        refine e_lsw5 (pc := 48) dX6_slip_48 (Nat.le_of_ble_eq_true rfl) rfl ?_
        refine e_iconst (v := -1) (pc := 50) dX6_slip_50 (by decide) ?_
        refine e_isw7 (pc := 51) dX6_slip_51 (Nat.le_of_ble_eq_true rfl) rfl ?_
        refine e_lconst (v := 0) (pc := 53) dX6_slip_53 (by decide) ?_
        refine e_lsw8 (pc := 54) dX6_slip_54 (Nat.le_of_ble_eq_true rfl) rfl ?_
        refine e_iconst (v := 0) (pc := 56) dX6_slip_56 (by decide) ?_
        refine e_isw10 (pc := 57) dX6_slip_57 (Nat.le_of_ble_eq_true rfl) rfl ?_
        have e : xslip s a (sg (tl s)) k v w = if w = 0 then (ymost (xslo (gt (a 0) k) (gt (a 1) k) (s 0) (xwr s a (sg (tl s)) k v)) (xwr s a (sg (tl s)) k v).length 0 (-1) 0).1.toInt64 else (ymost (xslo (gt (a 0) k) (gt (a 1) k) (s 0) (xwr s a (sg (tl s)) k v)) (xwr s a (sg (tl s)) k v).length 0 (-1) 0).2 := by unfold xslip; rw [if_neg (by rw [mc_b1.mp c_5]; decide), if_neg (by simp only [mc_b0, mc_b1, Bool.not_eq_false] at *; simp_all)]
        rw [e]
        exact lp_x_slip hO.2.2.2.2.2.1 _ 0 (-1) 0 c2 _ _ hH2 (hk1.trans hk2) hF (Nat.zero_add _) rfl
      · skip
        refine e_ldc2 (pc := 26) dX6_slip_26 qX6_147 ?_
        exact e_lret (pc := 29) dX6_slip_29 rfl (Nat.le_refl _) (Nat.le_refl _) ⟨by unfold xslip; rw [if_neg (by rw [mc_b1.mp c_5]; decide), if_pos (by simp only [mc_b0, mc_b1, Bool.not_eq_false] at *; simp_all)], u, c, h, hO.2.2.2.2.2.1, rfl⟩
  · skip
    refine e_ldc2 (pc := 8) dX6_slip_8 qX6_145 ?_
    exact e_lret (pc := 11) dX6_slip_11 rfl (Nat.le_refl _) (Nat.le_refl _) ⟨by unfold xslip; rw [if_pos (mc_b0.mp c_5)], u, c, h, hO.2.2.2.2.2.1, rfl⟩
