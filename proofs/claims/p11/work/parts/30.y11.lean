/-! years -/
def yab (y : Int32) : Int32 := if y < 0 then -y else y
def ylst (xs : List Int32) : Int32 := xs.getD (xs.length - 1) 0
def ylf (m : Nat → Int32) (b : Nat → List Int32) (k y : Int32) : Int32 := ylst (ywr m b k (yab y))
theorem yF_last {xs : List Int32} {n : Nat → Int32} {d : Nat → List Int32} (hF : yF xs n d) (hx : xs.length ≤ 17) (h : ¬ n 7 = 0) : vp_in (n 7 - 1) (d 3).length ∧ (d 3).getD (n 7 - 1).toNatClampNeg 0 = ylst xs := by
  obtain ⟨hD, h7, ht⟩ := hF
  have h1 : 1 ≤ xs.length := Nat.pos_of_ne_zero (fun q => h (by rw [h7, q]; rfl))
  rw [h7, nI_sub1 h1, nIc (by omega)]
  exact ⟨by rw [hD.2.2.2]; exact vp_in_nI (by omega) (by decide), tk_get ht (by omega)⟩
theorem yF_none {xs : List Int32} {n : Nat → Int32} {d : Nat → List Int32} (hF : yF xs n d) (hx : xs.length ≤ 17) (h : n 7 = 0) : ylst xs = 0 := by
  have h1 : xs.length = 0 := (nI_eq (a := xs.length) (b := 0) (by omega) (by decide)).mp (hF.2.1 ▸ h)
  rw [List.length_eq_zero_iff.mp h1]; rfl
theorem pk_addT {x y : Int32} (h1 : -2147483648 ≤ x.toInt + y.toInt) (h2 : x.toInt + y.toInt < 2147483648) : (x + y).toInt = x.toInt + y.toInt := by
  rw [Int32.toInt_add]; exact Int.bmod_eq_of_le (by omega) (by omega)
theorem pk_subT {x y : Int32} (h1 : -2147483648 ≤ x.toInt - y.toInt) (h2 : x.toInt - y.toInt < 2147483648) : (x - y).toInt = x.toInt - y.toInt := by
  rw [Int32.toInt_sub]; exact Int.bmod_eq_of_le (by omega) (by omega)
theorem pk_negT {x : Int32} (h1 : -2147483648 < x.toInt) : (-x).toInt = -x.toInt := by
  have := x.toInt_lt
  rw [Int32.toInt_neg]; exact Int.bmod_eq_of_le (by omega) (by omega)
theorem yab_num {y : Int32} (h1 : -99999 ≤ y.toInt) (h2 : y.toInt ≤ 99999) : mc_wi (yab y) 0 99999 = true := by
  have z0 : (0 : Int32).toInt = 0 := rfl
  have z9 : (99999 : Int32).toInt = 99999 := rfl
  rw [mc_wi_iff, z0, z9]
  unfold yab
  by_cases h : y < 0
  · rw [if_pos h, pk_negT (by omega)]
    rw [Int32.lt_iff_toInt_lt, z0] at h
    omega
  · rw [if_neg h]
    rw [Int32.lt_iff_toInt_lt, z0] at h
    omega
theorem yab_p {y : Int32} (h : 0 ≤ y) : yab y = y := if_neg (Int32.not_lt.mpr h)
theorem yab_n {y : Int32} (h : ¬ 0 ≤ y) : yab y = -y := if_pos (Int32.not_le.mp h)
theorem yr_bounds {y : Int32} (h : yy_yr y = true) : -999 ≤ y.toInt ∧ y.toInt ≤ 999 := by
  unfold yy_yr at h
  rw [Bool.and_eq_true, mc_wi_iff] at h
  exact h.1
theorem yr_num {y0 : Int32} (h : yy_yr y0 = true) {i : Nat} (hi : i ≤ 200) : mc_wi (yab (yy_ay (yy_az y0 + nI i))) 0 99999 = true := by
  obtain ⟨h1, h2⟩ := yr_bounds h
  have z0 : (0 : Int32).toInt = 0 := rfl
  have z1 : (1 : Int32).toInt = 1 := rfl
  have hA : -999 ≤ (yy_az y0).toInt ∧ (yy_az y0).toInt ≤ 999 := by
    unfold yy_az
    by_cases g : y0 < 0
    · rw [if_pos g]
      rw [Int32.lt_iff_toInt_lt, z0] at g
      rw [pk_addT (by rw [z1]; omega) (by rw [z1]; omega), z1]; omega
    · rw [if_neg g]; omega
  have hi2 : (nI i).toInt = i := nI_toInt (by omega)
  have hB : (yy_az y0 + nI i).toInt = (yy_az y0).toInt + i := by rw [pk_addT (by rw [hi2]; omega) (by rw [hi2]; omega), hi2]
  have hC : -1000 ≤ (yy_ay (yy_az y0 + nI i)).toInt ∧ (yy_ay (yy_az y0 + nI i)).toInt ≤ 1199 := by
    unfold yy_ay
    by_cases g : yy_az y0 + nI i < 1
    · rw [if_pos g, pk_subT (by rw [z1]; omega) (by rw [z1]; omega), z1]; omega
    · rw [if_neg g]; omega
  exact yab_num (by omega) (by omega)
theorem sp_y_lastFigure {s u m n : Nat → Int32} {a c b d : Nat → List Int32} {q : List (Option Nat)} {h : Nat} {z : mc_W} {k y : Int32} (hG : yG m b) (hk : mc_wi k 0 (m 2 - 1) = true) (hy : mc_wi (yab y) 0 99999 = true) (hD : yD d) : mc_T yX7_lastFigure cX7_lastFigure 3 (some .int) 6 [.ref 29, .int k, .int y] (WW s a q u c h m b n d z) (some (.int (ylf m b k y))) (fun w' => ∃ n1 d1, yD d1 ∧ w' = WW s a q u c h m b n1 d1 z) := by
  refine mc_start (own := RX7) (ini := false) rfl (by decide +kernel) (fun h => by cases h) (Nat.le_of_ble_eq_true rfl) ?_
  show mc_E _ _ _ _ _ [some (.ref 29), some (.int k), some (.int y)] [] _ _ _
  refine e_aloadn (pc := 0) dX7_lastFigure_0 rfl ?_
  refine e_iloadn (pc := 1) dX7_lastFigure_1 rfl ?_
  refine e_iloadn (pc := 2) dX7_lastFigure_2 rfl ?_
  refine e_if_ge (pc := 3) dX7_lastFigure_3 (t := 11) (by decide) (fun c_3 => ?_) (fun c_3 => ?_)
  · skip
    refine e_iloadn (pc := 11) dX7_lastFigure_11 rfl ?_
    refine e_cvY (pc := 12) (sp_y_writes hG.1 hG.V (hG.k0 hk) (hG.k1 hk) (hG.fg _) (hG.mk _ _ (by first | (rw [yab_p c_3] at hy; exact hy) | (rw [yab_n c_3] at hy; exact hy))) hD) dX7_lastFigure_12 kX7_186 rfl rfl rfl rfl rfl (mc_CR_of (Nat.le_of_ble_eq_true rfl) (Nat.le_of_ble_eq_true rfl) (Nat.le_refl _) (Nat.le_refl _)) (Nat.le_of_ble_eq_true rfl) (fun w1 hw1 => ?_)
    obtain ⟨n1, d1, hF1, rfl⟩ := hw1
    refine e_aloadn (pc := 15) dX7_lastFigure_15 rfl ?_
    refine e_get (pc := 16) dX7_lastFigure_16 fX7_175 rfl rfl ?_
    refine e_if_ne (pc := 19) dX7_lastFigure_19 (t := 26) (by decide) (fun c_19 => ?_) (fun c_19 => ?_)
    · skip
      refine e_aloadn (pc := 26) dX7_lastFigure_26 rfl ?_
      refine e_get (pc := 27) dX7_lastFigure_27 fX7_62 rfl rfl ?_
      refine e_aloadn (pc := 30) dX7_lastFigure_30 rfl ?_
      refine e_get (pc := 31) dX7_lastFigure_31 fX7_175 rfl rfl ?_
      refine e_iconst (v := 1) (pc := 34) dX7_lastFigure_34 (by decide) ?_
      refine e_isub (pc := 35) dX7_lastFigure_35 ?_
      refine aldv_figures (pc := 36) dX7_lastFigure_36 (yF_last hF1 (ywr_len m b k _) c_19).1 (yF_last hF1 (ywr_len m b k _) c_19).2 ?_
      exact e_iret (pc := 37) dX7_lastFigure_37 rfl (Nat.le_refl _) (Nat.le_refl _) ⟨by unfold ylf; rw [yab_p c_3], n1, d1, hF1.1, rfl⟩
    · skip
      refine e_iconst (v := 0) (pc := 22) dX7_lastFigure_22 (by decide) ?_
      refine e_goto (pc := 23) dX7_lastFigure_23 (t := 37) (by decide) ?_
      exact e_iret (pc := 37) dX7_lastFigure_37 rfl (Nat.le_refl _) (Nat.le_refl _) ⟨by unfold ylf; rw [yab_p c_3]; rw [yF_none hF1 (ywr_len m b k _) c_19], n1, d1, hF1.1, rfl⟩
  · skip
    refine e_iloadn (pc := 6) dX7_lastFigure_6 rfl ?_
    refine e_ineg (pc := 7) dX7_lastFigure_7 ?_
    refine e_goto (pc := 8) dX7_lastFigure_8 (t := 12) (by decide) ?_
    refine e_cvY (pc := 12) (sp_y_writes hG.1 hG.V (hG.k0 hk) (hG.k1 hk) (hG.fg _) (hG.mk _ _ (by first | (rw [yab_p c_3] at hy; exact hy) | (rw [yab_n c_3] at hy; exact hy))) hD) dX7_lastFigure_12 kX7_186 rfl rfl rfl rfl rfl (mc_CR_of (Nat.le_of_ble_eq_true rfl) (Nat.le_of_ble_eq_true rfl) (Nat.le_refl _) (Nat.le_refl _)) (Nat.le_of_ble_eq_true rfl) (fun w1 hw1 => ?_)
    obtain ⟨n1, d1, hF1, rfl⟩ := hw1
    refine e_aloadn (pc := 15) dX7_lastFigure_15 rfl ?_
    refine e_get (pc := 16) dX7_lastFigure_16 fX7_175 rfl rfl ?_
    refine e_if_ne (pc := 19) dX7_lastFigure_19 (t := 26) (by decide) (fun c_19 => ?_) (fun c_19 => ?_)
    · skip
      refine e_aloadn (pc := 26) dX7_lastFigure_26 rfl ?_
      refine e_get (pc := 27) dX7_lastFigure_27 fX7_62 rfl rfl ?_
      refine e_aloadn (pc := 30) dX7_lastFigure_30 rfl ?_
      refine e_get (pc := 31) dX7_lastFigure_31 fX7_175 rfl rfl ?_
      refine e_iconst (v := 1) (pc := 34) dX7_lastFigure_34 (by decide) ?_
      refine e_isub (pc := 35) dX7_lastFigure_35 ?_
      refine aldv_figures (pc := 36) dX7_lastFigure_36 (yF_last hF1 (ywr_len m b k _) c_19).1 (yF_last hF1 (ywr_len m b k _) c_19).2 ?_
      exact e_iret (pc := 37) dX7_lastFigure_37 rfl (Nat.le_refl _) (Nat.le_refl _) ⟨by unfold ylf; rw [yab_n c_3], n1, d1, hF1.1, rfl⟩
    · skip
      refine e_iconst (v := 0) (pc := 22) dX7_lastFigure_22 (by decide) ?_
      refine e_goto (pc := 23) dX7_lastFigure_23 (t := 37) (by decide) ?_
      exact e_iret (pc := 37) dX7_lastFigure_37 rfl (Nat.le_refl _) (Nat.le_refl _) ⟨by unfold ylf; rw [yab_n c_3]; rw [yF_none hF1 (ywr_len m b k _) c_19], n1, d1, hF1.1, rfl⟩
def yalf (Y L : Nat → Int32) (la : Int32) : Nat → Nat → Int32 → Int32 → Int32 × Int32
  | 0, _, cn, fi => (cn, fi)
  | f + 1, i, cn, fi => if Y i ≤ 999 ∧ L i = la then yalf Y L la f (i + 1) (cn + 1) (if cn = 0 then Y i else fi) else yalf Y L la f (i + 1) (cn + 0) fi
def yaY (m : Nat → Int32) (i : Nat) : Int32 := yy_ay (yy_az (m 1) + nI i)
def yali (m : Nat → Int32) (b : Nat → List Int32) (k yrs : Int32) : Int32 × Int32 := yalf (yaY m) (fun i => ylf m b k (yaY m i)) (ylf m b k (m 1)) (yrs.toNatClampNeg - 1) 1 0 (-100001)
def yalike (m : Nat → Int32) (b : Nat → List Int32) (k yrs w : Int32) : Int32 :=
  if mc_wi k 0 (m 2 - 1) = false then -100005 else if (mc_wi yrs 1 200 && mc_wi w 0 1) = false then -100007
  else if w = 0 then (yali m b k yrs).1 else (yali m b k yrs).2
set_option maxHeartbeats 1000000 in
theorem lp_y_alike {s u m : Nat → Int32} {a c b : Nat → List Int32} {q : List (Option Nat)} {h : Nat} {z : mc_W} {k0 w : Int32} {N : Nat} {V : Int32 × Int32} (hG : yG m b) (hc : mc_wi k0 0 (m 2 - 1) = true) (hy : yy_yr (m 1) = true) (hN : N ≤ 200) :
    ∀ (f i : Nat) (cn fi : Int32) (n : Nat → Int32) (d : Nat → List Int32) (x8 x9 : Option Value), i + f = N → yD d → yalf (yaY m) (fun i => ylf m b k0 (yaY m i)) (ylf m b k0 (m 1)) f i cn fi = V →
      mc_E RX7 cX7_alike 10 (mc_JM (some .int) false 7 0 0 (fun r' w' => r' = some (.int (if w = 0 then V.1 else V.2)) ∧ ∃ n1 d1, yD d1 ∧ w' = WW s a q u c h m b n1 d1 z)) 58 [some (.ref 29), some (.int k0), some (.int (nI N)), some (.int w), some (.int (ylf m b k0 (m 1))), some (.int cn), some (.int fi), some (.int (nI i)), x8, x9] [] (WW s a q u c h m b n d z) 0 0 := by
  intro f
  induction f with
  | zero =>
    intro i cn fi n d x8 x9 hi hD hV
    have e : i = N := by omega
    subst e
    simp only [yalf] at hV
    subst hV
    refine e_iload (pc := 58) dX7_alike_58 rfl ?_
    refine e_iloadn (pc := 60) dX7_alike_60 rfl ?_
    refine e_icmp_ge (pc := 61) dX7_alike_61 (t := 146) (by decide) (fun _ => ?_) (fun c_61 => absurd (Int32.le_refl _) c_61)
    refine e_iloadn (pc := 146) dX7_alike_146 rfl ?_
    refine e_if_ne (pc := 147) dX7_alike_147 (t := 155) (by decide) (fun c_147 => ?_) (fun c_147 => ?_)
    · skip
      refine e_iload (pc := 155) dX7_alike_155 rfl ?_
      exact e_iret (pc := 157) dX7_alike_157 rfl (Nat.le_refl _) (Nat.le_refl _) ⟨by rw [if_neg c_147], n, d, hD, rfl⟩
    · skip
      refine e_iload (pc := 150) dX7_alike_150 rfl ?_
      refine e_goto (pc := 152) dX7_alike_152 (t := 157) (by decide) ?_
      exact e_iret (pc := 157) dX7_alike_157 rfl (Nat.le_refl _) (Nat.le_refl _) ⟨by rw [if_pos c_147], n, d, hD, rfl⟩
  | succ f ih =>
    intro i cn fi n d x8 x9 hi hD hV
    simp only [yalf] at hV
    refine e_iload (pc := 58) dX7_alike_58 rfl ?_
    refine e_iloadn (pc := 60) dX7_alike_60 rfl ?_
    refine e_icmp_ge (pc := 61) dX7_alike_61 (t := 146) (by decide) (fun c_61 => absurd c_61 (nI_ge (by omega) (by omega))) (fun _ => ?_)
    refine e_aloadn (pc := 64) dX7_alike_64 rfl ?_
    refine e_get (pc := 65) dX7_alike_65 fX7_13 rfl rfl ?_
    refine e_csD (pc := 68) (sp_y_asIfZero) dX7_alike_68 kX7_256 rfl rfl (mc_CR_of (Nat.le_of_ble_eq_true rfl) (Nat.le_of_ble_eq_true rfl) (Nat.le_refl _) (Nat.le_refl _)) (Nat.le_of_ble_eq_true rfl) ?_
    refine e_iload (pc := 71) dX7_alike_71 rfl ?_
    refine e_iadd (pc := 73) dX7_alike_73 ?_
    refine e_csD (pc := 74) (sp_y_asYear) dX7_alike_74 kX7_260 rfl rfl (mc_CR_of (Nat.le_of_ble_eq_true rfl) (Nat.le_of_ble_eq_true rfl) (Nat.le_refl _) (Nat.le_refl _)) (Nat.le_of_ble_eq_true rfl) ?_
    refine e_isw8 (pc := 77) dX7_alike_77 (Nat.le_of_ble_eq_true rfl) rfl ?_
    refine e_iload (pc := 79) dX7_alike_79 rfl ?_
    refine e_sipush (v := 999) (pc := 81) dX7_alike_81 (by decide) ?_
    refine e_icmp_gt (pc := 84) dX7_alike_84 (t := 103) (by decide) (fun c_84 => ?_) (fun c_84 => ?_)
    · skip
      refine e_iconst (v := 0) (pc := 103) dX7_alike_103 (by decide) ?_
      refine e_isw9 (pc := 104) dX7_alike_104 (Nat.le_of_ble_eq_true rfl) rfl ?_
      refine e_iload (pc := 106) dX7_alike_106 rfl ?_
      refine e_if_eq (pc := 108) dX7_alike_108 (t := 121) (by decide) (fun _ => ?_) (fun c_108 => absurd (by decide) c_108)
      refine e_iload (pc := 121) dX7_alike_121 rfl ?_
      refine e_isw6 (pc := 123) dX7_alike_123 (Nat.le_of_ble_eq_true rfl) rfl ?_
      refine e_iload (pc := 125) dX7_alike_125 rfl ?_
      refine e_iload (pc := 127) dX7_alike_127 rfl ?_
      refine e_if_eq (pc := 129) dX7_alike_129 (t := 136) (by decide) (fun _ => ?_) (fun c_129 => absurd (by decide) c_129)
      refine e_iconst (v := 0) (pc := 136) dX7_alike_136 (by decide) ?_
      refine e_iadd (pc := 137) dX7_alike_137 ?_
      refine e_isw5 (pc := 138) dX7_alike_138 (Nat.le_of_ble_eq_true rfl) rfl ?_
      refine e_incC7 (pc := 140) dX7_alike_140 (nI_1 i) (Nat.le_of_ble_eq_true rfl) rfl ?_
      refine e_goto (pc := 143) dX7_alike_143 (t := 58) (by decide) ?_
      exact ih (i + 1) _ _ n d _ _ (by omega) hD (by rw [← hV, if_neg (fun q => absurd c_84 (Int32.not_lt.mpr q.1))] <;> rfl)
    · skip
      refine e_aloadn (pc := 87) dX7_alike_87 rfl ?_
      refine e_iloadn (pc := 88) dX7_alike_88 rfl ?_
      refine e_iload (pc := 89) dX7_alike_89 rfl ?_
      refine e_cvX (pc := 91) (sp_y_lastFigure hG hc (yr_num hy (by omega)) hD) dX7_alike_91 kX7_266 rfl rfl rfl rfl rfl (mc_CR_of (Nat.le_of_ble_eq_true rfl) (Nat.le_of_ble_eq_true rfl) (Nat.le_refl _) (Nat.le_refl _)) (Nat.le_of_ble_eq_true rfl) (fun w1 hw1 => ?_)
      obtain ⟨n1, d1, hD1, rfl⟩ := hw1
      refine e_iload (pc := 94) dX7_alike_94 rfl ?_
      refine e_icmp_ne (pc := 96) dX7_alike_96 (t := 103) (by decide) (fun c_96 => ?_) (fun c_96 => ?_)
      · skip
        refine e_iconst (v := 0) (pc := 103) dX7_alike_103 (by decide) ?_
        refine e_isw9 (pc := 104) dX7_alike_104 (Nat.le_of_ble_eq_true rfl) rfl ?_
        refine e_iload (pc := 106) dX7_alike_106 rfl ?_
        refine e_if_eq (pc := 108) dX7_alike_108 (t := 121) (by decide) (fun _ => ?_) (fun c_108 => absurd (by decide) c_108)
        refine e_iload (pc := 121) dX7_alike_121 rfl ?_
        refine e_isw6 (pc := 123) dX7_alike_123 (Nat.le_of_ble_eq_true rfl) rfl ?_
        refine e_iload (pc := 125) dX7_alike_125 rfl ?_
        refine e_iload (pc := 127) dX7_alike_127 rfl ?_
        refine e_if_eq (pc := 129) dX7_alike_129 (t := 136) (by decide) (fun _ => ?_) (fun c_129 => absurd (by decide) c_129)
        refine e_iconst (v := 0) (pc := 136) dX7_alike_136 (by decide) ?_
        refine e_iadd (pc := 137) dX7_alike_137 ?_
        refine e_isw5 (pc := 138) dX7_alike_138 (Nat.le_of_ble_eq_true rfl) rfl ?_
        refine e_incC7 (pc := 140) dX7_alike_140 (nI_1 i) (Nat.le_of_ble_eq_true rfl) rfl ?_
        refine e_goto (pc := 143) dX7_alike_143 (t := 58) (by decide) ?_
        exact ih (i + 1) _ _ n1 d1 _ _ (by omega) hD1 (by rw [← hV, if_neg (fun q => c_96 q.2)] <;> rfl)
      · skip
        refine e_iconst (v := 1) (pc := 99) dX7_alike_99 (by decide) ?_
        refine e_goto (pc := 100) dX7_alike_100 (t := 104) (by decide) ?_
        refine e_isw9 (pc := 104) dX7_alike_104 (Nat.le_of_ble_eq_true rfl) rfl ?_
        refine e_iload (pc := 106) dX7_alike_106 rfl ?_
        refine e_if_eq (pc := 108) dX7_alike_108 (t := 121) (by decide) (fun c_108 => absurd c_108 (by decide)) (fun _ => ?_)
        refine e_iload (pc := 111) dX7_alike_111 rfl ?_
        refine e_if_ne (pc := 113) dX7_alike_113 (t := 121) (by decide) (fun c_113 => ?_) (fun c_113 => ?_)
        · skip
          refine e_iload (pc := 121) dX7_alike_121 rfl ?_
          refine e_isw6 (pc := 123) dX7_alike_123 (Nat.le_of_ble_eq_true rfl) rfl ?_
          refine e_iload (pc := 125) dX7_alike_125 rfl ?_
          refine e_iload (pc := 127) dX7_alike_127 rfl ?_
          refine e_if_eq (pc := 129) dX7_alike_129 (t := 136) (by decide) (fun c_129 => absurd c_129 (by decide)) (fun _ => ?_)
          refine e_iconst (v := 1) (pc := 132) dX7_alike_132 (by decide) ?_
          refine e_goto (pc := 133) dX7_alike_133 (t := 137) (by decide) ?_
          refine e_iadd (pc := 137) dX7_alike_137 ?_
          refine e_isw5 (pc := 138) dX7_alike_138 (Nat.le_of_ble_eq_true rfl) rfl ?_
          refine e_incC7 (pc := 140) dX7_alike_140 (nI_1 i) (Nat.le_of_ble_eq_true rfl) rfl ?_
          refine e_goto (pc := 143) dX7_alike_143 (t := 58) (by decide) ?_
          exact ih (i + 1) _ _ n1 d1 _ _ (by omega) hD1 (by rw [← hV, if_pos ⟨Int32.not_lt.mp c_84, c_96⟩, if_neg c_113] <;> rfl)
        · skip
          refine e_iload (pc := 116) dX7_alike_116 rfl ?_
          refine e_goto (pc := 118) dX7_alike_118 (t := 123) (by decide) ?_
          refine e_isw6 (pc := 123) dX7_alike_123 (Nat.le_of_ble_eq_true rfl) rfl ?_
          refine e_iload (pc := 125) dX7_alike_125 rfl ?_
          refine e_iload (pc := 127) dX7_alike_127 rfl ?_
          refine e_if_eq (pc := 129) dX7_alike_129 (t := 136) (by decide) (fun c_129 => absurd c_129 (by decide)) (fun _ => ?_)
          refine e_iconst (v := 1) (pc := 132) dX7_alike_132 (by decide) ?_
          refine e_goto (pc := 133) dX7_alike_133 (t := 137) (by decide) ?_
          refine e_iadd (pc := 137) dX7_alike_137 ?_
          refine e_isw5 (pc := 138) dX7_alike_138 (Nat.le_of_ble_eq_true rfl) rfl ?_
          refine e_incC7 (pc := 140) dX7_alike_140 (nI_1 i) (Nat.le_of_ble_eq_true rfl) rfl ?_
          refine e_goto (pc := 143) dX7_alike_143 (t := 58) (by decide) ?_
          exact ih (i + 1) _ _ n1 d1 _ _ (by omega) hD1 (by rw [← hV, if_pos ⟨Int32.not_lt.mp c_84, c_96⟩, if_pos c_113] <;> rfl)
theorem sp_y_alike {s u m n : Nat → Int32} {a c b d : Nat → List Int32} {q : List (Option Nat)} {h : Nat} {z : mc_W} {k yrs w : Int32} (hG : yG m b) (hy : yy_yr (m 1) = true) (hD : yD d) : mc_T yX7_alike cX7_alike 10 (some .int) 7 [.ref 29, .int k, .int yrs, .int w] (WW s a q u c h m b n d z) (some (.int (yalike m b k yrs w))) (fun w' => ∃ n1 d1, yD d1 ∧ w' = WW s a q u c h m b n1 d1 z) := by
  refine mc_start (own := RX7) (ini := false) rfl (by decide +kernel) (fun h => by cases h) (Nat.le_of_ble_eq_true rfl) ?_
  show mc_E _ _ _ _ _ [some (.ref 29), some (.int k), some (.int yrs), some (.int w), none, none, none, none, none, none] [] _ _ _
  refine e_aloadn (pc := 0) dX7_alike_0 rfl ?_
  refine e_iloadn (pc := 1) dX7_alike_1 rfl ?_
  refine e_cvD (pc := 2) (sp_y_isClerk) dX7_alike_2 kX7_159 rfl rfl rfl rfl rfl (mc_CR_of (Nat.le_of_ble_eq_true rfl) (Nat.le_of_ble_eq_true rfl) (Nat.le_refl _) (Nat.le_refl _)) (Nat.le_of_ble_eq_true rfl) ?_
  refine e_if_ne (pc := 5) dX7_alike_5 (t := 12) (by decide) (fun c_5 => ?_) (fun c_5 => ?_)
  · skip
    refine e_iloadn (pc := 12) dX7_alike_12 rfl ?_
    refine e_iconst (v := 1) (pc := 13) dX7_alike_13 (by decide) ?_
    refine e_sipush (v := 200) (pc := 14) dX7_alike_14 (by decide) ?_
    refine e_csD (pc := 17) (sp_y_in) dX7_alike_17 kX7_75 rfl rfl (mc_CR_of (Nat.le_of_ble_eq_true rfl) (Nat.le_of_ble_eq_true rfl) (Nat.le_refl _) (Nat.le_refl _)) (Nat.le_of_ble_eq_true rfl) ?_
    refine e_if_eq (pc := 20) dX7_alike_20 (t := 32) (by decide) (fun c_20 => ?_) (fun c_20 => ?_)
    · skip
      refine e_ldcw (pc := 32) dX7_alike_32 qX7_265 ?_
      exact e_iret (pc := 35) dX7_alike_35 rfl (Nat.le_refl _) (Nat.le_refl _) ⟨(by (try simp only [mc_cmp_le, mc_cmp_ge, mc_cmp_eq, mc_cmp_lt, mc_cmp_gt, mc_b0, mc_b1, Bool.not_eq_false, Bool.not_eq_true] at c_5 c_20); first | rfl | (simp [yalike, c_5, c_20]; done) | ((try simp only [← Int32.not_lt, ← Int64.not_lt, Classical.not_not] at c_5 c_20); simp [yalike, c_5, c_20])), n, d, hD, rfl⟩
    · skip
      refine e_iloadn (pc := 23) dX7_alike_23 rfl ?_
      refine e_iconst (v := 0) (pc := 24) dX7_alike_24 (by decide) ?_
      refine e_iconst (v := 1) (pc := 25) dX7_alike_25 (by decide) ?_
      refine e_csD (pc := 26) (sp_y_in) dX7_alike_26 kX7_75 rfl rfl (mc_CR_of (Nat.le_of_ble_eq_true rfl) (Nat.le_of_ble_eq_true rfl) (Nat.le_refl _) (Nat.le_refl _)) (Nat.le_of_ble_eq_true rfl) ?_
      refine e_if_ne (pc := 29) dX7_alike_29 (t := 36) (by decide) (fun c_29 => ?_) (fun c_29 => ?_)
      · skip
        refine e_aloadn (pc := 36) dX7_alike_36 rfl ?_
        refine e_iloadn (pc := 37) dX7_alike_37 rfl ?_
        refine e_aloadn (pc := 38) dX7_alike_38 rfl ?_
        refine e_get (pc := 39) dX7_alike_39 fX7_13 rfl rfl ?_
        refine e_cvX (pc := 42) (sp_y_lastFigure hG (mc_b1.mp c_5) (yab_num (by have := yr_bounds hy; omega) (by have := yr_bounds hy; omega)) hD) dX7_alike_42 kX7_266 rfl rfl rfl rfl rfl (mc_CR_of (Nat.le_of_ble_eq_true rfl) (Nat.le_of_ble_eq_true rfl) (Nat.le_refl _) (Nat.le_refl _)) (Nat.le_of_ble_eq_true rfl) (fun w1 hw1 => ?_)
        obtain ⟨n1, d1, hD1, rfl⟩ := hw1
        refine e_isw4 (pc := 45) dX7_alike_45 (Nat.le_of_ble_eq_true rfl) rfl ?_
        refine e_iconst (v := 0) (pc := 47) dX7_alike_47 (by decide) ?_
        refine e_isw5 (pc := 48) dX7_alike_48 (Nat.le_of_ble_eq_true rfl) rfl ?_
        refine e_ldcw (pc := 50) dX7_alike_50 qX7_263 ?_
        refine e_isw6 (pc := 53) dX7_alike_53 (Nat.le_of_ble_eq_true rfl) rfl ?_
        refine e_iconst (v := 1) (pc := 55) dX7_alike_55 (by decide) ?_
        refine e_isw7 (pc := 56) dX7_alike_56 (Nat.le_of_ble_eq_true rfl) rfl ?_
        have q20 : mc_wi yrs 1 200 = true := by simpa [mc_b0] using c_20
        have hb := mc_wi_iff.mp q20
        have z1 : (1 : Int32).toInt = 1 := rfl
        have z2 : (200 : Int32).toInt = 200 := rfl
        rw [z1, z2] at hb
        have e := nI_back (x := yrs) (by omega)
        have t := tnc (x := yrs) (by omega)
        have K := lp_y_alike (s := s) (a := a) (q := q) (u := u) (c := c) (h := h) (z := z) (w := w) (N := yrs.toNatClampNeg) hG (mc_b1.mp c_5) hy (by omega) (yrs.toNatClampNeg - 1) 1 0 (-100001) n1 d1 none none (by omega) hD1 rfl
        rw [← e] at K
        unfold yalike
        rw [if_neg (c := mc_wi k 0 (m 2 - 1) = false) (by simp [mc_b1.mp c_5]), if_neg (c := (mc_wi yrs 1 200 && mc_wi w 0 1) = false) (by simp [mc_b1.mp c_29, q20])]
        exact K
      · skip
        refine e_ldcw (pc := 32) dX7_alike_32 qX7_265 ?_
        exact e_iret (pc := 35) dX7_alike_35 rfl (Nat.le_refl _) (Nat.le_refl _) ⟨(by (try simp only [mc_cmp_le, mc_cmp_ge, mc_cmp_eq, mc_cmp_lt, mc_cmp_gt, mc_b0, mc_b1, Bool.not_eq_false, Bool.not_eq_true] at c_5 c_20 c_29); first | rfl | (simp [yalike, c_5, c_20, c_29]; done) | ((try simp only [← Int32.not_lt, ← Int64.not_lt, Classical.not_not] at c_5 c_20 c_29); simp [yalike, c_5, c_20, c_29])), n, d, hD, rfl⟩
  · skip
    refine e_ldcw (pc := 8) dX7_alike_8 qX7_264 ?_
    exact e_iret (pc := 11) dX7_alike_11 rfl (Nat.le_refl _) (Nat.le_refl _) ⟨(by (try simp only [mc_cmp_le, mc_cmp_ge, mc_cmp_eq, mc_cmp_lt, mc_cmp_gt, mc_b0, mc_b1, Bool.not_eq_false, Bool.not_eq_true] at c_5); first | rfl | (simp [yalike, c_5]; done) | ((try simp only [← Int32.not_lt, ← Int64.not_lt, Classical.not_not] at c_5); simp [yalike, c_5])), n, d, hD, rfl⟩
