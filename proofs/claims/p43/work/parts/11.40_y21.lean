section Zj_40_y21
/-! clerks out of a sheet -/
theorem ckb_8 {m : Nat → Int32} {b : Nat → List Int32} {k mo : Int32} : (yy_ckb m b k mo) 7 = b 7 ∧ (yy_ckb m b k mo) 8 = b 8 ∧ (yy_ckb m b k mo) 9 = b 9 := by
  unfold yy_ckb
  split <;> exact ⟨rfl, rfl, rfl⟩
theorem yL_ck {m : Nat → Int32} {b : Nat → List Int32} {k mo : Int32} (h : yL b) : yL (yy_ckb m b k mo) := by
  unfold yy_ckb
  split
  · exact ⟨by show ((b 0).set _ _).length = 5; rw [List.length_set]; exact h.1, by show ((b 1).set _ _).length = 5; rw [List.length_set]; exact h.2.1, h.2.2.1, h.2.2.2.1, h.2.2.2.2.1, h.2.2.2.2.2.1, h.2.2.2.2.2.2.1, h.2.2.2.2.2.2.2.1, h.2.2.2.2.2.2.2.2.1, h.2.2.2.2.2.2.2.2.2⟩
  · exact h
theorem yC_ck {m : Nat → Int32} {k mo : Int32} (h : yC m) : yC (yy_ckm m k mo) := by
  unfold yy_ckm
  split
  · rename_i g
    have h5 : ¬ (m 2).toInt = 5 := fun q => g.2 (Int32.toInt_inj.mp q)
    have h1 : (1 : Int32).toInt = 1 := rfl
    obtain ⟨ha, hb⟩ := h
    show 0 ≤ (m 2 + 1).toInt ∧ (m 2 + 1).toInt ≤ 5
    rw [pk_addT (by omega) (by omega)]
    omega
  · exact h
theorem ySh_ck {m : Nat → Int32} {b : Nat → List Int32} {k mo : Int32} (h : ySh b) : ySh (yy_ckb m b k mo) := by
  unfold ySh
  rw [ckb_8.1, ckb_8.2.1]
  exact h
def ycw (b : Nat → List Int32) (s fr : Int32) (k : Nat) : Prop := fr < 0 ∨ fr + 2 * nI k < fr ∨ gt (b 8) s - 2 < fr + 2 * nI k
def ycb (s fr : Int32) : Nat → Nat → Int32 → (Nat → Int32) → (Nat → List Int32) → Int32 × (Nat → Int32) × (Nat → List Int32)
  | 0, _, S, m, b => (S, m, b)
  | g + 1, k, S, m, b => if fr < 0 ∨ fr + 2 * nI k < fr ∨ gt (b 8) s - 2 < fr + 2 * nI k then (-12, m, b)
      else ycb s fr g (k + 1) (S + (if yy_ck1 m (gt (b 9) (40 * s + (fr + 2 * nI k))) (gt (b 9) (40 * s + (fr + 2 * nI k) + 1)) < 0 then 0 else 1))
        (yy_ckm m (gt (b 9) (40 * s + (fr + 2 * nI k))) (gt (b 9) (40 * s + (fr + 2 * nI k) + 1))) (yy_ckb m b (gt (b 9) (40 * s + (fr + 2 * nI k))) (gt (b 9) (40 * s + (fr + 2 * nI k) + 1)))
def ycby (m : Nat → Int32) (b : Nat → List Int32) (s so fr k : Int32) : Int32 × (Nat → Int32) × (Nat → List Int32) :=
  if (mc_wi s 0 3 && mc_wi so 0 2 && mc_wi k 0 5) = false then (-2, m, b) else if gt (b 7) s = -1 then (-11, m, b) else if ¬ gt (b 7) s = so then (-13, m, b)
  else ycb s fr k.toNatClampNeg 0 0 m b
theorem cw_in {b : Nat → List Int32} (hL : yL b) (hS : ySh b) {s fr : Int32} (h : mc_wi s 0 3 = true) {k : Nat} (h1 : ¬ fr < 0) (h2 : ¬ fr + 2 * nI k < fr) (h3 : ¬ gt (b 8) s - 2 < fr + 2 * nI k) : vp_in (40 * s + (fr + 2 * nI k)) (b 9).length ∧ vp_in (40 * s + (fr + 2 * nI k) + 1) (b 9).length := by
  obtain ⟨σ, sz, h4, rfl, hz, e⟩ := sh_size hS h
  generalize fr + 2 * nI k = t at h2 h3
  have z0 : (0 : Int32).toInt = 0 := rfl
  have z2 : (2 : Int32).toInt = 2 := rfl
  have ts := nI_toInt (n := sz) (by omega)
  rw [e, Int32.lt_iff_toInt_lt, pk_subT (by omega) (by omega), ts, z2] at h3
  rw [Int32.lt_iff_toInt_lt] at h2
  rw [Int32.lt_iff_toInt_lt, z0] at h1
  have et := nI_back (x := t) (by omega)
  have tt := tnc (x := t) (by omega)
  rw [et]
  generalize t.toNatClampNeg = T at et tt
  have ea : 40 * nI σ + nI T = nI (40 * σ + T) := by rw [show (40 : Int32) * nI σ = nI (40 * σ) from pk_mul 40 σ, nI_add]
  rw [ea, nI_1, hL.2.2.2.2.2.2.2.2.2]
  exact ⟨vp_in_nI (by omega) (by decide), vp_in_nI (by omega) (by decide)⟩
theorem lp_y_cb {s u n : Nat → Int32} {a c d : Nat → List Int32} {q : List (Option Nat)} {h : Nat} {z : mc_W} {s0 so fr : Int32} {N : Nat} {V : Int32 × (Nat → Int32) × (Nat → List Int32)} (hs : mc_wi s0 0 3 = true) (hN : N ≤ 5) :
    ∀ (g k : Nat) (S : Int32) (m : Nat → Int32) (b : Nat → List Int32) (x7 x8 : Option Value), k + g = N → yL b → yC m → ySh b → ycb s0 fr g k S m b = V →
      mc_E RX7 cX7_clerksBy 9 (mc_JM (some .int) false 3 0 0 (fun r' w' => r' = some (.int V.1) ∧ w' = WW s a q u c h V.2.1 V.2.2 n d z)) 63 [some (.ref 29), some (.int s0), some (.int so), some (.int fr), some (.int (nI N)), some (.int S), some (.int (nI k)), x7, x8] [] (WW s a q u c h m b n d z) 0 0 := by
  intro g
  induction g with
  | zero =>
    intro k S m b x7 x8 hk hL hC hS hV
    have e : k = N := by omega
    subst e
    have hV : (S, m, b) = V := hV
    subst hV
    refine e_iload (pc := 63) dX7_clerksBy_63 rfl ?_
    refine e_iload (pc := 65) dX7_clerksBy_65 rfl ?_
    refine e_icmp_ge (pc := 67) dX7_clerksBy_67 (t := 152) (by decide) (fun _ => ?_) (fun c_67 => absurd (Int32.le_refl _) c_67)
    refine e_iload (pc := 152) dX7_clerksBy_152 rfl ?_
    exact e_iret (pc := 154) dX7_clerksBy_154 rfl (Nat.le_refl _) (Nat.le_refl _) ⟨rfl, rfl⟩
  | succ g ih =>
    intro k S m b x7 x8 hk hL hC hS hV
    simp only [ycb] at hV
    have h8 : vp_in s0 (b 8).length := sh8 hL hs
    refine e_iload (pc := 63) dX7_clerksBy_63 rfl ?_
    refine e_iload (pc := 65) dX7_clerksBy_65 rfl ?_
    refine e_icmp_ge (pc := 67) dX7_clerksBy_67 (t := 152) (by decide) (fun c_67 => absurd c_67 (nI_ge (by omega : k < N) (by omega))) (fun _ => ?_)
    refine e_iloadn (pc := 70) dX7_clerksBy_70 rfl ?_
    refine e_iconst (v := 2) (pc := 71) dX7_clerksBy_71 (by decide) ?_
    refine e_iload (pc := 72) dX7_clerksBy_72 rfl ?_
    refine e_imul (pc := 74) dX7_clerksBy_74 ?_
    refine e_iadd (pc := 75) dX7_clerksBy_75 ?_
    refine e_isw7 (pc := 76) dX7_clerksBy_76 (Nat.le_of_ble_eq_true rfl) rfl ?_
    refine e_iloadn (pc := 78) dX7_clerksBy_78 rfl ?_
    refine e_if_lt (pc := 79) dX7_clerksBy_79 (t := 101) (by decide) (fun c_79 => ?_) (fun c_79 => ?_)
    · skip
      refine e_bipush (v := -12) (pc := 101) dX7_clerksBy_101 (by decide) ?_
      exact e_iret (pc := 103) dX7_clerksBy_103 rfl (Nat.le_refl _) (Nat.le_refl _) (by rw [if_pos (c := fr < 0 ∨ fr + 2 * nI k < fr ∨ gt (b 8) s0 - 2 < fr + 2 * nI k) (Or.inl c_79)] at hV; subst hV; exact ⟨rfl, rfl⟩)
    · skip
      refine e_iload (pc := 82) dX7_clerksBy_82 rfl ?_
      refine e_iloadn (pc := 84) dX7_clerksBy_84 rfl ?_
      refine e_icmp_lt (pc := 85) dX7_clerksBy_85 (t := 101) (by decide) (fun c_85 => ?_) (fun c_85 => ?_)
      · skip
        refine e_bipush (v := -12) (pc := 101) dX7_clerksBy_101 (by decide) ?_
        exact e_iret (pc := 103) dX7_clerksBy_103 rfl (Nat.le_refl _) (Nat.le_refl _) (by rw [if_pos (c := fr < 0 ∨ fr + 2 * nI k < fr ∨ gt (b 8) s0 - 2 < fr + 2 * nI k) (Or.inr (Or.inl c_85))] at hV; subst hV; exact ⟨rfl, rfl⟩)
      · skip
        refine e_iload (pc := 88) dX7_clerksBy_88 rfl ?_
        refine e_aloadn (pc := 90) dX7_clerksBy_90 rfl ?_
        refine e_get (pc := 91) dX7_clerksBy_91 fX7_41 rfl rfl ?_
        refine e_iloadn (pc := 94) dX7_clerksBy_94 rfl ?_
        refine ald_sheetSize (pc := 95) dX7_clerksBy_95 h8 ?_
        refine e_iconst (v := 2) (pc := 96) dX7_clerksBy_96 (by decide) ?_
        refine e_isub (pc := 97) dX7_clerksBy_97 ?_
        refine e_icmp_le (pc := 98) dX7_clerksBy_98 (t := 104) (by decide) (fun c_98 => ?_) (fun c_98 => ?_)
        · skip
          refine e_bipush (v := 40) (pc := 104) dX7_clerksBy_104 (by decide) ?_
          refine e_iloadn (pc := 106) dX7_clerksBy_106 rfl ?_
          refine e_imul (pc := 107) dX7_clerksBy_107 ?_
          refine e_iload (pc := 108) dX7_clerksBy_108 rfl ?_
          refine e_iadd (pc := 110) dX7_clerksBy_110 ?_
          refine e_isw8 (pc := 111) dX7_clerksBy_111 (Nat.le_of_ble_eq_true rfl) rfl ?_
          refine e_iload (pc := 113) dX7_clerksBy_113 rfl ?_
          refine e_aloadn (pc := 115) dX7_clerksBy_115 rfl ?_
          refine e_aloadn (pc := 116) dX7_clerksBy_116 rfl ?_
          refine e_get (pc := 117) dX7_clerksBy_117 fX7_44 rfl rfl ?_
          refine e_iload (pc := 120) dX7_clerksBy_120 rfl ?_
          refine ald_ycells (pc := 122) dX7_clerksBy_122 (cw_in hL hS hs c_79 c_85 (Int32.not_lt.mpr c_98)).1 ?_
          refine e_aloadn (pc := 123) dX7_clerksBy_123 rfl ?_
          refine e_get (pc := 124) dX7_clerksBy_124 fX7_44 rfl rfl ?_
          refine e_iload (pc := 127) dX7_clerksBy_127 rfl ?_
          refine e_iconst (v := 1) (pc := 129) dX7_clerksBy_129 (by decide) ?_
          refine e_iadd (pc := 130) dX7_clerksBy_130 ?_
          refine ald_ycells (pc := 131) dX7_clerksBy_131 (cw_in hL hS hs c_79 c_85 (Int32.not_lt.mpr c_98)).2 ?_
          refine e_cvD (pc := 132) (sp_y_clerk hL hC) dX7_clerksBy_132 kX7_308 rfl rfl rfl rfl rfl (mc_CR_of (Nat.le_of_ble_eq_true rfl) (Nat.le_of_ble_eq_true rfl) (Nat.le_refl _) (Nat.le_refl _)) (Nat.le_of_ble_eq_true rfl) ?_
          refine e_if_lt (pc := 135) dX7_clerksBy_135 (t := 142) (by decide) (fun c_135 => ?_) (fun c_135 => ?_)
          · skip
            refine e_iconst (v := 0) (pc := 142) dX7_clerksBy_142 (by decide) ?_
            refine e_iadd (pc := 143) dX7_clerksBy_143 ?_
            refine e_isw5 (pc := 144) dX7_clerksBy_144 (Nat.le_of_ble_eq_true rfl) rfl ?_
            refine e_incC6 (pc := 146) dX7_clerksBy_146 (nI_1 k) (Nat.le_of_ble_eq_true rfl) rfl ?_
            refine e_goto (pc := 149) dX7_clerksBy_149 (t := 63) (by decide) ?_
            rw [if_neg (c := fr < 0 ∨ fr + 2 * nI k < fr ∨ gt (b 8) s0 - 2 < fr + 2 * nI k) (fun q => q.elim c_79 (fun q => q.elim c_85 (Int32.not_lt.mpr c_98))), if_pos (c := yy_ck1 m (gt (b 9) (40 * s0 + (fr + 2 * nI k))) (gt (b 9) (40 * s0 + (fr + 2 * nI k) + 1)) < 0) c_135] at hV
            exact ih (k + 1) _ _ _ _ _ (by omega) (yL_ck hL) (yC_ck hC) (ySh_ck hS) hV
          · skip
            refine e_iconst (v := 1) (pc := 138) dX7_clerksBy_138 (by decide) ?_
            refine e_goto (pc := 139) dX7_clerksBy_139 (t := 143) (by decide) ?_
            refine e_iadd (pc := 143) dX7_clerksBy_143 ?_
            refine e_isw5 (pc := 144) dX7_clerksBy_144 (Nat.le_of_ble_eq_true rfl) rfl ?_
            refine e_incC6 (pc := 146) dX7_clerksBy_146 (nI_1 k) (Nat.le_of_ble_eq_true rfl) rfl ?_
            refine e_goto (pc := 149) dX7_clerksBy_149 (t := 63) (by decide) ?_
            rw [if_neg (c := fr < 0 ∨ fr + 2 * nI k < fr ∨ gt (b 8) s0 - 2 < fr + 2 * nI k) (fun q => q.elim c_79 (fun q => q.elim c_85 (Int32.not_lt.mpr c_98))), if_neg (c := yy_ck1 m (gt (b 9) (40 * s0 + (fr + 2 * nI k))) (gt (b 9) (40 * s0 + (fr + 2 * nI k) + 1)) < 0) c_135] at hV
            exact ih (k + 1) _ _ _ _ _ (by omega) (yL_ck hL) (yC_ck hC) (ySh_ck hS) hV
        · skip
          refine e_bipush (v := -12) (pc := 101) dX7_clerksBy_101 (by decide) ?_
          exact e_iret (pc := 103) dX7_clerksBy_103 rfl (Nat.le_refl _) (Nat.le_refl _) (by rw [if_pos (c := fr < 0 ∨ fr + 2 * nI k < fr ∨ gt (b 8) s0 - 2 < fr + 2 * nI k) (Or.inr (Or.inr (Int32.not_le.mp c_98)))] at hV; subst hV; exact ⟨rfl, rfl⟩)
theorem sp_y_clerksBy {s u m n : Nat → Int32} {a c b d : Nat → List Int32} {q : List (Option Nat)} {h : Nat} {z : mc_W} {s0 so fr k : Int32} (hL : yL b) (hC : yC m) (hS : ySh b) : mc_D yX7_clerksBy cX7_clerksBy 9 (some .int) 3 [.ref 29, .int s0, .int so, .int fr, .int k] (WW s a q u c h m b n d z) (some (.int (ycby m b s0 so fr k).1)) (WW s a q u c h (ycby m b s0 so fr k).2.1 (ycby m b s0 so fr k).2.2 n d z) := by
  refine mc_start (own := RX7) (ini := false) rfl (by decide +kernel) (fun h => by cases h) (Nat.le_of_ble_eq_true rfl) ?_
  show mc_E _ _ _ _ _ [some (.ref 29), some (.int s0), some (.int so), some (.int fr), some (.int k), none, none, none, none] [] _ _ _
  refine e_iloadn (pc := 0) dX7_clerksBy_0 rfl ?_
  refine e_iconst (v := 0) (pc := 1) dX7_clerksBy_1 (by decide) ?_
  refine e_iconst (v := 3) (pc := 2) dX7_clerksBy_2 (by decide) ?_
  refine e_csD (pc := 3) (sp_y_in) dX7_clerksBy_3 kX7_75 rfl rfl (mc_CR_of (Nat.le_of_ble_eq_true rfl) (Nat.le_of_ble_eq_true rfl) (Nat.le_refl _) (Nat.le_refl _)) (Nat.le_of_ble_eq_true rfl) ?_
  refine e_if_eq (pc := 6) dX7_clerksBy_6 (t := 28) (by decide) (fun c_6 => ?_) (fun c_6 => ?_)
  · skip
    refine e_bipush (v := -2) (pc := 28) dX7_clerksBy_28 (by decide) ?_
    exact e_iret (pc := 30) dX7_clerksBy_30 rfl (Nat.le_refl _) (Nat.le_refl _) (have e0 : ycby m b s0 so fr k = (-2, m, b) := (by unfold ycby; rw [if_pos (by rw [mc_b0.mp c_6]; simp)]); by rw [e0]; exact ⟨rfl, rfl⟩)
  · skip
    refine e_iloadn (pc := 9) dX7_clerksBy_9 rfl ?_
    refine e_iconst (v := 0) (pc := 10) dX7_clerksBy_10 (by decide) ?_
    refine e_iconst (v := 2) (pc := 11) dX7_clerksBy_11 (by decide) ?_
    refine e_csD (pc := 12) (sp_y_in) dX7_clerksBy_12 kX7_75 rfl rfl (mc_CR_of (Nat.le_of_ble_eq_true rfl) (Nat.le_of_ble_eq_true rfl) (Nat.le_refl _) (Nat.le_refl _)) (Nat.le_of_ble_eq_true rfl) ?_
    refine e_if_eq (pc := 15) dX7_clerksBy_15 (t := 28) (by decide) (fun c_15 => ?_) (fun c_15 => ?_)
    · skip
      refine e_bipush (v := -2) (pc := 28) dX7_clerksBy_28 (by decide) ?_
      exact e_iret (pc := 30) dX7_clerksBy_30 rfl (Nat.le_refl _) (Nat.le_refl _) (have e0 : ycby m b s0 so fr k = (-2, m, b) := (by unfold ycby; rw [if_pos (by rw [mc_b0.mp c_15]; simp)]); by rw [e0]; exact ⟨rfl, rfl⟩)
    · skip
      refine e_iload (pc := 18) dX7_clerksBy_18 rfl ?_
      refine e_iconst (v := 0) (pc := 20) dX7_clerksBy_20 (by decide) ?_
      refine e_iconst (v := 5) (pc := 21) dX7_clerksBy_21 (by decide) ?_
      refine e_csD (pc := 22) (sp_y_in) dX7_clerksBy_22 kX7_75 rfl rfl (mc_CR_of (Nat.le_of_ble_eq_true rfl) (Nat.le_of_ble_eq_true rfl) (Nat.le_refl _) (Nat.le_refl _)) (Nat.le_of_ble_eq_true rfl) ?_
      refine e_if_ne (pc := 25) dX7_clerksBy_25 (t := 31) (by decide) (fun c_25 => ?_) (fun c_25 => ?_)
      · skip
        refine e_aloadn (pc := 31) dX7_clerksBy_31 rfl ?_
        have q6 : mc_wi s0 0 3 = true := by simpa [mc_b0] using c_6
        have q15 : mc_wi so 0 2 = true := by simpa [mc_b0] using c_15
        refine e_get (pc := 32) dX7_clerksBy_32 fX7_38 rfl rfl ?_
        refine e_iloadn (pc := 35) dX7_clerksBy_35 rfl ?_
        refine ald_sheetSort (pc := 36) dX7_clerksBy_36 (sh7 hL q6) ?_
        refine e_iconst (v := -1) (pc := 37) dX7_clerksBy_37 (by decide) ?_
        refine e_icmp_ne (pc := 38) dX7_clerksBy_38 (t := 44) (by decide) (fun c_38 => ?_) (fun c_38 => ?_)
        · skip
          refine e_aloadn (pc := 44) dX7_clerksBy_44 rfl ?_
          refine e_get (pc := 45) dX7_clerksBy_45 fX7_38 rfl rfl ?_
          refine e_iloadn (pc := 48) dX7_clerksBy_48 rfl ?_
          refine ald_sheetSort (pc := 49) dX7_clerksBy_49 (sh7 hL q6) ?_
          refine e_iloadn (pc := 50) dX7_clerksBy_50 rfl ?_
          refine e_icmp_eq (pc := 51) dX7_clerksBy_51 (t := 57) (by decide) (fun c_51 => ?_) (fun c_51 => ?_)
          · skip
            refine e_iconst (v := 0) (pc := 57) dX7_clerksBy_57 (by decide) ?_
            refine e_isw5 (pc := 58) dX7_clerksBy_58 (Nat.le_of_ble_eq_true rfl) rfl ?_
            refine e_iconst (v := 0) (pc := 60) dX7_clerksBy_60 (by decide) ?_
            refine e_isw6 (pc := 61) dX7_clerksBy_61 (Nat.le_of_ble_eq_true rfl) rfl ?_
            have z0 : (0 : Int32).toInt = 0 := rfl
            have z5 : (5 : Int32).toInt = 5 := rfl
            have hk := mc_wi_iff.mp (mc_b1.mp c_25)
            rw [z0, z5] at hk
            obtain ⟨N, hN, rfl⟩ : ∃ N : Nat, (N : Int) = k.toInt ∧ k = nI N := ⟨_, tnc hk.1, nI_back hk.1⟩
            rw [← hN] at hk
            exact lp_y_cb (s := s) (a := a) (q := q) (u := u) (c := c) (h := h) (z := z) (n := n) (d := d) (so := so) (fr := fr) (N := N) q6 (by omega) N 0 0 m b none none (by omega) hL hC hS (by unfold ycby; rw [if_neg (by simp [q6, q15, mc_b1.mp c_25]), if_neg (c := gt (b 7) s0 = -1) c_38, if_neg (c := ¬ gt (b 7) s0 = so) (fun q => q c_51), nIc (by omega)])
          · skip
            refine e_bipush (v := -13) (pc := 54) dX7_clerksBy_54 (by decide) ?_
            exact e_iret (pc := 56) dX7_clerksBy_56 rfl (Nat.le_refl _) (Nat.le_refl _) (have e0 : ycby m b s0 so fr k = (-13, m, b) := (by unfold ycby; rw [if_neg (by simp [q6, q15, mc_b1.mp c_25]), if_neg (c := gt (b 7) s0 = -1) c_38, if_pos (c := ¬ gt (b 7) s0 = so) c_51]); by rw [e0]; exact ⟨rfl, rfl⟩)
        · skip
          refine e_bipush (v := -11) (pc := 41) dX7_clerksBy_41 (by decide) ?_
          exact e_iret (pc := 43) dX7_clerksBy_43 rfl (Nat.le_refl _) (Nat.le_refl _) (have e0 : ycby m b s0 so fr k = (-11, m, b) := (by unfold ycby; rw [if_neg (by simp [q6, q15, mc_b1.mp c_25]), if_pos (c := gt (b 7) s0 = -1) c_38]); by rw [e0]; exact ⟨rfl, rfl⟩)
      · skip
        refine e_bipush (v := -2) (pc := 28) dX7_clerksBy_28 (by decide) ?_
        exact e_iret (pc := 30) dX7_clerksBy_30 rfl (Nat.le_refl _) (Nat.le_refl _) (have e0 : ycby m b s0 so fr k = (-2, m, b) := (by unfold ycby; rw [if_pos (by rw [mc_b0.mp c_25]; simp)]); by rw [e0]; exact ⟨rfl, rfl⟩)
end Zj_40_y21
section Zj_41_y22
/-! the reading of a text -/
def ysg (t : Int32) : Int32 := if t = 4 then 11 else if t = 5 then 12 else if t = 60 then 14 else if t = 61 then 15 else if t = 43 then 16 else if t = 45 then 17 else if t = 42 then 18 else -1
theorem sp_y_signOf {s u m n : Nat → Int32} {a c b d : Nat → List Int32} {q : List (Option Nat)} {h : Nat} {z : mc_W} : mc_D yX7_signOf cX7_signOf 1 (some .int) 1 [.ref 29] (WW s a q u c h m b n d z) (some (.int (ysg (n 2)))) (WW s a q u c h m b n d z) := by
  refine mc_start (own := RX7) (ini := false) rfl (by decide +kernel) (fun h => by cases h) (Nat.le_of_ble_eq_true rfl) ?_
  show mc_E _ _ _ _ _ [some (.ref 29)] [] _ _ _
  refine e_aloadn (pc := 0) dX7_signOf_0 rfl ?_
  refine e_get (pc := 1) dX7_signOf_1 fX7_99 rfl rfl ?_
  refine e_iconst (v := 4) (pc := 4) dX7_signOf_4 (by decide) ?_
  refine e_icmp_ne (pc := 5) dX7_signOf_5 (t := 13) (by decide) (fun c_5 => ?_) (fun c_5 => ?_)
  · skip
    refine e_aloadn (pc := 13) dX7_signOf_13 rfl ?_
    refine e_get (pc := 14) dX7_signOf_14 fX7_99 rfl rfl ?_
    refine e_iconst (v := 5) (pc := 17) dX7_signOf_17 (by decide) ?_
    refine e_icmp_ne (pc := 18) dX7_signOf_18 (t := 26) (by decide) (fun c_18 => ?_) (fun c_18 => ?_)
    · skip
      refine e_aloadn (pc := 26) dX7_signOf_26 rfl ?_
      refine e_get (pc := 27) dX7_signOf_27 fX7_99 rfl rfl ?_
      refine e_bipush (v := 60) (pc := 30) dX7_signOf_30 (by decide) ?_
      refine e_icmp_ne (pc := 32) dX7_signOf_32 (t := 40) (by decide) (fun c_32 => ?_) (fun c_32 => ?_)
      · skip
        refine e_aloadn (pc := 40) dX7_signOf_40 rfl ?_
        refine e_get (pc := 41) dX7_signOf_41 fX7_99 rfl rfl ?_
        refine e_bipush (v := 61) (pc := 44) dX7_signOf_44 (by decide) ?_
        refine e_icmp_ne (pc := 46) dX7_signOf_46 (t := 54) (by decide) (fun c_46 => ?_) (fun c_46 => ?_)
        · skip
          refine e_aloadn (pc := 54) dX7_signOf_54 rfl ?_
          refine e_get (pc := 55) dX7_signOf_55 fX7_99 rfl rfl ?_
          refine e_bipush (v := 43) (pc := 58) dX7_signOf_58 (by decide) ?_
          refine e_icmp_ne (pc := 60) dX7_signOf_60 (t := 68) (by decide) (fun c_60 => ?_) (fun c_60 => ?_)
          · skip
            refine e_aloadn (pc := 68) dX7_signOf_68 rfl ?_
            refine e_get (pc := 69) dX7_signOf_69 fX7_99 rfl rfl ?_
            refine e_bipush (v := 45) (pc := 72) dX7_signOf_72 (by decide) ?_
            refine e_icmp_ne (pc := 74) dX7_signOf_74 (t := 82) (by decide) (fun c_74 => ?_) (fun c_74 => ?_)
            · skip
              refine e_aloadn (pc := 82) dX7_signOf_82 rfl ?_
              refine e_get (pc := 83) dX7_signOf_83 fX7_99 rfl rfl ?_
              refine e_bipush (v := 42) (pc := 86) dX7_signOf_86 (by decide) ?_
              refine e_icmp_ne (pc := 88) dX7_signOf_88 (t := 96) (by decide) (fun c_88 => ?_) (fun c_88 => ?_)
              · skip
                refine e_iconst (v := -1) (pc := 96) dX7_signOf_96 (by decide) ?_
                exact e_iret (pc := 97) dX7_signOf_97 rfl (Nat.le_refl _) (Nat.le_refl _) ⟨(by (try simp only [mc_cmp_le, mc_cmp_ge, mc_cmp_eq, mc_cmp_lt, mc_cmp_gt, mc_b0, mc_b1, Bool.not_eq_false, Bool.not_eq_true] at c_5 c_18 c_32 c_46 c_60 c_74 c_88); first | rfl | (simp [ysg, c_5, c_18, c_32, c_46, c_60, c_74, c_88]; done) | ((try simp only [← Int32.not_lt, ← Int64.not_lt, Classical.not_not] at c_5 c_18 c_32 c_46 c_60 c_74 c_88); simp [ysg, c_5, c_18, c_32, c_46, c_60, c_74, c_88])), rfl⟩
              · skip
                refine e_bipush (v := 18) (pc := 91) dX7_signOf_91 (by decide) ?_
                refine e_goto (pc := 93) dX7_signOf_93 (t := 97) (by decide) ?_
                exact e_iret (pc := 97) dX7_signOf_97 rfl (Nat.le_refl _) (Nat.le_refl _) ⟨(by (try simp only [mc_cmp_le, mc_cmp_ge, mc_cmp_eq, mc_cmp_lt, mc_cmp_gt, mc_b0, mc_b1, Bool.not_eq_false, Bool.not_eq_true] at c_5 c_18 c_32 c_46 c_60 c_74 c_88); first | rfl | (simp [ysg, c_5, c_18, c_32, c_46, c_60, c_74, c_88]; done) | ((try simp only [← Int32.not_lt, ← Int64.not_lt, Classical.not_not] at c_5 c_18 c_32 c_46 c_60 c_74 c_88); simp [ysg, c_5, c_18, c_32, c_46, c_60, c_74, c_88])), rfl⟩
            · skip
              refine e_bipush (v := 17) (pc := 77) dX7_signOf_77 (by decide) ?_
              refine e_goto (pc := 79) dX7_signOf_79 (t := 97) (by decide) ?_
              exact e_iret (pc := 97) dX7_signOf_97 rfl (Nat.le_refl _) (Nat.le_refl _) ⟨(by (try simp only [mc_cmp_le, mc_cmp_ge, mc_cmp_eq, mc_cmp_lt, mc_cmp_gt, mc_b0, mc_b1, Bool.not_eq_false, Bool.not_eq_true] at c_5 c_18 c_32 c_46 c_60 c_74); first | rfl | (simp [ysg, c_5, c_18, c_32, c_46, c_60, c_74]; done) | ((try simp only [← Int32.not_lt, ← Int64.not_lt, Classical.not_not] at c_5 c_18 c_32 c_46 c_60 c_74); simp [ysg, c_5, c_18, c_32, c_46, c_60, c_74])), rfl⟩
          · skip
            refine e_bipush (v := 16) (pc := 63) dX7_signOf_63 (by decide) ?_
            refine e_goto (pc := 65) dX7_signOf_65 (t := 97) (by decide) ?_
            exact e_iret (pc := 97) dX7_signOf_97 rfl (Nat.le_refl _) (Nat.le_refl _) ⟨(by (try simp only [mc_cmp_le, mc_cmp_ge, mc_cmp_eq, mc_cmp_lt, mc_cmp_gt, mc_b0, mc_b1, Bool.not_eq_false, Bool.not_eq_true] at c_5 c_18 c_32 c_46 c_60); first | rfl | (simp [ysg, c_5, c_18, c_32, c_46, c_60]; done) | ((try simp only [← Int32.not_lt, ← Int64.not_lt, Classical.not_not] at c_5 c_18 c_32 c_46 c_60); simp [ysg, c_5, c_18, c_32, c_46, c_60])), rfl⟩
        · skip
          refine e_bipush (v := 15) (pc := 49) dX7_signOf_49 (by decide) ?_
          refine e_goto (pc := 51) dX7_signOf_51 (t := 97) (by decide) ?_
          exact e_iret (pc := 97) dX7_signOf_97 rfl (Nat.le_refl _) (Nat.le_refl _) ⟨(by (try simp only [mc_cmp_le, mc_cmp_ge, mc_cmp_eq, mc_cmp_lt, mc_cmp_gt, mc_b0, mc_b1, Bool.not_eq_false, Bool.not_eq_true] at c_5 c_18 c_32 c_46); first | rfl | (simp [ysg, c_5, c_18, c_32, c_46]; done) | ((try simp only [← Int32.not_lt, ← Int64.not_lt, Classical.not_not] at c_5 c_18 c_32 c_46); simp [ysg, c_5, c_18, c_32, c_46])), rfl⟩
      · skip
        refine e_bipush (v := 14) (pc := 35) dX7_signOf_35 (by decide) ?_
        refine e_goto (pc := 37) dX7_signOf_37 (t := 97) (by decide) ?_
        exact e_iret (pc := 97) dX7_signOf_97 rfl (Nat.le_refl _) (Nat.le_refl _) ⟨(by (try simp only [mc_cmp_le, mc_cmp_ge, mc_cmp_eq, mc_cmp_lt, mc_cmp_gt, mc_b0, mc_b1, Bool.not_eq_false, Bool.not_eq_true] at c_5 c_18 c_32); first | rfl | (simp [ysg, c_5, c_18, c_32]; done) | ((try simp only [← Int32.not_lt, ← Int64.not_lt, Classical.not_not] at c_5 c_18 c_32); simp [ysg, c_5, c_18, c_32])), rfl⟩
    · skip
      refine e_bipush (v := 12) (pc := 21) dX7_signOf_21 (by decide) ?_
      refine e_goto (pc := 23) dX7_signOf_23 (t := 97) (by decide) ?_
      exact e_iret (pc := 97) dX7_signOf_97 rfl (Nat.le_refl _) (Nat.le_refl _) ⟨(by (try simp only [mc_cmp_le, mc_cmp_ge, mc_cmp_eq, mc_cmp_lt, mc_cmp_gt, mc_b0, mc_b1, Bool.not_eq_false, Bool.not_eq_true] at c_5 c_18); first | rfl | (simp [ysg, c_5, c_18]; done) | ((try simp only [← Int32.not_lt, ← Int64.not_lt, Classical.not_not] at c_5 c_18); simp [ysg, c_5, c_18])), rfl⟩
  · skip
    refine e_bipush (v := 11) (pc := 8) dX7_signOf_8 (by decide) ?_
    refine e_goto (pc := 10) dX7_signOf_10 (t := 97) (by decide) ?_
    exact e_iret (pc := 97) dX7_signOf_97 rfl (Nat.le_refl _) (Nat.le_refl _) ⟨(by (try simp only [mc_cmp_le, mc_cmp_ge, mc_cmp_eq, mc_cmp_lt, mc_cmp_gt, mc_b0, mc_b1, Bool.not_eq_false, Bool.not_eq_true] at c_5); first | rfl | (simp [ysg, c_5]; done) | ((try simp only [← Int32.not_lt, ← Int64.not_lt, Classical.not_not] at c_5); simp [ysg, c_5])), rfl⟩
def ypb (m : Nat → Int32) (b : Nat → List Int32) (n : Nat → Int32) (x : Int32) : Nat → List Int32 := mc_up b 4 ((b 4).set (200 * m 4 + n 6).toNatClampNeg x)
def ypn (n : Nat → Int32) : Nat → Int32 := mc_up n 6 (n 6 + 1)
def yhn (n : Nat → Int32) : Nat → Int32 := mc_up n 4 (n 4 + 1)
def yhd (n : Nat → Int32) (d : Nat → List Int32) (x : Int32) : Nat → List Int32 := mc_up d 0 ((d 0).set (n 4).toNatClampNeg x)
theorem sp_y_puts {s u m n : Nat → Int32} {a c b d : Nat → List Int32} {q : List (Option Nat)} {h : Nat} {z : mc_W} {x : Int32} (hi : vp_in (200 * m 4 + n 6) (b 4).length) : mc_D yX7_puts cX7_puts 2 none 1 [.ref 29, .int x] (WW s a q u c h m b n d z) none (WW s a q u c h m (ypb m b n x) (ypn n) d z) := by
  refine mc_start (own := RX7) (ini := false) rfl (by decide +kernel) (fun h => by cases h) (Nat.le_of_ble_eq_true rfl) ?_
  show mc_E _ _ _ _ _ [some (.ref 29), some (.int x)] [] _ _ _
  refine e_aloadn (pc := 0) dX7_puts_0 rfl ?_
  refine e_get (pc := 1) dX7_puts_1 fX7_29 rfl rfl ?_
  refine e_sipush (v := 200) (pc := 4) dX7_puts_4 (by decide) ?_
  refine e_aloadn (pc := 7) dX7_puts_7 rfl ?_
  refine e_get (pc := 8) dX7_puts_8 fX7_80 rfl rfl ?_
  refine e_imul (pc := 11) dX7_puts_11 ?_
  refine e_aloadn (pc := 12) dX7_puts_12 rfl ?_
  refine e_get (pc := 13) dX7_puts_13 fX7_109 rfl rfl ?_
  refine e_iadd (pc := 16) dX7_puts_16 ?_
  refine e_iloadn (pc := 17) dX7_puts_17 rfl ?_
  refine ast_codes (pc := 18) dX7_puts_18 hi ?_
  refine e_aloadn (pc := 19) dX7_puts_19 rfl ?_
  refine e_dup (pc := 20) dX7_puts_20 rfl ?_
  refine e_get (pc := 21) dX7_puts_21 fX7_109 rfl rfl ?_
  refine e_iconst (v := 1) (pc := 24) dX7_puts_24 (by decide) ?_
  refine e_iadd (pc := 25) dX7_puts_25 ?_
  refine put_y_out (pc := 26) dX7_puts_26 pX7_109 ?_
  exact e_vret (pc := 29) dX7_puts_29 rfl (Nat.le_refl _) (Nat.le_refl _) ⟨rfl, rfl⟩
theorem sp_y_holds {s u m n : Nat → Int32} {a c b d : Nat → List Int32} {q : List (Option Nat)} {h : Nat} {z : mc_W} {x : Int32} (hi : vp_in (n 4) (d 0).length) : mc_D yX7_holds cX7_holds 2 none 1 [.ref 29, .int x] (WW s a q u c h m b n d z) none (WW s a q u c h m b (yhn n) (yhd n d x) z) := by
  refine mc_start (own := RX7) (ini := false) rfl (by decide +kernel) (fun h => by cases h) (Nat.le_of_ble_eq_true rfl) ?_
  show mc_E _ _ _ _ _ [some (.ref 29), some (.int x)] [] _ _ _
  refine e_aloadn (pc := 0) dX7_holds_0 rfl ?_
  refine e_get (pc := 1) dX7_holds_1 fX7_53 rfl rfl ?_
  refine e_aloadn (pc := 4) dX7_holds_4 rfl ?_
  refine e_get (pc := 5) dX7_holds_5 fX7_112 rfl rfl ?_
  refine e_iloadn (pc := 8) dX7_holds_8 rfl ?_
  refine ast_held (pc := 9) dX7_holds_9 hi ?_
  refine e_aloadn (pc := 10) dX7_holds_10 rfl ?_
  refine e_dup (pc := 11) dX7_holds_11 rfl ?_
  refine e_get (pc := 12) dX7_holds_12 fX7_112 rfl rfl ?_
  refine e_iconst (v := 1) (pc := 15) dX7_holds_15 (by decide) ?_
  refine e_iadd (pc := 16) dX7_holds_16 ?_
  refine put_y_heldMany (pc := 17) dX7_holds_17 pX7_112 ?_
  exact e_vret (pc := 20) dX7_holds_20 rfl (Nat.le_refl _) (Nat.le_refl _) ⟨rfl, rfl⟩
def yoo (n : Nat → Int32) : Nat → Int32 := if n 5 = 5 then n else yhn (mc_up n 5 (n 5 + 1))
def yod (n : Nat → Int32) (d : Nat → List Int32) (x : Int32) : Nat → List Int32 := if n 5 = 5 then d else yhd n d x
theorem sp_y_opensOne {s u m n : Nat → Int32} {a c b d : Nat → List Int32} {q : List (Option Nat)} {h : Nat} {z : mc_W} {x : Int32} (hi : ¬ n 5 = 5 → vp_in (n 4) (d 0).length) : mc_D yX7_opensOne cX7_opensOne 2 (some .boolean) 2 [.ref 29, .int x] (WW s a q u c h m b n d z) (some (.int (mc_b (n 5 != 5)))) (WW s a q u c h m b (yoo n) (yod n d x) z) := by
  refine mc_start (own := RX7) (ini := false) rfl (by decide +kernel) (fun h => by cases h) (Nat.le_of_ble_eq_true rfl) ?_
  show mc_E _ _ _ _ _ [some (.ref 29), some (.int x)] [] _ _ _
  refine e_aloadn (pc := 0) dX7_opensOne_0 rfl ?_
  refine e_get (pc := 1) dX7_opensOne_1 fX7_119 rfl rfl ?_
  refine e_iconst (v := 5) (pc := 4) dX7_opensOne_4 (by decide) ?_
  refine e_icmp_ne (pc := 5) dX7_opensOne_5 (t := 10) (by decide) (fun c_5 => ?_) (fun c_5 => ?_)
  · skip
    refine e_aloadn (pc := 10) dX7_opensOne_10 rfl ?_
    refine e_dup (pc := 11) dX7_opensOne_11 rfl ?_
    refine e_get (pc := 12) dX7_opensOne_12 fX7_119 rfl rfl ?_
    refine e_iconst (v := 1) (pc := 15) dX7_opensOne_15 (by decide) ?_
    refine e_iadd (pc := 16) dX7_opensOne_16 ?_
    refine put_y_opens (pc := 17) dX7_opensOne_17 pX7_119 ?_
    refine e_aloadn (pc := 20) dX7_opensOne_20 rfl ?_
    refine e_iloadn (pc := 21) dX7_opensOne_21 rfl ?_
    refine e_cvU (pc := 22) (sp_y_holds (n := mc_up n 5 (n 5 + 1)) (hi c_5)) dX7_opensOne_22 kX7_126 rfl rfl rfl rfl rfl (mc_CR_of (Nat.le_of_ble_eq_true rfl) (Nat.le_of_ble_eq_true rfl) (Nat.le_refl _) (Nat.le_refl _)) (Nat.le_of_ble_eq_true rfl) ?_
    refine e_iconst (v := 1) (pc := 25) dX7_opensOne_25 (by decide) ?_
    exact e_zret (pc := 26) dX7_opensOne_26 rfl (by rfl) (Nat.le_refl _) (Nat.le_refl _) ⟨by rw [show (n 5 != 5) = true by simp [c_5]]; rfl, by unfold yoo yod; rw [if_neg c_5, if_neg c_5]; rfl⟩
  · skip
    refine e_iconst (v := 0) (pc := 8) dX7_opensOne_8 (by decide) ?_
    exact e_zret (pc := 9) dX7_opensOne_9 rfl (by rfl) (Nat.le_refl _) (Nat.le_refl _) ⟨by rw [show (n 5 != 5) = false by simp [c_5]]; rfl, by unfold yoo yod; rw [if_pos c_5, if_pos c_5]⟩
def ywi (T : Nat → Int32) (fr to k : Nat) : Nat → Nat → Bool → Bool
  | 0, _, L => L
  | g + 1, i, L => if L = true then ywi T fr to k g (i + 1) (decide (ww_words.getD (8 * k + i) 0 = (if fr + i < to then T (fr + i) else 32))) else false
/-- which word stands from fr to to -/
def ywo (T : Nat → Int32) (fr to : Nat) : Nat → Nat → Nat
  | 0, _ => 12
  | g + 1, k => if ywi T fr to k 8 0 (decide (to - fr ≤ 8)) = true then k else ywo T fr to g (k + 1)
def yt3 (b : Nat → List Int32) (i : Nat) : Int32 := (b 3).getD i 0
theorem lp_y_wi {s u m n : Nat → Int32} {a c b d : Nat → List Int32} {q : List (Option Nat)} {h : Nat} {z : mc_W} {Post : Option Value → mc_W → Prop} {fr to k : Nat} {V : Bool} (hL : yL b) (hto : to ≤ 160) (hft : fr ≤ to) (hk : k < 12)
    (hK : ∀ x5, mc_E RX7 cX7_wordFrom 6 (mc_JM (some .int) false 1 0 0 Post) 88 [some (.ref 29), some (.int (nI fr)), some (.int (nI to)), some (.int (nI k)), some (.int (mc_b V)), x5] [] (WW s a q u c h m b n d z) 0 0) :
    ∀ (g i : Nat) (L : Bool), i + g = 8 → ywi (yt3 b) fr to k g i L = V →
      mc_E RX7 cX7_wordFrom 6 (mc_JM (some .int) false 1 0 0 Post) 26 [some (.ref 29), some (.int (nI fr)), some (.int (nI to)), some (.int (nI k)), some (.int (mc_b L)), some (.int (nI i))] [] (WW s a q u c h m b n d z) 0 0 := by
  intro g
  induction g with
  | zero =>
    intro i L hi hV
    have e : i = 8 := by omega
    subst e
    have hV : L = V := hV
    subst hV
    refine e_iload (pc := 26) dX7_wordFrom_26 rfl ?_
    refine e_bipush (v := 8) (pc := 28) dX7_wordFrom_28 (by decide) ?_
    refine e_icmp_ge (pc := 30) dX7_wordFrom_30 (t := 88) (by decide) (fun _ => ?_) (fun c_30 => absurd (by decide) c_30)
    exact hK _
  | succ g ih =>
    intro i L hi hV
    have hi8 : i < 8 := by omega
    cases L with
    | false =>
      have hV : false = V := hV
      subst hV
      refine e_iload (pc := 26) dX7_wordFrom_26 rfl ?_
      refine e_bipush (v := 8) (pc := 28) dX7_wordFrom_28 (by decide) ?_
      refine e_icmp_ge (pc := 30) dX7_wordFrom_30 (t := 88) (by decide) (fun c_30 => absurd c_30 (nI_ge hi8 (by decide))) (fun _ => ?_)
      refine e_iload (pc := 33) dX7_wordFrom_33 rfl ?_
      refine e_if_eq (pc := 35) dX7_wordFrom_35 (t := 88) (by decide) (fun _ => ?_) (fun c_35 => absurd rfl c_35)
      exact hK _
    | true =>
      have hV : ywi (yt3 b) fr to k g (i + 1) (decide (ww_words.getD (8 * k + i) 0 = (if fr + i < to then yt3 b (fr + i) else 32))) = V := hV
      have e8 : 8 * nI k + nI i = nI (8 * k + i) := by rw [show (8 : Int32) * nI k = nI (8 * k) from pk_mul 8 k, nI_add]
      have i8 : vp_in (8 * nI k + nI i) ww_words.length := by rw [e8]; exact vp_in_nI (show 8 * k + i < 96 by omega) (by decide)
      have eW : ww_words.getD (8 * nI k + nI i).toNatClampNeg 0 = ww_words.getD (8 * k + i) 0 := by rw [e8, nIc (by omega)]
      have ef : nI fr + nI i = nI (fr + i) := nI_add fr i
      have cf : nI to ≤ nI (fr + i) ↔ ¬ fr + i < to := ⟨fun q w => nI_ge w (by omega) q, fun q => nI_le (by omega) (by omega)⟩
      have it : fr + i < to → vp_in (nI (fr + i)) (b 3).length := fun w => by rw [hL.2.2.2.1]; exact vp_in_nI (by omega) (by decide)
      have et : (b 3).getD (nI (fr + i)).toNatClampNeg 0 = yt3 b (fr + i) := by rw [nIc (by omega)]; rfl
      refine e_iload (pc := 26) dX7_wordFrom_26 rfl ?_
      refine e_bipush (v := 8) (pc := 28) dX7_wordFrom_28 (by decide) ?_
      refine e_icmp_ge (pc := 30) dX7_wordFrom_30 (t := 88) (by decide) (fun c_30 => absurd c_30 (nI_ge hi8 (by decide))) (fun _ => ?_)
      refine e_iload (pc := 33) dX7_wordFrom_33 rfl ?_
      refine e_if_eq (pc := 35) dX7_wordFrom_35 (t := 88) (by decide) (fun c_35 => absurd c_35 (by decide)) (fun _ => ?_)
      refine e_aloadn (pc := 38) dX7_wordFrom_38 rfl ?_
      refine e_get (pc := 39) dX7_wordFrom_39 fX7_50 rfl rfl ?_
      refine e_bipush (v := 8) (pc := 42) dX7_wordFrom_42 (by decide) ?_
      refine e_iloadn (pc := 44) dX7_wordFrom_44 rfl ?_
      refine e_imul (pc := 45) dX7_wordFrom_45 ?_
      refine e_iload (pc := 46) dX7_wordFrom_46 rfl ?_
      refine e_iadd (pc := 48) dX7_wordFrom_48 ?_
      refine ald_words (pc := 49) dX7_wordFrom_49 i8 ?_
      refine e_top (eW) ?_
      refine e_iloadn (pc := 50) dX7_wordFrom_50 rfl ?_
      refine e_iload (pc := 51) dX7_wordFrom_51 rfl ?_
      refine e_iadd (pc := 53) dX7_wordFrom_53 ?_
      refine e_top (ef) ?_
      refine e_iloadn (pc := 54) dX7_wordFrom_54 rfl ?_
      refine e_icmp_ge (pc := 55) dX7_wordFrom_55 (t := 70) (by decide) (fun c_55 => ?_) (fun c_55 => ?_)
      · skip
        refine e_bipush (v := 32) (pc := 70) dX7_wordFrom_70 (by decide) ?_
        refine e_icmp_ne (pc := 72) dX7_wordFrom_72 (t := 79) (by decide) (fun c_72 => ?_) (fun c_72 => ?_)
        · skip
          refine e_iconst (v := 0) (pc := 79) dX7_wordFrom_79 (by decide) ?_
          refine e_isw4 (pc := 80) dX7_wordFrom_80 (Nat.le_of_ble_eq_true rfl) rfl ?_
          refine e_incC5 (pc := 82) dX7_wordFrom_82 (nI_1 i) (Nat.le_of_ble_eq_true rfl) rfl ?_
          refine e_goto (pc := 85) dX7_wordFrom_85 (t := 26) (by decide) ?_
          exact ih (i + 1) false (by omega) (by rw [← hV, if_neg (cf.mp c_55), decide_eq_false c_72])
        · skip
          refine e_iconst (v := 1) (pc := 75) dX7_wordFrom_75 (by decide) ?_
          refine e_goto (pc := 76) dX7_wordFrom_76 (t := 80) (by decide) ?_
          refine e_isw4 (pc := 80) dX7_wordFrom_80 (Nat.le_of_ble_eq_true rfl) rfl ?_
          refine e_incC5 (pc := 82) dX7_wordFrom_82 (nI_1 i) (Nat.le_of_ble_eq_true rfl) rfl ?_
          refine e_goto (pc := 85) dX7_wordFrom_85 (t := 26) (by decide) ?_
          exact ih (i + 1) true (by omega) (by rw [← hV, if_neg (cf.mp c_55), decide_eq_true c_72])
      · skip
        refine e_aloadn (pc := 58) dX7_wordFrom_58 rfl ?_
        refine e_get (pc := 59) dX7_wordFrom_59 fX7_26 rfl rfl ?_
        refine e_iloadn (pc := 62) dX7_wordFrom_62 rfl ?_
        refine e_iload (pc := 63) dX7_wordFrom_63 rfl ?_
        refine e_iadd (pc := 65) dX7_wordFrom_65 ?_
        refine e_top (ef) ?_
        refine aldv_ytape (pc := 66) dX7_wordFrom_66 (it (Classical.not_not.mp (fun q => c_55 (cf.mpr q)))) et ?_
        refine e_goto (pc := 67) dX7_wordFrom_67 (t := 72) (by decide) ?_
        refine e_icmp_ne (pc := 72) dX7_wordFrom_72 (t := 79) (by decide) (fun c_72 => ?_) (fun c_72 => ?_)
        · skip
          refine e_iconst (v := 0) (pc := 79) dX7_wordFrom_79 (by decide) ?_
          refine e_isw4 (pc := 80) dX7_wordFrom_80 (Nat.le_of_ble_eq_true rfl) rfl ?_
          refine e_incC5 (pc := 82) dX7_wordFrom_82 (nI_1 i) (Nat.le_of_ble_eq_true rfl) rfl ?_
          refine e_goto (pc := 85) dX7_wordFrom_85 (t := 26) (by decide) ?_
          exact ih (i + 1) false (by omega) (by rw [← hV, if_pos (Classical.not_not.mp (fun q => c_55 (cf.mpr q))), decide_eq_false c_72])
        · skip
          refine e_iconst (v := 1) (pc := 75) dX7_wordFrom_75 (by decide) ?_
          refine e_goto (pc := 76) dX7_wordFrom_76 (t := 80) (by decide) ?_
          refine e_isw4 (pc := 80) dX7_wordFrom_80 (Nat.le_of_ble_eq_true rfl) rfl ?_
          refine e_incC5 (pc := 82) dX7_wordFrom_82 (nI_1 i) (Nat.le_of_ble_eq_true rfl) rfl ?_
          refine e_goto (pc := 85) dX7_wordFrom_85 (t := 26) (by decide) ?_
          exact ih (i + 1) true (by omega) (by rw [← hV, if_pos (Classical.not_not.mp (fun q => c_55 (cf.mpr q))), decide_eq_true c_72])
theorem lp_y_wo {s u m n : Nat → Int32} {a c b d : Nat → List Int32} {q : List (Option Nat)} {h : Nat} {z : mc_W} {fr to V : Nat} (hL : yL b) (hto : to ≤ 160) (hft : fr ≤ to) :
    ∀ (g k : Nat) (x4 x5 : Option Value), k + g = 12 → ywo (yt3 b) fr to g k = V →
      mc_E RX7 cX7_wordFrom 6 (mc_JM (some .int) false 1 0 0 (fun r' w' => r' = some (.int (nI V)) ∧ w' = WW s a q u c h m b n d z)) 2 [some (.ref 29), some (.int (nI fr)), some (.int (nI to)), some (.int (nI k)), x4, x5] [] (WW s a q u c h m b n d z) 0 0 := by
  intro g
  induction g with
  | zero =>
    intro k x4 x5 hk hV
    have e : k = 12 := by omega
    subst e
    have hV : 12 = V := hV
    subst hV
    refine e_iloadn (pc := 2) dX7_wordFrom_2 rfl ?_
    refine e_bipush (v := 12) (pc := 3) dX7_wordFrom_3 (by decide) ?_
    refine e_icmp_ge (pc := 5) dX7_wordFrom_5 (t := 101) (by decide) (fun _ => ?_) (fun c_5 => absurd (by decide) c_5)
    refine e_bipush (v := 12) (pc := 101) dX7_wordFrom_101 (by decide) ?_
    exact e_iret (pc := 103) dX7_wordFrom_103 rfl (Nat.le_refl _) (Nat.le_refl _) ⟨rfl, rfl⟩
  | succ g ih =>
    intro k x4 x5 hk hV
    have hk12 : k < 12 := by omega
    have es : nI to - nI fr = nI (to - fr) := pk_sub hft
    simp only [ywo] at hV
    have MID : ∀ x5, mc_E RX7 cX7_wordFrom 6 (mc_JM (some .int) false 1 0 0 (fun r' w' => r' = some (.int (nI V)) ∧ w' = WW s a q u c h m b n d z)) 88 [some (.ref 29), some (.int (nI fr)), some (.int (nI to)), some (.int (nI k)), some (.int (mc_b (ywi (yt3 b) fr to k 8 0 (decide (to - fr ≤ 8))))), x5] [] (WW s a q u c h m b n d z) 0 0 := by
      intro x5
      refine e_iload (pc := 88) dX7_wordFrom_88 rfl ?_
      refine e_if_eq (pc := 90) dX7_wordFrom_90 (t := 95) (by decide) (fun c_90 => ?_) (fun c_90 => ?_)
      · skip
        refine e_incC3 (pc := 95) dX7_wordFrom_95 (nI_1 k) (Nat.le_of_ble_eq_true rfl) rfl ?_
        refine e_goto (pc := 98) dX7_wordFrom_98 (t := 2) (by decide) ?_
        exact ih (k + 1) _ _ (by omega) (by rw [← hV, if_neg (nbt (mc_b0.mp c_90))])
      · skip
        refine e_iloadn (pc := 93) dX7_wordFrom_93 rfl ?_
        exact e_iret (pc := 94) dX7_wordFrom_94 rfl (Nat.le_refl _) (Nat.le_refl _) ⟨by rw [← hV, if_pos (mc_b1.mp c_90)], rfl⟩
    have c8 : (8 : Int32) < nI (to - fr) ↔ ¬ to - fr ≤ 8 := by
      rw [Int32.lt_iff_toInt_lt, nI_toInt (by omega), show (8 : Int32).toInt = 8 from rfl]; omega
    refine e_iloadn (pc := 2) dX7_wordFrom_2 rfl ?_
    refine e_bipush (v := 12) (pc := 3) dX7_wordFrom_3 (by decide) ?_
    refine e_icmp_ge (pc := 5) dX7_wordFrom_5 (t := 101) (by decide) (fun c_5 => absurd c_5 (nI_ge hk12 (by decide))) (fun _ => ?_)
    refine e_iloadn (pc := 8) dX7_wordFrom_8 rfl ?_
    refine e_iloadn (pc := 9) dX7_wordFrom_9 rfl ?_
    refine e_isub (pc := 10) dX7_wordFrom_10 ?_
    refine e_top (es) ?_
    refine e_bipush (v := 8) (pc := 11) dX7_wordFrom_11 (by decide) ?_
    refine e_icmp_gt (pc := 13) dX7_wordFrom_13 (t := 20) (by decide) (fun c_13 => ?_) (fun c_13 => ?_)
    · skip
      refine e_iconst (v := 0) (pc := 20) dX7_wordFrom_20 (by decide) ?_
      refine e_isw4 (pc := 21) dX7_wordFrom_21 (Nat.le_of_ble_eq_true rfl) rfl ?_
      refine e_iconst (v := 0) (pc := 23) dX7_wordFrom_23 (by decide) ?_
      refine e_isw5 (pc := 24) dX7_wordFrom_24 (Nat.le_of_ble_eq_true rfl) rfl ?_
      exact lp_y_wi hL hto hft hk12 MID 8 0 false (by omega) (by rw [decide_eq_false (c8.mp c_13)])
    · skip
      refine e_iconst (v := 1) (pc := 16) dX7_wordFrom_16 (by decide) ?_
      refine e_goto (pc := 17) dX7_wordFrom_17 (t := 21) (by decide) ?_
      refine e_isw4 (pc := 21) dX7_wordFrom_21 (Nat.le_of_ble_eq_true rfl) rfl ?_
      refine e_iconst (v := 0) (pc := 23) dX7_wordFrom_23 (by decide) ?_
      refine e_isw5 (pc := 24) dX7_wordFrom_24 (Nat.le_of_ble_eq_true rfl) rfl ?_
      exact lp_y_wi hL hto hft hk12 MID 8 0 true (by omega) (by rw [decide_eq_true (Classical.not_not.mp (fun q => c_13 (c8.mpr q)))])
theorem sp_y_wordFrom {s u m n : Nat → Int32} {a c b d : Nat → List Int32} {q : List (Option Nat)} {h : Nat} {z : mc_W} {fr to : Nat} (hL : yL b) (hto : to ≤ 160) (hft : fr ≤ to) : mc_D yX7_wordFrom cX7_wordFrom 6 (some .int) 1 [.ref 29, .int (nI fr), .int (nI to)] (WW s a q u c h m b n d z) (some (.int (nI (ywo (yt3 b) fr to 12 0)))) (WW s a q u c h m b n d z) := by
  refine mc_start (own := RX7) (ini := false) rfl (by decide +kernel) (fun h => by cases h) (Nat.le_of_ble_eq_true rfl) ?_
  show mc_E _ _ _ _ _ [some (.ref 29), some (.int (nI fr)), some (.int (nI to)), none, none, none] [] _ _ _
  refine e_iconst (v := 0) (pc := 0) dX7_wordFrom_0 (by decide) ?_
  refine e_isn3 (pc := 1) dX7_wordFrom_1 (Nat.le_of_ble_eq_true rfl) rfl ?_
  exact lp_y_wo hL hto hft 12 0 none none (by omega) rfl
end Zj_41_y22
section Zj_42_y23
/-! the next word, number or sign -/
theorem up_ne {n : Nat → Int32} {i j : Nat} {x : Int32} (h : j ≠ i) : mc_up n i x j = n j := by unfold mc_up; rw [if_neg h]
def yws (T : Nat → Int32) (N : Nat) : Nat → Nat → Nat
  | 0, p => p
  | f + 1, p => if p < N ∧ (T p = 32 ∨ T p = 10) then yws T N f (p + 1) else p
def ylt (T : Nat → Int32) (N : Nat) : Nat → Nat → Nat
  | 0, p => p
  | f + 1, p => if p < N ∧ mc_wi (T p) 97 122 = true then ylt T N f (p + 1) else p
def yda (T : Nat → Int32) (N : Nat) : Nat → Nat → Nat → Int32 → Nat × Nat × Int32
  | 0, p, k, v => (p, k, v)
  | f + 1, p, k, v => if p < N ∧ mc_wi (T p) 48 57 = true then yda T N f (p + 1) (k + 1) (if k < 4 then 10 * v + T p - 48 else 0) else (p, k, v)
theorem yws_le (T : Nat → Int32) (N : Nat) : ∀ f p, p ≤ N → p ≤ yws T N f p ∧ yws T N f p ≤ N := by
  intro f
  induction f with
  | zero => intro p h; exact ⟨Nat.le_refl _, h⟩
  | succ f ih =>
    intro p h
    unfold yws
    split
    · rename_i g; have := ih (p + 1) (by omega); omega
    · exact ⟨Nat.le_refl _, h⟩
theorem ylt_le (T : Nat → Int32) (N : Nat) : ∀ f p, p ≤ N → p ≤ ylt T N f p ∧ ylt T N f p ≤ N := by
  intro f
  induction f with
  | zero => intro p h; exact ⟨Nat.le_refl _, h⟩
  | succ f ih =>
    intro p h
    unfold ylt
    split
    · rename_i g; have := ih (p + 1) (by omega); omega
    · exact ⟨Nat.le_refl _, h⟩
theorem ywo_le (T : Nat → Int32) (fr to : Nat) : ∀ g k, k + g ≤ 12 → ywo T fr to g k ≤ 12 := by
  intro g
  induction g with
  | zero => intro k h; exact Nat.le_refl _
  | succ g ih =>
    intro k h
    unfold ywo
    split
    · omega
    · exact ih (k + 1) (by omega)
def ysgn (x : Int32) : Bool := x == 40 || x == 41 || x == 59 || x == 43 || x == 45 || x == 42 || x == 60 || x == 61
def ynk (k : Nat) : Int32 := if k < 3 then 3 else if k < 9 then 2 else if k = 12 then -1 else 4 + nI k - 9
def ynv (k : Nat) : Int32 := if k < 3 then nI k else nI k - 3
/-- begun, at, token, value -/
def ynx (T : Nat → Int32) (N at0 : Nat) : Nat × Nat × Int32 × Int32 :=
  if yws T N (N - at0) at0 = N then (N, N, 0, 0)
  else if mc_wi (T (yws T N (N - at0) at0)) 97 122 = true then
    (yws T N (N - at0) at0, ylt T N (N - yws T N (N - at0) at0) (yws T N (N - at0) at0), ynk (ywo T (yws T N (N - at0) at0) (ylt T N (N - yws T N (N - at0) at0) (yws T N (N - at0) at0)) 12 0), ynv (ywo T (yws T N (N - at0) at0) (ylt T N (N - yws T N (N - at0) at0) (yws T N (N - at0) at0)) 12 0))
  else if mc_wi (T (yws T N (N - at0) at0)) 48 57 = true then
    (yws T N (N - at0) at0, (yda T N (N - yws T N (N - at0) at0) (yws T N (N - at0) at0) 0 0).1, (if 4 < (yda T N (N - yws T N (N - at0) at0) (yws T N (N - at0) at0) 0 0).2.1 then -1 else 1), (yda T N (N - yws T N (N - at0) at0) (yws T N (N - at0) at0) 0 0).2.2)
  else (yws T N (N - at0) at0, yws T N (N - at0) at0 + 1, (if ysgn (T (yws T N (N - at0) at0)) = true then T (yws T N (N - at0) at0) else -1), 0)
def yNx (R : Nat × Nat × Int32 × Int32) (n n1 : Nat → Int32) : Prop := n1 0 = nI R.2.1 ∧ n1 1 = nI R.1 ∧ n1 2 = R.2.2.1 ∧ n1 3 = R.2.2.2 ∧ ∀ j, 4 ≤ j → n1 j = n j
def yK (n n1 : Nat → Int32) : Prop := ∀ j, 4 ≤ j → n1 j = n j
theorem yK_up {n n1 : Nat → Int32} (h : yK n n1) {i : Nat} {x : Int32} (hi : i < 4) : yK n (mc_up n1 i x) := fun j hj => by rw [up_ne (by omega)]; exact h j hj
theorem lp_y_ws {s u m : Nat → Int32} {a c b d : Nat → List Int32} {q : List (Option Nat)} {h : Nat} {z : mc_W} {Post : Option Value → mc_W → Prop} {N P : Nat} {n0 : Nat → Int32} {x1 x2 : Option Value} (hL : yL b) (hN : m 3 = nI N) (hN2 : N ≤ 160)
    (hK : ∀ n, n 0 = nI P → yK n0 n → mc_E RX7 cX7_next 3 (mc_JM none false 2 0 0 Post) 52 [some (.ref 29), x1, x2] [] (WW s a q u c h m b n d z) 0 0) :
    ∀ (f p : Nat) (n : Nat → Int32), p + f = N → n 0 = nI p → yK n0 n → yws (yt3 b) N f p = P →
      mc_E RX7 cX7_next 3 (mc_JM none false 2 0 0 Post) 0 [some (.ref 29), x1, x2] [] (WW s a q u c h m b n d z) 0 0 := by
  intro f
  induction f with
  | zero =>
    intro p n hp h0 hk hV
    have e : p = N := by omega
    have hV : p = P := hV
    rw [hV] at h0
    refine e_aloadn (pc := 0) dX7_next_0 rfl ?_
    refine e_get (pc := 1) dX7_next_1 fX7_93 rfl rfl ?_
    refine e_top (h0) ?_
    refine e_aloadn (pc := 4) dX7_next_4 rfl ?_
    refine e_get (pc := 5) dX7_next_5 fX7_65 rfl rfl ?_
    refine e_top (hN) ?_
    refine e_icmp_ge (pc := 8) dX7_next_8 (t := 52) (by decide) (fun _ => ?_) (fun c_8 => absurd (by rw [← hV, e]; exact Int32.le_refl _) c_8)
    exact hK n h0 hk
  | succ f ih =>
    intro p n hp h0 hk hV
    simp only [yws] at hV
    have iv : p < N → vp_in (nI p) (b 3).length := fun w => by rw [hL.2.2.2.1]; exact vp_in_nI (by omega) (by decide)
    have et : (b 3).getD (nI p).toNatClampNeg 0 = yt3 b p := by rw [nIc (by omega)]; rfl
    have cp : nI N ≤ nI p ↔ ¬ p < N := ⟨fun q w => nI_ge w (by omega) q, fun q => nI_le (by omega) (by omega)⟩
    have lp : ¬ nI N ≤ nI p → p < N := fun q => Classical.not_not.mp (fun w => q (cp.mpr w))
    refine e_aloadn (pc := 0) dX7_next_0 rfl ?_
    refine e_get (pc := 1) dX7_next_1 fX7_93 rfl rfl ?_
    refine e_top (h0) ?_
    refine e_aloadn (pc := 4) dX7_next_4 rfl ?_
    refine e_get (pc := 5) dX7_next_5 fX7_65 rfl rfl ?_
    refine e_top (hN) ?_
    refine e_icmp_ge (pc := 8) dX7_next_8 (t := 52) (by decide) (fun c_8 => ?_) (fun c_8 => ?_)
    · skip
      rw [if_neg (fun q => cp.mp c_8 q.1)] at hV
      rw [hV] at h0
      exact hK n h0 hk
    · skip
      refine e_aloadn (pc := 11) dX7_next_11 rfl ?_
      refine e_get (pc := 12) dX7_next_12 fX7_26 rfl rfl ?_
      refine e_aloadn (pc := 15) dX7_next_15 rfl ?_
      refine e_get (pc := 16) dX7_next_16 fX7_93 rfl rfl ?_
      refine e_top (h0) ?_
      refine aldv_ytape (pc := 19) dX7_next_19 (iv (lp c_8)) et ?_
      refine e_bipush (v := 32) (pc := 20) dX7_next_20 (by decide) ?_
      refine e_icmp_eq (pc := 22) dX7_next_22 (t := 39) (by decide) (fun c_22 => ?_) (fun c_22 => ?_)
      · skip
        refine e_aloadn (pc := 39) dX7_next_39 rfl ?_
        refine e_dup (pc := 40) dX7_next_40 rfl ?_
        refine e_get (pc := 41) dX7_next_41 fX7_93 rfl rfl ?_
        refine e_top (h0) ?_
        refine e_iconst (v := 1) (pc := 44) dX7_next_44 (by decide) ?_
        refine e_iadd (pc := 45) dX7_next_45 ?_
        refine e_top ((nI_1 p)) ?_
        refine put_y_at (pc := 46) dX7_next_46 pX7_93 ?_
        refine e_goto (pc := 49) dX7_next_49 (t := 0) (by decide) ?_
        rw [if_pos ⟨lp c_8, Or.inl c_22⟩] at hV
        exact ih (p + 1) _ (by omega) rfl (yK_up hk (by decide)) hV
      · skip
        refine e_aloadn (pc := 25) dX7_next_25 rfl ?_
        refine e_get (pc := 26) dX7_next_26 fX7_26 rfl rfl ?_
        refine e_aloadn (pc := 29) dX7_next_29 rfl ?_
        refine e_get (pc := 30) dX7_next_30 fX7_93 rfl rfl ?_
        refine e_top (h0) ?_
        refine aldv_ytape (pc := 33) dX7_next_33 (iv (lp c_8)) et ?_
        refine e_bipush (v := 10) (pc := 34) dX7_next_34 (by decide) ?_
        refine e_icmp_ne (pc := 36) dX7_next_36 (t := 52) (by decide) (fun c_36 => ?_) (fun c_36 => ?_)
        · skip
          rw [if_neg (fun q => q.2.elim c_22 c_36)] at hV
          rw [hV] at h0
          exact hK n h0 hk
        · skip
          refine e_aloadn (pc := 39) dX7_next_39 rfl ?_
          refine e_dup (pc := 40) dX7_next_40 rfl ?_
          refine e_get (pc := 41) dX7_next_41 fX7_93 rfl rfl ?_
          refine e_top (h0) ?_
          refine e_iconst (v := 1) (pc := 44) dX7_next_44 (by decide) ?_
          refine e_iadd (pc := 45) dX7_next_45 ?_
          refine e_top ((nI_1 p)) ?_
          refine put_y_at (pc := 46) dX7_next_46 pX7_93 ?_
          refine e_goto (pc := 49) dX7_next_49 (t := 0) (by decide) ?_
          rw [if_pos ⟨lp c_8, Or.inr c_36⟩] at hV
          exact ih (p + 1) _ (by omega) rfl (yK_up hk (by decide)) hV
theorem lp_y_lt {s u m : Nat → Int32} {a c b d : Nat → List Int32} {q : List (Option Nat)} {h : Nat} {z : mc_W} {Post : Option Value → mc_W → Prop} {N P : Nat} {n0 : Nat → Int32} {n1 : Int32} {x1 x2 : Option Value} (hL : yL b) (hN : m 3 = nI N) (hN2 : N ≤ 160)
    (hK : ∀ n, n 0 = nI P → n 1 = n1 → yK n0 n → mc_E RX7 cX7_next 3 (mc_JM none false 2 0 0 Post) 146 [some (.ref 29), x1, x2] [] (WW s a q u c h m b n d z) 0 0) :
    ∀ (f p : Nat) (n : Nat → Int32), p + f = N → n 0 = nI p → n 1 = n1 → yK n0 n → ylt (yt3 b) N f p = P →
      mc_E RX7 cX7_next 3 (mc_JM none false 2 0 0 Post) 103 [some (.ref 29), x1, x2] [] (WW s a q u c h m b n d z) 0 0 := by
  intro f
  induction f with
  | zero =>
    intro p n hp h0 h1 hk hV
    have e : p = N := by omega
    have hV : p = P := hV
    rw [hV] at h0
    refine e_aloadn (pc := 103) dX7_next_103 rfl ?_
    refine e_get (pc := 104) dX7_next_104 fX7_93 rfl rfl ?_
    refine e_top (h0) ?_
    refine e_aloadn (pc := 107) dX7_next_107 rfl ?_
    refine e_get (pc := 108) dX7_next_108 fX7_65 rfl rfl ?_
    refine e_top (hN) ?_
    refine e_icmp_ge (pc := 111) dX7_next_111 (t := 146) (by decide) (fun _ => ?_) (fun c_111 => absurd (by rw [← hV, e]; exact Int32.le_refl _) c_111)
    exact hK n h0 h1 hk
  | succ f ih =>
    intro p n hp h0 h1 hk hV
    simp only [ylt] at hV
    have iv : p < N → vp_in (nI p) (b 3).length := fun w => by rw [hL.2.2.2.1]; exact vp_in_nI (by omega) (by decide)
    have et : (b 3).getD (nI p).toNatClampNeg 0 = yt3 b p := by rw [nIc (by omega)]; rfl
    have cp : nI N ≤ nI p ↔ ¬ p < N := ⟨fun q w => nI_ge w (by omega) q, fun q => nI_le (by omega) (by omega)⟩
    have lp : ¬ nI N ≤ nI p → p < N := fun q => Classical.not_not.mp (fun w => q (cp.mpr w))
    refine e_aloadn (pc := 103) dX7_next_103 rfl ?_
    refine e_get (pc := 104) dX7_next_104 fX7_93 rfl rfl ?_
    refine e_top (h0) ?_
    refine e_aloadn (pc := 107) dX7_next_107 rfl ?_
    refine e_get (pc := 108) dX7_next_108 fX7_65 rfl rfl ?_
    refine e_top (hN) ?_
    refine e_icmp_ge (pc := 111) dX7_next_111 (t := 146) (by decide) (fun c_111 => ?_) (fun c_111 => ?_)
    · skip
      rw [if_neg (fun q => cp.mp c_111 q.1)] at hV
      rw [hV] at h0
      exact hK n h0 h1 hk
    · skip
      refine e_aloadn (pc := 114) dX7_next_114 rfl ?_
      refine e_get (pc := 115) dX7_next_115 fX7_26 rfl rfl ?_
      refine e_aloadn (pc := 118) dX7_next_118 rfl ?_
      refine e_get (pc := 119) dX7_next_119 fX7_93 rfl rfl ?_
      refine e_top (h0) ?_
      refine aldv_ytape (pc := 122) dX7_next_122 (iv (lp c_111)) et ?_
      refine e_bipush (v := 97) (pc := 123) dX7_next_123 (by decide) ?_
      refine e_bipush (v := 122) (pc := 125) dX7_next_125 (by decide) ?_
      refine e_csD (pc := 127) (sp_y_in) dX7_next_127 kX7_75 rfl rfl (mc_CR_of (Nat.le_of_ble_eq_true rfl) (Nat.le_of_ble_eq_true rfl) (Nat.le_refl _) (Nat.le_refl _)) (Nat.le_of_ble_eq_true rfl) ?_
      refine e_if_eq (pc := 130) dX7_next_130 (t := 146) (by decide) (fun c_130 => ?_) (fun c_130 => ?_)
      · skip
        rw [if_neg (fun q => nbt (mc_b0.mp c_130) q.2)] at hV
        rw [hV] at h0
        exact hK n h0 h1 hk
      · skip
        refine e_aloadn (pc := 133) dX7_next_133 rfl ?_
        refine e_dup (pc := 134) dX7_next_134 rfl ?_
        refine e_get (pc := 135) dX7_next_135 fX7_93 rfl rfl ?_
        refine e_top (h0) ?_
        refine e_iconst (v := 1) (pc := 138) dX7_next_138 (by decide) ?_
        refine e_iadd (pc := 139) dX7_next_139 ?_
        refine e_top ((nI_1 p)) ?_
        refine put_y_at (pc := 140) dX7_next_140 pX7_93 ?_
        refine e_goto (pc := 143) dX7_next_143 (t := 103) (by decide) ?_
        rw [if_pos ⟨lp c_111, mc_b1.mp c_130⟩] at hV
        exact ih (p + 1) _ (by omega) rfl h1 (yK_up hk (by decide)) hV
theorem lp_y_da {s u m : Nat → Int32} {a c b d : Nat → List Int32} {q : List (Option Nat)} {h : Nat} {z : mc_W} {Post : Option Value → mc_W → Prop} {N : Nat} {P : Nat × Nat × Int32} {n0 : Nat → Int32} {n1 : Int32} {x1 : Int32} (hL : yL b) (hN : m 3 = nI N) (hN2 : N ≤ 160)
    (hK : ∀ n, n 0 = nI P.1 → n 1 = n1 → n 3 = P.2.2 → yK n0 n → mc_E RX7 cX7_next 3 (mc_JM none false 2 0 0 Post) 309 [some (.ref 29), some (.int x1), some (.int (nI P.2.1))] [] (WW s a q u c h m b n d z) 0 0) :
    ∀ (f p k : Nat) (v : Int32) (n : Nat → Int32), p + f = N → k ≤ p → n 0 = nI p → n 1 = n1 → n 3 = v → yK n0 n → yda (yt3 b) N f p k v = P →
      mc_E RX7 cX7_next 3 (mc_JM none false 2 0 0 Post) 230 [some (.ref 29), some (.int x1), some (.int (nI k))] [] (WW s a q u c h m b n d z) 0 0 := by
  intro f
  induction f with
  | zero =>
    intro p k v n hp hkp h0 h1 h3 hk hV
    have e : p = N := by omega
    have hV : (p, k, v) = P := hV
    subst hV
    refine e_aloadn (pc := 230) dX7_next_230 rfl ?_
    refine e_get (pc := 231) dX7_next_231 fX7_93 rfl rfl ?_
    refine e_top (h0) ?_
    refine e_aloadn (pc := 234) dX7_next_234 rfl ?_
    refine e_get (pc := 235) dX7_next_235 fX7_65 rfl rfl ?_
    refine e_top (hN) ?_
    refine e_icmp_ge (pc := 238) dX7_next_238 (t := 309) (by decide) (fun _ => ?_) (fun c_238 => absurd (by rw [e]; exact Int32.le_refl _) c_238)
    exact hK n h0 h1 h3 hk
  | succ f ih =>
    intro p k v n hp hkp h0 h1 h3 hk hV
    simp only [yda] at hV
    have c4 : (4 : Int32) ≤ nI k ↔ ¬ k < 4 := by
      rw [Int32.le_iff_toInt_le, nI_toInt (by omega), show (4 : Int32).toInt = 4 from rfl]; omega
    have iv : p < N → vp_in (nI p) (b 3).length := fun w => by rw [hL.2.2.2.1]; exact vp_in_nI (by omega) (by decide)
    have et : (b 3).getD (nI p).toNatClampNeg 0 = yt3 b p := by rw [nIc (by omega)]; rfl
    have cp : nI N ≤ nI p ↔ ¬ p < N := ⟨fun q w => nI_ge w (by omega) q, fun q => nI_le (by omega) (by omega)⟩
    have lp : ¬ nI N ≤ nI p → p < N := fun q => Classical.not_not.mp (fun w => q (cp.mpr w))
    refine e_aloadn (pc := 230) dX7_next_230 rfl ?_
    refine e_get (pc := 231) dX7_next_231 fX7_93 rfl rfl ?_
    refine e_top (h0) ?_
    refine e_aloadn (pc := 234) dX7_next_234 rfl ?_
    refine e_get (pc := 235) dX7_next_235 fX7_65 rfl rfl ?_
    refine e_top (hN) ?_
    refine e_icmp_ge (pc := 238) dX7_next_238 (t := 309) (by decide) (fun c_238 => ?_) (fun c_238 => ?_)
    · skip
      rw [if_neg (fun q => cp.mp c_238 q.1)] at hV
      subst hV
      exact hK n h0 h1 h3 hk
    · skip
      refine e_aloadn (pc := 241) dX7_next_241 rfl ?_
      refine e_get (pc := 242) dX7_next_242 fX7_26 rfl rfl ?_
      refine e_aloadn (pc := 245) dX7_next_245 rfl ?_
      refine e_get (pc := 246) dX7_next_246 fX7_93 rfl rfl ?_
      refine e_top (h0) ?_
      refine aldv_ytape (pc := 249) dX7_next_249 (iv (lp c_238)) et ?_
      refine e_bipush (v := 48) (pc := 250) dX7_next_250 (by decide) ?_
      refine e_bipush (v := 57) (pc := 252) dX7_next_252 (by decide) ?_
      refine e_csD (pc := 254) (sp_y_in) dX7_next_254 kX7_75 rfl rfl (mc_CR_of (Nat.le_of_ble_eq_true rfl) (Nat.le_of_ble_eq_true rfl) (Nat.le_refl _) (Nat.le_refl _)) (Nat.le_of_ble_eq_true rfl) ?_
      refine e_if_eq (pc := 257) dX7_next_257 (t := 309) (by decide) (fun c_257 => ?_) (fun c_257 => ?_)
      · skip
        rw [if_neg (fun q => nbt (mc_b0.mp c_257) q.2)] at hV
        subst hV
        exact hK n h0 h1 h3 hk
      · skip
        refine e_aloadn (pc := 260) dX7_next_260 rfl ?_
        refine e_iloadn (pc := 261) dX7_next_261 rfl ?_
        refine e_iconst (v := 4) (pc := 262) dX7_next_262 (by decide) ?_
        refine e_icmp_ge (pc := 263) dX7_next_263 (t := 289) (by decide) (fun c_263 => ?_) (fun c_263 => ?_)
        · skip
          refine e_iconst (v := 0) (pc := 289) dX7_next_289 (by decide) ?_
          refine put_y_value (pc := 290) dX7_next_290 pX7_102 ?_
          refine e_incC2 (pc := 293) dX7_next_293 (nI_1 k) (Nat.le_of_ble_eq_true rfl) rfl ?_
          refine e_aloadn (pc := 296) dX7_next_296 rfl ?_
          refine e_dup (pc := 297) dX7_next_297 rfl ?_
          refine e_get (pc := 298) dX7_next_298 fX7_93 rfl rfl ?_
          refine e_top (h0) ?_
          refine e_iconst (v := 1) (pc := 301) dX7_next_301 (by decide) ?_
          refine e_iadd (pc := 302) dX7_next_302 ?_
          refine e_top ((nI_1 p)) ?_
          refine put_y_at (pc := 303) dX7_next_303 pX7_93 ?_
          refine e_goto (pc := 306) dX7_next_306 (t := 230) (by decide) ?_
          rw [if_pos ⟨lp c_238, mc_b1.mp c_257⟩, if_neg (c4.mp c_263)] at hV
          exact ih (p + 1) (k + 1) _ _ (by omega) (by omega) rfl h1 rfl (yK_up (yK_up hk (by decide)) (by decide)) hV
        · skip
          refine e_bipush (v := 10) (pc := 266) dX7_next_266 (by decide) ?_
          refine e_aloadn (pc := 268) dX7_next_268 rfl ?_
          refine e_get (pc := 269) dX7_next_269 fX7_102 rfl rfl ?_
          refine e_top (h3) ?_
          refine e_imul (pc := 272) dX7_next_272 ?_
          refine e_aloadn (pc := 273) dX7_next_273 rfl ?_
          refine e_get (pc := 274) dX7_next_274 fX7_26 rfl rfl ?_
          refine e_aloadn (pc := 277) dX7_next_277 rfl ?_
          refine e_get (pc := 278) dX7_next_278 fX7_93 rfl rfl ?_
          refine e_top (h0) ?_
          refine aldv_ytape (pc := 281) dX7_next_281 (iv (lp c_238)) et ?_
          refine e_iadd (pc := 282) dX7_next_282 ?_
          refine e_bipush (v := 48) (pc := 283) dX7_next_283 (by decide) ?_
          refine e_isub (pc := 285) dX7_next_285 ?_
          refine e_goto (pc := 286) dX7_next_286 (t := 290) (by decide) ?_
          refine put_y_value (pc := 290) dX7_next_290 pX7_102 ?_
          refine e_incC2 (pc := 293) dX7_next_293 (nI_1 k) (Nat.le_of_ble_eq_true rfl) rfl ?_
          refine e_aloadn (pc := 296) dX7_next_296 rfl ?_
          refine e_dup (pc := 297) dX7_next_297 rfl ?_
          refine e_get (pc := 298) dX7_next_298 fX7_93 rfl rfl ?_
          refine e_top (h0) ?_
          refine e_iconst (v := 1) (pc := 301) dX7_next_301 (by decide) ?_
          refine e_iadd (pc := 302) dX7_next_302 ?_
          refine e_top ((nI_1 p)) ?_
          refine put_y_at (pc := 303) dX7_next_303 pX7_93 ?_
          refine e_goto (pc := 306) dX7_next_306 (t := 230) (by decide) ?_
          rw [if_pos ⟨lp c_238, mc_b1.mp c_257⟩, if_pos (Classical.not_not.mp (fun q => c_263 (c4.mpr q)))] at hV
          exact ih (p + 1) (k + 1) _ _ (by omega) (by omega) rfl h1 rfl (yK_up (yK_up hk (by decide)) (by decide)) hV
theorem lp_y_nxl {s u m n : Nat → Int32} {a c b d : Nat → List Int32} {q : List (Option Nat)} {h : Nat} {z : mc_W} {N p e : Nat} {R : Nat × Nat × Int32 × Int32} {x1 : Int32} {x2 : Option Value} (hL : yL b) (hN2 : N ≤ 160) (hpe : p ≤ e) (he : e ≤ N)
    (hR : R = (p, e, ynk (ywo (yt3 b) p e 12 0), ynv (ywo (yt3 b) p e 12 0))) {n0 : Nat → Int32} (h0 : n0 0 = nI e) (h1 : n0 1 = nI p) (hk : yK n n0) :
    mc_E RX7 cX7_next 3 (mc_JM none false 2 0 0 (fun r' w' => r' = none ∧ ∃ n1, yNx R n n1 ∧ w' = WW s a q u c h m b n1 d z)) 146 [some (.ref 29), some (.int x1), x2] [] (WW s a q u c h m b n0 d z) 0 0 := by
  have hw : ywo (yt3 b) p e 12 0 ≤ 12 := ywo_le _ _ _ _ _ (by omega)
  have w3 : ∀ w : Nat, w ≤ 12 → ((3 : Int32) ≤ nI w ↔ ¬ w < 3) := fun w h => by
    rw [Int32.le_iff_toInt_le, nI_toInt (by omega), show (3 : Int32).toInt = 3 from rfl]; omega
  have w9 : ∀ w : Nat, w ≤ 12 → ((9 : Int32) ≤ nI w ↔ ¬ w < 9) := fun w h => by
    rw [Int32.le_iff_toInt_le, nI_toInt (by omega), show (9 : Int32).toInt = 9 from rfl]; omega
  have w12 : ∀ w : Nat, w ≤ 12 → (nI w = 12 ↔ w = 12) := fun w h => nI_eq (a := w) (b := 12) (by omega) (by decide)
  subst hR
  refine e_aloadn (pc := 146) dX7_next_146 rfl ?_
  refine e_aloadn (pc := 147) dX7_next_147 rfl ?_
  refine e_get (pc := 148) dX7_next_148 fX7_96 rfl rfl ?_
  refine e_top (h1) ?_
  refine e_aloadn (pc := 151) dX7_next_151 rfl ?_
  refine e_get (pc := 152) dX7_next_152 fX7_93 rfl rfl ?_
  refine e_top (h0) ?_
  refine e_cvD (pc := 155) (sp_y_wordFrom (fr := p) (to := e) hL (by omega) hpe) dX7_next_155 kX7_105 rfl rfl rfl rfl rfl (mc_CR_of (Nat.le_of_ble_eq_true rfl) (Nat.le_of_ble_eq_true rfl) (Nat.le_refl _) (Nat.le_refl _)) (Nat.le_of_ble_eq_true rfl) ?_
  refine e_isn2 (pc := 158) dX7_next_158 (Nat.le_of_ble_eq_true rfl) rfl ?_
  refine e_aloadn (pc := 159) dX7_next_159 rfl ?_
  refine e_iloadn (pc := 160) dX7_next_160 rfl ?_
  refine e_iconst (v := 3) (pc := 161) dX7_next_161 (by decide) ?_
  refine e_icmp_ge (pc := 162) dX7_next_162 (t := 169) (by decide) (fun c_162 => ?_) (fun c_162 => ?_)
  · skip
    refine e_iloadn (pc := 169) dX7_next_169 rfl ?_
    refine e_bipush (v := 9) (pc := 170) dX7_next_170 (by decide) ?_
    refine e_icmp_ge (pc := 172) dX7_next_172 (t := 179) (by decide) (fun c_172 => ?_) (fun c_172 => ?_)
    · skip
      refine e_iloadn (pc := 179) dX7_next_179 rfl ?_
      refine e_bipush (v := 12) (pc := 180) dX7_next_180 (by decide) ?_
      refine e_icmp_ne (pc := 182) dX7_next_182 (t := 189) (by decide) (fun c_182 => ?_) (fun c_182 => ?_)
      · skip
        refine e_iconst (v := 4) (pc := 189) dX7_next_189 (by decide) ?_
        refine e_iloadn (pc := 190) dX7_next_190 rfl ?_
        refine e_iadd (pc := 191) dX7_next_191 ?_
        refine e_bipush (v := 9) (pc := 192) dX7_next_192 (by decide) ?_
        refine e_isub (pc := 194) dX7_next_194 ?_
        refine put_y_token (pc := 195) dX7_next_195 pX7_99 ?_
        refine e_aloadn (pc := 198) dX7_next_198 rfl ?_
        refine e_iloadn (pc := 199) dX7_next_199 rfl ?_
        refine e_iconst (v := 3) (pc := 200) dX7_next_200 (by decide) ?_
        refine e_icmp_ge (pc := 201) dX7_next_201 (t := 208) (by decide) (fun _ => ?_) (fun c_201 => absurd c_162 c_201)
        refine e_iloadn (pc := 208) dX7_next_208 rfl ?_
        refine e_iconst (v := 3) (pc := 209) dX7_next_209 (by decide) ?_
        refine e_isub (pc := 210) dX7_next_210 ?_
        refine put_y_value (pc := 211) dX7_next_211 pX7_102 ?_
        refine e_goto (pc := 214) dX7_next_214 (t := 403) (by decide) ?_
        exact e_vret (pc := 403) dX7_next_403 rfl (Nat.le_refl _) (Nat.le_refl _) (by refine ⟨rfl, _, ?_, rfl⟩; exact ⟨h0, h1, by show _ = ynk _; unfold ynk; rw [if_neg ((w3 _ hw).mp c_162), if_neg ((w9 _ hw).mp c_172), if_neg (fun q => c_182 ((w12 _ hw).mpr q))]; rfl, by show _ = ynv _; unfold ynv; rw [if_neg ((w3 _ hw).mp c_162)]; rfl, yK_up (yK_up hk (by decide)) (by decide)⟩)
      · skip
        refine e_iconst (v := -1) (pc := 185) dX7_next_185 (by decide) ?_
        refine e_goto (pc := 186) dX7_next_186 (t := 195) (by decide) ?_
        refine put_y_token (pc := 195) dX7_next_195 pX7_99 ?_
        refine e_aloadn (pc := 198) dX7_next_198 rfl ?_
        refine e_iloadn (pc := 199) dX7_next_199 rfl ?_
        refine e_iconst (v := 3) (pc := 200) dX7_next_200 (by decide) ?_
        refine e_icmp_ge (pc := 201) dX7_next_201 (t := 208) (by decide) (fun _ => ?_) (fun c_201 => absurd c_162 c_201)
        refine e_iloadn (pc := 208) dX7_next_208 rfl ?_
        refine e_iconst (v := 3) (pc := 209) dX7_next_209 (by decide) ?_
        refine e_isub (pc := 210) dX7_next_210 ?_
        refine put_y_value (pc := 211) dX7_next_211 pX7_102 ?_
        refine e_goto (pc := 214) dX7_next_214 (t := 403) (by decide) ?_
        exact e_vret (pc := 403) dX7_next_403 rfl (Nat.le_refl _) (Nat.le_refl _) (by refine ⟨rfl, _, ?_, rfl⟩; exact ⟨h0, h1, by show _ = ynk _; unfold ynk; rw [if_neg ((w3 _ hw).mp c_162), if_neg ((w9 _ hw).mp c_172), if_pos ((w12 _ hw).mp c_182)]; rfl, by show _ = ynv _; unfold ynv; rw [if_neg ((w3 _ hw).mp c_162)]; rfl, yK_up (yK_up hk (by decide)) (by decide)⟩)
    · skip
      refine e_iconst (v := 2) (pc := 175) dX7_next_175 (by decide) ?_
      refine e_goto (pc := 176) dX7_next_176 (t := 195) (by decide) ?_
      refine put_y_token (pc := 195) dX7_next_195 pX7_99 ?_
      refine e_aloadn (pc := 198) dX7_next_198 rfl ?_
      refine e_iloadn (pc := 199) dX7_next_199 rfl ?_
      refine e_iconst (v := 3) (pc := 200) dX7_next_200 (by decide) ?_
      refine e_icmp_ge (pc := 201) dX7_next_201 (t := 208) (by decide) (fun _ => ?_) (fun c_201 => absurd c_162 c_201)
      refine e_iloadn (pc := 208) dX7_next_208 rfl ?_
      refine e_iconst (v := 3) (pc := 209) dX7_next_209 (by decide) ?_
      refine e_isub (pc := 210) dX7_next_210 ?_
      refine put_y_value (pc := 211) dX7_next_211 pX7_102 ?_
      refine e_goto (pc := 214) dX7_next_214 (t := 403) (by decide) ?_
      exact e_vret (pc := 403) dX7_next_403 rfl (Nat.le_refl _) (Nat.le_refl _) (by refine ⟨rfl, _, ?_, rfl⟩; exact ⟨h0, h1, by show _ = ynk _; unfold ynk; rw [if_neg ((w3 _ hw).mp c_162), if_pos (Classical.not_not.mp (fun q => c_172 ((w9 _ hw).mpr q)))]; rfl, by show _ = ynv _; unfold ynv; rw [if_neg ((w3 _ hw).mp c_162)]; rfl, yK_up (yK_up hk (by decide)) (by decide)⟩)
  · skip
    refine e_iconst (v := 3) (pc := 165) dX7_next_165 (by decide) ?_
    refine e_goto (pc := 166) dX7_next_166 (t := 195) (by decide) ?_
    refine put_y_token (pc := 195) dX7_next_195 pX7_99 ?_
    refine e_aloadn (pc := 198) dX7_next_198 rfl ?_
    refine e_iloadn (pc := 199) dX7_next_199 rfl ?_
    refine e_iconst (v := 3) (pc := 200) dX7_next_200 (by decide) ?_
    refine e_icmp_ge (pc := 201) dX7_next_201 (t := 208) (by decide) (fun c_201 => absurd c_201 c_162) (fun _ => ?_)
    refine e_iloadn (pc := 204) dX7_next_204 rfl ?_
    refine e_goto (pc := 205) dX7_next_205 (t := 211) (by decide) ?_
    refine put_y_value (pc := 211) dX7_next_211 pX7_102 ?_
    refine e_goto (pc := 214) dX7_next_214 (t := 403) (by decide) ?_
    exact e_vret (pc := 403) dX7_next_403 rfl (Nat.le_refl _) (Nat.le_refl _) (by refine ⟨rfl, _, ?_, rfl⟩; exact ⟨h0, h1, by show _ = ynk _; unfold ynk; rw [if_pos (Classical.not_not.mp (fun q => c_162 ((w3 _ hw).mpr q)))]; rfl, by show _ = ynv _; unfold ynv; rw [if_pos (Classical.not_not.mp (fun q => c_162 ((w3 _ hw).mpr q)))]; rfl, yK_up (yK_up hk (by decide)) (by decide)⟩)
end Zj_42_y23
section Zj_43_y24
/-! the next word, number or sign, done -/
theorem yda_k (T : Nat → Int32) (N : Nat) : ∀ f p k v, p ≤ N → (yda T N f p k v).2.1 ≤ k + f ∧ p ≤ (yda T N f p k v).1 ∧ (yda T N f p k v).1 ≤ N := by
  intro f
  induction f with
  | zero => intro p k v h; exact ⟨Nat.le_refl _, Nat.le_refl _, h⟩
  | succ f ih =>
    intro p k v h
    unfold yda
    split
    · have := ih (p + 1) (k + 1) (if k < 4 then 10 * v + T p - 48 else 0) (by omega); omega
    · exact ⟨by show k ≤ _; omega, Nat.le_refl _, h⟩
theorem lp_y_nxd {s u m n : Nat → Int32} {a c b d : Nat → List Int32} {q : List (Option Nat)} {h : Nat} {z : mc_W} {p e k : Nat} {v : Int32} {R : Nat × Nat × Int32 × Int32} {x1 : Option Value} (hk2 : k ≤ 160)
    (hR : R = (p, e, (if 4 < k then -1 else 1), v)) {n0 : Nat → Int32} (h0 : n0 0 = nI e) (h1 : n0 1 = nI p) (h3 : n0 3 = v) (hk : yK n n0) :
    mc_E RX7 cX7_next 3 (mc_JM none false 2 0 0 (fun r' w' => r' = none ∧ ∃ n1, yNx R n n1 ∧ w' = WW s a q u c h m b n1 d z)) 309 [some (.ref 29), x1, some (.int (nI k))] [] (WW s a q u c h m b n0 d z) 0 0 := by
  have k4 : nI k ≤ 4 ↔ ¬ 4 < k := by
    rw [Int32.le_iff_toInt_le, nI_toInt (by omega), show (4 : Int32).toInt = 4 from rfl]; omega
  subst hR
  refine e_aloadn (pc := 309) dX7_next_309 rfl ?_
  refine e_iloadn (pc := 310) dX7_next_310 rfl ?_
  refine e_iconst (v := 4) (pc := 311) dX7_next_311 (by decide) ?_
  refine e_icmp_le (pc := 312) dX7_next_312 (t := 319) (by decide) (fun c_312 => ?_) (fun c_312 => ?_)
  · skip
    refine e_iconst (v := 1) (pc := 319) dX7_next_319 (by decide) ?_
    refine put_y_token (pc := 320) dX7_next_320 pX7_99 ?_
    refine e_goto (pc := 323) dX7_next_323 (t := 403) (by decide) ?_
    exact e_vret (pc := 403) dX7_next_403 rfl (Nat.le_refl _) (Nat.le_refl _) (by refine ⟨rfl, _, ?_, rfl⟩; exact ⟨h0, h1, by show _ = (if 4 < k then (-1 : Int32) else 1); rw [if_neg (k4.mp c_312)]; rfl, h3, yK_up hk (by decide)⟩)
  · skip
    refine e_iconst (v := -1) (pc := 315) dX7_next_315 (by decide) ?_
    refine e_goto (pc := 316) dX7_next_316 (t := 320) (by decide) ?_
    refine put_y_token (pc := 320) dX7_next_320 pX7_99 ?_
    refine e_goto (pc := 323) dX7_next_323 (t := 403) (by decide) ?_
    exact e_vret (pc := 403) dX7_next_403 rfl (Nat.le_refl _) (Nat.le_refl _) (by refine ⟨rfl, _, ?_, rfl⟩; exact ⟨h0, h1, by show _ = (if 4 < k then (-1 : Int32) else 1); rw [if_pos (Classical.not_not.mp (fun q => c_312 (k4.mpr q)))]; rfl, h3, yK_up hk (by decide)⟩)
theorem sp_y_next {s u m n : Nat → Int32} {a c b d : Nat → List Int32} {q : List (Option Nat)} {h : Nat} {z : mc_W} {N A0 : Nat} (hL : yL b) (hN : m 3 = nI N) (hN2 : N ≤ 160) (hA : A0 ≤ N) (h0 : n 0 = nI A0) : mc_T yX7_next cX7_next 3 none 2 [.ref 29] (WW s a q u c h m b n d z) none (fun w' => ∃ n1, yNx (ynx (yt3 b) N A0) n n1 ∧ w' = WW s a q u c h m b n1 d z) := by
  refine mc_start (own := RX7) (ini := false) rfl (by decide +kernel) (fun h => by cases h) (Nat.le_of_ble_eq_true rfl) ?_
  show mc_E _ _ _ _ _ [some (.ref 29), none, none] [] _ _ _
  refine lp_y_ws (n0 := n) (P := yws (yt3 b) N (N - A0) A0) hL hN hN2 (fun n1 g0 gk => ?_) (N - A0) A0 n (by omega) h0 (fun _ _ => rfl) rfl
  obtain ⟨p1, p2⟩ := yws_le (yt3 b) N (N - A0) A0 hA
  have r1 : yws (yt3 b) N (N - A0) A0 = N → ynx (yt3 b) N A0 = (N, N, 0, 0) := fun q => by unfold ynx; rw [if_pos q]
  obtain ⟨P, hP⟩ : ∃ P, P = yws (yt3 b) N (N - A0) A0 := ⟨_, rfl⟩
  have r2 : ¬ P = N → mc_wi (yt3 b P) 97 122 = true → ynx (yt3 b) N A0 = (P, ylt (yt3 b) N (N - P) P, ynk (ywo (yt3 b) P (ylt (yt3 b) N (N - P) P) 12 0), ynv (ywo (yt3 b) P (ylt (yt3 b) N (N - P) P) 12 0)) := fun q1 q2 => by
    unfold ynx; rw [← hP, if_neg q1, if_pos q2]
  have r3 : ¬ P = N → ¬ mc_wi (yt3 b P) 97 122 = true → mc_wi (yt3 b P) 48 57 = true → ynx (yt3 b) N A0 = (P, (yda (yt3 b) N (N - P) P 0 0).1, (if 4 < (yda (yt3 b) N (N - P) P 0 0).2.1 then -1 else 1), (yda (yt3 b) N (N - P) P 0 0).2.2) := fun q1 q2 q3 => by
    unfold ynx; rw [← hP, if_neg q1, if_neg q2, if_pos q3]
  have r4 : ¬ P = N → ¬ mc_wi (yt3 b P) 97 122 = true → ¬ mc_wi (yt3 b P) 48 57 = true → ynx (yt3 b) N A0 = (P, P + 1, (if ysgn (yt3 b P) = true then yt3 b P else -1), 0) := fun q1 q2 q3 => by
    unfold ynx; rw [← hP, if_neg q1, if_neg q2, if_neg q3]
  rw [← hP] at g0 p1 p2 r1
  have iv : ¬ P = N → vp_in (nI P) (b 3).length := fun w => by rw [hL.2.2.2.1]; exact vp_in_nI (by omega) (by decide)
  have et : (b 3).getD (nI P).toNatClampNeg 0 = yt3 b P := by rw [nIc (by omega)]; rfl
  have pn : nI P = nI N ↔ P = N := nI_eq (by omega) (by omega)
  have hne : ¬ nI P = nI N → ¬ P = N := fun q w => q (pn.mpr w)
  refine e_aloadn (pc := 52) dX7_next_52 rfl ?_
  refine e_aloadn (pc := 53) dX7_next_53 rfl ?_
  refine e_get (pc := 54) dX7_next_54 fX7_93 rfl rfl ?_
  refine e_top (g0) ?_
  refine put_y_begun (pc := 57) dX7_next_57 pX7_96 ?_
  refine e_aloadn (pc := 60) dX7_next_60 rfl ?_
  refine e_iconst (v := 0) (pc := 61) dX7_next_61 (by decide) ?_
  refine put_y_token (pc := 62) dX7_next_62 pX7_99 ?_
  refine e_aloadn (pc := 65) dX7_next_65 rfl ?_
  refine e_iconst (v := 0) (pc := 66) dX7_next_66 (by decide) ?_
  refine put_y_value (pc := 67) dX7_next_67 pX7_102 ?_
  refine e_aloadn (pc := 70) dX7_next_70 rfl ?_
  refine e_get (pc := 71) dX7_next_71 fX7_93 rfl rfl ?_
  refine e_top (g0) ?_
  refine e_aloadn (pc := 74) dX7_next_74 rfl ?_
  refine e_get (pc := 75) dX7_next_75 fX7_65 rfl rfl ?_
  refine e_top (hN) ?_
  refine e_icmp_ne (pc := 78) dX7_next_78 (t := 82) (by decide) (fun c_78 => ?_) (fun c_78 => ?_)
  · skip
    refine e_aloadn (pc := 82) dX7_next_82 rfl ?_
    refine e_get (pc := 83) dX7_next_83 fX7_26 rfl rfl ?_
    refine e_aloadn (pc := 86) dX7_next_86 rfl ?_
    refine e_get (pc := 87) dX7_next_87 fX7_93 rfl rfl ?_
    refine e_top (g0) ?_
    refine aldv_ytape (pc := 90) dX7_next_90 (iv (hne c_78)) et ?_
    refine e_isn1 (pc := 91) dX7_next_91 (Nat.le_of_ble_eq_true rfl) rfl ?_
    refine e_iloadn (pc := 92) dX7_next_92 rfl ?_
    refine e_bipush (v := 97) (pc := 93) dX7_next_93 (by decide) ?_
    refine e_bipush (v := 122) (pc := 95) dX7_next_95 (by decide) ?_
    refine e_csD (pc := 97) (sp_y_in) dX7_next_97 kX7_75 rfl rfl (mc_CR_of (Nat.le_of_ble_eq_true rfl) (Nat.le_of_ble_eq_true rfl) (Nat.le_refl _) (Nat.le_refl _)) (Nat.le_of_ble_eq_true rfl) ?_
    refine e_if_eq (pc := 100) dX7_next_100 (t := 217) (by decide) (fun c_100 => ?_) (fun c_100 => ?_)
    · skip
      refine e_iloadn (pc := 217) dX7_next_217 rfl ?_
      refine e_bipush (v := 48) (pc := 218) dX7_next_218 (by decide) ?_
      refine e_bipush (v := 57) (pc := 220) dX7_next_220 (by decide) ?_
      refine e_csD (pc := 222) (sp_y_in) dX7_next_222 kX7_75 rfl rfl (mc_CR_of (Nat.le_of_ble_eq_true rfl) (Nat.le_of_ble_eq_true rfl) (Nat.le_refl _) (Nat.le_refl _)) (Nat.le_of_ble_eq_true rfl) ?_
      refine e_if_eq (pc := 225) dX7_next_225 (t := 326) (by decide) (fun c_225 => ?_) (fun c_225 => ?_)
      · skip
        refine e_iloadn (pc := 326) dX7_next_326 rfl ?_
        refine e_bipush (v := 40) (pc := 327) dX7_next_327 (by decide) ?_
        refine e_icmp_eq (pc := 329) dX7_next_329 (t := 374) (by decide) (fun c_329 => ?_) (fun c_329 => ?_)
        · skip
          refine e_iconst (v := 1) (pc := 374) dX7_next_374 (by decide) ?_
          refine e_goto (pc := 375) dX7_next_375 (t := 379) (by decide) ?_
          refine e_isn2 (pc := 379) dX7_next_379 (Nat.le_of_ble_eq_true rfl) rfl ?_
          refine e_aloadn (pc := 380) dX7_next_380 rfl ?_
          refine e_iloadn (pc := 381) dX7_next_381 rfl ?_
          refine e_if_eq (pc := 382) dX7_next_382 (t := 389) (by decide) (fun c_382 => absurd c_382 (by decide)) (fun _ => ?_)
          refine e_iloadn (pc := 385) dX7_next_385 rfl ?_
          refine e_goto (pc := 386) dX7_next_386 (t := 390) (by decide) ?_
          refine put_y_token (pc := 390) dX7_next_390 pX7_99 ?_
          refine e_aloadn (pc := 393) dX7_next_393 rfl ?_
          refine e_dup (pc := 394) dX7_next_394 rfl ?_
          refine e_get (pc := 395) dX7_next_395 fX7_93 rfl rfl ?_
          refine e_top (g0) ?_
          refine e_iconst (v := 1) (pc := 398) dX7_next_398 (by decide) ?_
          refine e_iadd (pc := 399) dX7_next_399 ?_
          refine e_top ((nI_1 P)) ?_
          refine put_y_at (pc := 400) dX7_next_400 pX7_93 ?_
          exact e_vret (pc := 403) dX7_next_403 rfl (Nat.le_refl _) (Nat.le_refl _) (by rw [r4 (hne c_78) (nbt (mc_b0.mp c_100)) (nbt (mc_b0.mp c_225))]; refine ⟨rfl, _, ?_, rfl⟩; exact ⟨rfl, rfl, by show _ = (if ysgn (yt3 b P) = true then yt3 b P else (-1 : Int32)); rw [if_pos (by simp [ysgn, c_329])]; rfl, rfl, yK_up (yK_up (yK_up (yK_up (yK_up gk (by decide)) (by decide)) (by decide)) (by decide)) (by decide)⟩)
        · skip
          refine e_iloadn (pc := 332) dX7_next_332 rfl ?_
          refine e_bipush (v := 41) (pc := 333) dX7_next_333 (by decide) ?_
          refine e_icmp_eq (pc := 335) dX7_next_335 (t := 374) (by decide) (fun c_335 => ?_) (fun c_335 => ?_)
          · skip
            refine e_iconst (v := 1) (pc := 374) dX7_next_374 (by decide) ?_
            refine e_goto (pc := 375) dX7_next_375 (t := 379) (by decide) ?_
            refine e_isn2 (pc := 379) dX7_next_379 (Nat.le_of_ble_eq_true rfl) rfl ?_
            refine e_aloadn (pc := 380) dX7_next_380 rfl ?_
            refine e_iloadn (pc := 381) dX7_next_381 rfl ?_
            refine e_if_eq (pc := 382) dX7_next_382 (t := 389) (by decide) (fun c_382 => absurd c_382 (by decide)) (fun _ => ?_)
            refine e_iloadn (pc := 385) dX7_next_385 rfl ?_
            refine e_goto (pc := 386) dX7_next_386 (t := 390) (by decide) ?_
            refine put_y_token (pc := 390) dX7_next_390 pX7_99 ?_
            refine e_aloadn (pc := 393) dX7_next_393 rfl ?_
            refine e_dup (pc := 394) dX7_next_394 rfl ?_
            refine e_get (pc := 395) dX7_next_395 fX7_93 rfl rfl ?_
            refine e_top (g0) ?_
            refine e_iconst (v := 1) (pc := 398) dX7_next_398 (by decide) ?_
            refine e_iadd (pc := 399) dX7_next_399 ?_
            refine e_top ((nI_1 P)) ?_
            refine put_y_at (pc := 400) dX7_next_400 pX7_93 ?_
            exact e_vret (pc := 403) dX7_next_403 rfl (Nat.le_refl _) (Nat.le_refl _) (by rw [r4 (hne c_78) (nbt (mc_b0.mp c_100)) (nbt (mc_b0.mp c_225))]; refine ⟨rfl, _, ?_, rfl⟩; exact ⟨rfl, rfl, by show _ = (if ysgn (yt3 b P) = true then yt3 b P else (-1 : Int32)); rw [if_pos (by simp [ysgn, c_335])]; rfl, rfl, yK_up (yK_up (yK_up (yK_up (yK_up gk (by decide)) (by decide)) (by decide)) (by decide)) (by decide)⟩)
          · skip
            refine e_iloadn (pc := 338) dX7_next_338 rfl ?_
            refine e_bipush (v := 59) (pc := 339) dX7_next_339 (by decide) ?_
            refine e_icmp_eq (pc := 341) dX7_next_341 (t := 374) (by decide) (fun c_341 => ?_) (fun c_341 => ?_)
            · skip
              refine e_iconst (v := 1) (pc := 374) dX7_next_374 (by decide) ?_
              refine e_goto (pc := 375) dX7_next_375 (t := 379) (by decide) ?_
              refine e_isn2 (pc := 379) dX7_next_379 (Nat.le_of_ble_eq_true rfl) rfl ?_
              refine e_aloadn (pc := 380) dX7_next_380 rfl ?_
              refine e_iloadn (pc := 381) dX7_next_381 rfl ?_
              refine e_if_eq (pc := 382) dX7_next_382 (t := 389) (by decide) (fun c_382 => absurd c_382 (by decide)) (fun _ => ?_)
              refine e_iloadn (pc := 385) dX7_next_385 rfl ?_
              refine e_goto (pc := 386) dX7_next_386 (t := 390) (by decide) ?_
              refine put_y_token (pc := 390) dX7_next_390 pX7_99 ?_
              refine e_aloadn (pc := 393) dX7_next_393 rfl ?_
              refine e_dup (pc := 394) dX7_next_394 rfl ?_
              refine e_get (pc := 395) dX7_next_395 fX7_93 rfl rfl ?_
              refine e_top (g0) ?_
              refine e_iconst (v := 1) (pc := 398) dX7_next_398 (by decide) ?_
              refine e_iadd (pc := 399) dX7_next_399 ?_
              refine e_top ((nI_1 P)) ?_
              refine put_y_at (pc := 400) dX7_next_400 pX7_93 ?_
              exact e_vret (pc := 403) dX7_next_403 rfl (Nat.le_refl _) (Nat.le_refl _) (by rw [r4 (hne c_78) (nbt (mc_b0.mp c_100)) (nbt (mc_b0.mp c_225))]; refine ⟨rfl, _, ?_, rfl⟩; exact ⟨rfl, rfl, by show _ = (if ysgn (yt3 b P) = true then yt3 b P else (-1 : Int32)); rw [if_pos (by simp [ysgn, c_341])]; rfl, rfl, yK_up (yK_up (yK_up (yK_up (yK_up gk (by decide)) (by decide)) (by decide)) (by decide)) (by decide)⟩)
            · skip
              refine e_iloadn (pc := 344) dX7_next_344 rfl ?_
              refine e_bipush (v := 43) (pc := 345) dX7_next_345 (by decide) ?_
              refine e_icmp_eq (pc := 347) dX7_next_347 (t := 374) (by decide) (fun c_347 => ?_) (fun c_347 => ?_)
              · skip
                refine e_iconst (v := 1) (pc := 374) dX7_next_374 (by decide) ?_
                refine e_goto (pc := 375) dX7_next_375 (t := 379) (by decide) ?_
                refine e_isn2 (pc := 379) dX7_next_379 (Nat.le_of_ble_eq_true rfl) rfl ?_
                refine e_aloadn (pc := 380) dX7_next_380 rfl ?_
                refine e_iloadn (pc := 381) dX7_next_381 rfl ?_
                refine e_if_eq (pc := 382) dX7_next_382 (t := 389) (by decide) (fun c_382 => absurd c_382 (by decide)) (fun _ => ?_)
                refine e_iloadn (pc := 385) dX7_next_385 rfl ?_
                refine e_goto (pc := 386) dX7_next_386 (t := 390) (by decide) ?_
                refine put_y_token (pc := 390) dX7_next_390 pX7_99 ?_
                refine e_aloadn (pc := 393) dX7_next_393 rfl ?_
                refine e_dup (pc := 394) dX7_next_394 rfl ?_
                refine e_get (pc := 395) dX7_next_395 fX7_93 rfl rfl ?_
                refine e_top (g0) ?_
                refine e_iconst (v := 1) (pc := 398) dX7_next_398 (by decide) ?_
                refine e_iadd (pc := 399) dX7_next_399 ?_
                refine e_top ((nI_1 P)) ?_
                refine put_y_at (pc := 400) dX7_next_400 pX7_93 ?_
                exact e_vret (pc := 403) dX7_next_403 rfl (Nat.le_refl _) (Nat.le_refl _) (by rw [r4 (hne c_78) (nbt (mc_b0.mp c_100)) (nbt (mc_b0.mp c_225))]; refine ⟨rfl, _, ?_, rfl⟩; exact ⟨rfl, rfl, by show _ = (if ysgn (yt3 b P) = true then yt3 b P else (-1 : Int32)); rw [if_pos (by simp [ysgn, c_347])]; rfl, rfl, yK_up (yK_up (yK_up (yK_up (yK_up gk (by decide)) (by decide)) (by decide)) (by decide)) (by decide)⟩)
              · skip
                refine e_iloadn (pc := 350) dX7_next_350 rfl ?_
                refine e_bipush (v := 45) (pc := 351) dX7_next_351 (by decide) ?_
                refine e_icmp_eq (pc := 353) dX7_next_353 (t := 374) (by decide) (fun c_353 => ?_) (fun c_353 => ?_)
                · skip
                  refine e_iconst (v := 1) (pc := 374) dX7_next_374 (by decide) ?_
                  refine e_goto (pc := 375) dX7_next_375 (t := 379) (by decide) ?_
                  refine e_isn2 (pc := 379) dX7_next_379 (Nat.le_of_ble_eq_true rfl) rfl ?_
                  refine e_aloadn (pc := 380) dX7_next_380 rfl ?_
                  refine e_iloadn (pc := 381) dX7_next_381 rfl ?_
                  refine e_if_eq (pc := 382) dX7_next_382 (t := 389) (by decide) (fun c_382 => absurd c_382 (by decide)) (fun _ => ?_)
                  refine e_iloadn (pc := 385) dX7_next_385 rfl ?_
                  refine e_goto (pc := 386) dX7_next_386 (t := 390) (by decide) ?_
                  refine put_y_token (pc := 390) dX7_next_390 pX7_99 ?_
                  refine e_aloadn (pc := 393) dX7_next_393 rfl ?_
                  refine e_dup (pc := 394) dX7_next_394 rfl ?_
                  refine e_get (pc := 395) dX7_next_395 fX7_93 rfl rfl ?_
                  refine e_top (g0) ?_
                  refine e_iconst (v := 1) (pc := 398) dX7_next_398 (by decide) ?_
                  refine e_iadd (pc := 399) dX7_next_399 ?_
                  refine e_top ((nI_1 P)) ?_
                  refine put_y_at (pc := 400) dX7_next_400 pX7_93 ?_
                  exact e_vret (pc := 403) dX7_next_403 rfl (Nat.le_refl _) (Nat.le_refl _) (by rw [r4 (hne c_78) (nbt (mc_b0.mp c_100)) (nbt (mc_b0.mp c_225))]; refine ⟨rfl, _, ?_, rfl⟩; exact ⟨rfl, rfl, by show _ = (if ysgn (yt3 b P) = true then yt3 b P else (-1 : Int32)); rw [if_pos (by simp [ysgn, c_353])]; rfl, rfl, yK_up (yK_up (yK_up (yK_up (yK_up gk (by decide)) (by decide)) (by decide)) (by decide)) (by decide)⟩)
                · skip
                  refine e_iloadn (pc := 356) dX7_next_356 rfl ?_
                  refine e_bipush (v := 42) (pc := 357) dX7_next_357 (by decide) ?_
                  refine e_icmp_eq (pc := 359) dX7_next_359 (t := 374) (by decide) (fun c_359 => ?_) (fun c_359 => ?_)
                  · skip
                    refine e_iconst (v := 1) (pc := 374) dX7_next_374 (by decide) ?_
                    refine e_goto (pc := 375) dX7_next_375 (t := 379) (by decide) ?_
                    refine e_isn2 (pc := 379) dX7_next_379 (Nat.le_of_ble_eq_true rfl) rfl ?_
                    refine e_aloadn (pc := 380) dX7_next_380 rfl ?_
                    refine e_iloadn (pc := 381) dX7_next_381 rfl ?_
                    refine e_if_eq (pc := 382) dX7_next_382 (t := 389) (by decide) (fun c_382 => absurd c_382 (by decide)) (fun _ => ?_)
                    refine e_iloadn (pc := 385) dX7_next_385 rfl ?_
                    refine e_goto (pc := 386) dX7_next_386 (t := 390) (by decide) ?_
                    refine put_y_token (pc := 390) dX7_next_390 pX7_99 ?_
                    refine e_aloadn (pc := 393) dX7_next_393 rfl ?_
                    refine e_dup (pc := 394) dX7_next_394 rfl ?_
                    refine e_get (pc := 395) dX7_next_395 fX7_93 rfl rfl ?_
                    refine e_top (g0) ?_
                    refine e_iconst (v := 1) (pc := 398) dX7_next_398 (by decide) ?_
                    refine e_iadd (pc := 399) dX7_next_399 ?_
                    refine e_top ((nI_1 P)) ?_
                    refine put_y_at (pc := 400) dX7_next_400 pX7_93 ?_
                    exact e_vret (pc := 403) dX7_next_403 rfl (Nat.le_refl _) (Nat.le_refl _) (by rw [r4 (hne c_78) (nbt (mc_b0.mp c_100)) (nbt (mc_b0.mp c_225))]; refine ⟨rfl, _, ?_, rfl⟩; exact ⟨rfl, rfl, by show _ = (if ysgn (yt3 b P) = true then yt3 b P else (-1 : Int32)); rw [if_pos (by simp [ysgn, c_359])]; rfl, rfl, yK_up (yK_up (yK_up (yK_up (yK_up gk (by decide)) (by decide)) (by decide)) (by decide)) (by decide)⟩)
                  · skip
                    refine e_iloadn (pc := 362) dX7_next_362 rfl ?_
                    refine e_bipush (v := 60) (pc := 363) dX7_next_363 (by decide) ?_
                    refine e_icmp_eq (pc := 365) dX7_next_365 (t := 374) (by decide) (fun c_365 => ?_) (fun c_365 => ?_)
                    · skip
                      refine e_iconst (v := 1) (pc := 374) dX7_next_374 (by decide) ?_
                      refine e_goto (pc := 375) dX7_next_375 (t := 379) (by decide) ?_
                      refine e_isn2 (pc := 379) dX7_next_379 (Nat.le_of_ble_eq_true rfl) rfl ?_
                      refine e_aloadn (pc := 380) dX7_next_380 rfl ?_
                      refine e_iloadn (pc := 381) dX7_next_381 rfl ?_
                      refine e_if_eq (pc := 382) dX7_next_382 (t := 389) (by decide) (fun c_382 => absurd c_382 (by decide)) (fun _ => ?_)
                      refine e_iloadn (pc := 385) dX7_next_385 rfl ?_
                      refine e_goto (pc := 386) dX7_next_386 (t := 390) (by decide) ?_
                      refine put_y_token (pc := 390) dX7_next_390 pX7_99 ?_
                      refine e_aloadn (pc := 393) dX7_next_393 rfl ?_
                      refine e_dup (pc := 394) dX7_next_394 rfl ?_
                      refine e_get (pc := 395) dX7_next_395 fX7_93 rfl rfl ?_
                      refine e_top (g0) ?_
                      refine e_iconst (v := 1) (pc := 398) dX7_next_398 (by decide) ?_
                      refine e_iadd (pc := 399) dX7_next_399 ?_
                      refine e_top ((nI_1 P)) ?_
                      refine put_y_at (pc := 400) dX7_next_400 pX7_93 ?_
                      exact e_vret (pc := 403) dX7_next_403 rfl (Nat.le_refl _) (Nat.le_refl _) (by rw [r4 (hne c_78) (nbt (mc_b0.mp c_100)) (nbt (mc_b0.mp c_225))]; refine ⟨rfl, _, ?_, rfl⟩; exact ⟨rfl, rfl, by show _ = (if ysgn (yt3 b P) = true then yt3 b P else (-1 : Int32)); rw [if_pos (by simp [ysgn, c_365])]; rfl, rfl, yK_up (yK_up (yK_up (yK_up (yK_up gk (by decide)) (by decide)) (by decide)) (by decide)) (by decide)⟩)
                    · skip
                      refine e_iloadn (pc := 368) dX7_next_368 rfl ?_
                      refine e_bipush (v := 61) (pc := 369) dX7_next_369 (by decide) ?_
                      refine e_icmp_ne (pc := 371) dX7_next_371 (t := 378) (by decide) (fun c_371 => ?_) (fun c_371 => ?_)
                      · skip
                        refine e_iconst (v := 0) (pc := 378) dX7_next_378 (by decide) ?_
                        refine e_isn2 (pc := 379) dX7_next_379 (Nat.le_of_ble_eq_true rfl) rfl ?_
                        refine e_aloadn (pc := 380) dX7_next_380 rfl ?_
                        refine e_iloadn (pc := 381) dX7_next_381 rfl ?_
                        refine e_if_eq (pc := 382) dX7_next_382 (t := 389) (by decide) (fun _ => ?_) (fun c_382 => absurd (by decide) c_382)
                        refine e_iconst (v := -1) (pc := 389) dX7_next_389 (by decide) ?_
                        refine put_y_token (pc := 390) dX7_next_390 pX7_99 ?_
                        refine e_aloadn (pc := 393) dX7_next_393 rfl ?_
                        refine e_dup (pc := 394) dX7_next_394 rfl ?_
                        refine e_get (pc := 395) dX7_next_395 fX7_93 rfl rfl ?_
                        refine e_top (g0) ?_
                        refine e_iconst (v := 1) (pc := 398) dX7_next_398 (by decide) ?_
                        refine e_iadd (pc := 399) dX7_next_399 ?_
                        refine e_top ((nI_1 P)) ?_
                        refine put_y_at (pc := 400) dX7_next_400 pX7_93 ?_
                        exact e_vret (pc := 403) dX7_next_403 rfl (Nat.le_refl _) (Nat.le_refl _) (by rw [r4 (hne c_78) (nbt (mc_b0.mp c_100)) (nbt (mc_b0.mp c_225))]; refine ⟨rfl, _, ?_, rfl⟩; exact ⟨rfl, rfl, by show _ = (if ysgn (yt3 b P) = true then yt3 b P else (-1 : Int32)); rw [if_neg (by simp [ysgn, c_329, c_335, c_341, c_347, c_353, c_359, c_365, c_371])]; rfl, rfl, yK_up (yK_up (yK_up (yK_up (yK_up gk (by decide)) (by decide)) (by decide)) (by decide)) (by decide)⟩)
                      · skip
                        refine e_iconst (v := 1) (pc := 374) dX7_next_374 (by decide) ?_
                        refine e_goto (pc := 375) dX7_next_375 (t := 379) (by decide) ?_
                        refine e_isn2 (pc := 379) dX7_next_379 (Nat.le_of_ble_eq_true rfl) rfl ?_
                        refine e_aloadn (pc := 380) dX7_next_380 rfl ?_
                        refine e_iloadn (pc := 381) dX7_next_381 rfl ?_
                        refine e_if_eq (pc := 382) dX7_next_382 (t := 389) (by decide) (fun c_382 => absurd c_382 (by decide)) (fun _ => ?_)
                        refine e_iloadn (pc := 385) dX7_next_385 rfl ?_
                        refine e_goto (pc := 386) dX7_next_386 (t := 390) (by decide) ?_
                        refine put_y_token (pc := 390) dX7_next_390 pX7_99 ?_
                        refine e_aloadn (pc := 393) dX7_next_393 rfl ?_
                        refine e_dup (pc := 394) dX7_next_394 rfl ?_
                        refine e_get (pc := 395) dX7_next_395 fX7_93 rfl rfl ?_
                        refine e_top (g0) ?_
                        refine e_iconst (v := 1) (pc := 398) dX7_next_398 (by decide) ?_
                        refine e_iadd (pc := 399) dX7_next_399 ?_
                        refine e_top ((nI_1 P)) ?_
                        refine put_y_at (pc := 400) dX7_next_400 pX7_93 ?_
                        exact e_vret (pc := 403) dX7_next_403 rfl (Nat.le_refl _) (Nat.le_refl _) (by rw [r4 (hne c_78) (nbt (mc_b0.mp c_100)) (nbt (mc_b0.mp c_225))]; refine ⟨rfl, _, ?_, rfl⟩; exact ⟨rfl, rfl, by show _ = (if ysgn (yt3 b P) = true then yt3 b P else (-1 : Int32)); rw [if_pos (by simp [ysgn, c_371])]; rfl, rfl, yK_up (yK_up (yK_up (yK_up (yK_up gk (by decide)) (by decide)) (by decide)) (by decide)) (by decide)⟩)
      · skip
        refine e_iconst (v := 0) (pc := 228) dX7_next_228 (by decide) ?_
        refine e_isn2 (pc := 229) dX7_next_229 (Nat.le_of_ble_eq_true rfl) rfl ?_
        exact lp_y_da (n0 := n) (n1 := nI P) (P := yda (yt3 b) N (N - P) P 0 0) hL hN hN2 (fun n2 e0 e1 e3 ek => lp_y_nxd (by have := (yda_k (yt3 b) N (N - P) P 0 0 p2).1; omega) (r3 (hne c_78) (nbt (mc_b0.mp c_100)) (mc_b1.mp c_225)) e0 e1 e3 ek) (N - P) P 0 0 _ (by omega) (by omega) g0 rfl rfl (yK_up (yK_up (yK_up gk (by decide)) (by decide)) (by decide)) rfl
    · skip
      exact lp_y_lt (n0 := n) (n1 := nI P) (P := ylt (yt3 b) N (N - P) P) hL hN hN2 (fun n2 e0 e1 ek => lp_y_nxl hL hN2 (ylt_le (yt3 b) N (N - P) P p2).1 (ylt_le (yt3 b) N (N - P) P p2).2 (r2 (hne c_78) (mc_b1.mp c_100)) e0 e1 ek) (N - P) P _ (by omega) g0 rfl (yK_up (yK_up (yK_up gk (by decide)) (by decide)) (by decide)) rfl
  · skip
    exact e_vret (pc := 81) dX7_next_81 rfl (Nat.le_refl _) (Nat.le_refl _) (by rw [r1 (pn.mp c_78)]; refine ⟨rfl, _, ?_, rfl⟩; exact ⟨g0.trans (congrArg nI (pn.mp c_78)), congrArg nI (pn.mp c_78), rfl, rfl, yK_up (yK_up (yK_up gk (by decide)) (by decide)) (by decide)⟩)
end Zj_43_y24
section Zj_44_y25
/-! the held signs -/
/-- the world of a reading: t the text, st the held (the last first), o what is put, op the opens -/
def yPS (t : Nat) (B b : Nat → List Int32) (n : Nat → Int32) (d : Nat → List Int32) (st o : List Int32) (op : Int32) : Prop :=
  (∃ l, b = mc_up B 4 l ∧ l.length = 1200 ∧ (∀ i, i < o.length → l.getD (200 * t + i) 0 = o.getD i 0) ∧ ∀ i, i < 200 * t ∨ 200 * t + 200 ≤ i → l.getD i 0 = (B 4).getD i 0) ∧
  yD d ∧ n 4 = nI st.length ∧ (d 0).take st.length = st.reverse ∧ n 5 = op ∧ n 6 = nI o.length ∧ o.length + st.length ≤ 160
def yuw (le : Int32) : List Int32 → List Int32 → Int32 → List Int32 × List Int32 × Int32
  | [], o, op => ([], o, op)
  | x :: r, o, op => if yy_rk x < le then (x :: r, o, op) else yuw le r (o ++ [x]) (op - (if x = 13 ∨ x = 19 then 1 else 0))
def yK4 (n n1 : Nat → Int32) : Prop := n1 0 = n 0 ∧ n1 1 = n 1 ∧ n1 2 = n 2 ∧ n1 3 = n 3 ∧ n1 7 = n 7
theorem ps_idx {t : Nat} {m n : Nat → Int32} {k : Nat} (h4 : m 4 = nI t) (h6 : n 6 = nI k) : 200 * m 4 + n 6 = nI (200 * t + k) := by
  rw [h4, h6, show (200 : Int32) * nI t = nI (200 * t) from pk_mul 200 t, nI_add]
/-- one more is put -/
theorem yPS_puts {t : Nat} {B b : Nat → List Int32} {m n n1 : Nat → Int32} {d : Nat → List Int32} {st st1 o : List Int32} {op op1 x : Int32} (h : yPS t B b n d st o op) (h4 : m 4 = nI t) (ht : t < 6)
    (k4 : n1 4 = nI st1.length) (k5 : n1 5 = op1) (k6 : n1 6 = n 6) (ks : (d 0).take st1.length = st1.reverse) (kl : o.length + 1 + st1.length ≤ 160) :
    vp_in (200 * m 4 + n1 6) (b 4).length ∧ yPS t B (ypb m b n1 x) (ypn n1) d st1 (o ++ [x]) op1 := by
  obtain ⟨⟨l, hb, hl, ho, hx⟩, hD, g4, gs, g5, g6, gl⟩ := h
  subst hb
  have e : 200 * m 4 + n1 6 = nI (200 * t + o.length) := ps_idx h4 (k6.trans g6)
  have ec : (200 * m 4 + n1 6).toNatClampNeg = 200 * t + o.length := by rw [e, nIc (by omega)]
  refine ⟨by rw [e]; show vp_in _ l.length; rw [hl]; exact vp_in_nI (by omega) (by decide), ⟨l.set (200 * t + o.length) x, ?_, by rw [List.length_set]; exact hl, fun i hi => ?_, fun i hi => ?_⟩, hD, k4, ks, k5, ?_, by rw [List.length_append]; simp; omega⟩
  · unfold ypb; rw [up_setl, ec]
  · rw [List.length_append] at hi
    rw [gD_set (by rw [hl]; omega)]
    by_cases e1 : i = o.length
    · rw [if_pos (by omega), e1, List.getD_eq_getElem?_getD, List.getElem?_append_right (Nat.le_refl _), Nat.sub_self]; rfl
    · simp at hi
      rw [if_neg (by omega), ho i (by omega), List.getD_eq_getElem?_getD, List.getD_eq_getElem?_getD, List.getElem?_append_left (by omega)]
  · rw [gD_set (by rw [hl]; omega), if_neg (by omega)]; exact hx i hi
  · show n1 6 + 1 = _
    rw [k6, g6, nI_1, List.length_append]; rfl
theorem lp_y_unwinds {s u m : Nat → Int32} {a c d : Nat → List Int32} {q : List (Option Nat)} {h : Nat} {z : mc_W} {t : Nat} {B : Nat → List Int32} {n0 : Nat → Int32} {le : Int32} {V : List Int32 × List Int32 × Int32} (h4 : m 4 = nI t) (ht : t < 6) :
    ∀ (st o : List Int32) (op : Int32) (b : Nat → List Int32) (n : Nat → Int32) (x2 : Option Value), yPS t B b n d st o op → yK4 n0 n → yuw le st o op = V →
      mc_E RX7 cX7_unwinds 3 (mc_JM none false 2 0 0 (fun r' w' => r' = none ∧ ∃ b1 n1, yPS t B b1 n1 d V.1 V.2.1 V.2.2 ∧ yK4 n0 n1 ∧ w' = WW s a q u c h m b1 n1 d z)) 0 [some (.ref 29), some (.int le), x2] [] (WW s a q u c h m b n d z) 0 0 := by
  intro st
  induction st with
  | nil =>
    intro o op b n x2 hP hK hV
    have hV : ([], o, op) = V := hV
    subst hV
    have g4 : n 4 = nI 0 := hP.2.2.1
    refine e_aloadn (pc := 0) dX7_unwinds_0 rfl ?_
    refine e_get (pc := 1) dX7_unwinds_1 fX7_112 rfl rfl ?_
    refine e_top (g4) ?_
    refine e_if_le (pc := 4) dX7_unwinds_4 (t := 79) (by decide) (fun _ => ?_) (fun c_4 => absurd (by decide) c_4)
    exact e_vret (pc := 79) dX7_unwinds_79 rfl (Nat.le_refl _) (Nat.le_refl _) ⟨rfl, b, n, hP, hK, rfl⟩
  | cons x r ih =>
    intro o op b n x2 hP hK hV
    simp only [yuw] at hV
    have g4 : n 4 = nI (r.length + 1) := hP.2.2.1
    have gl : o.length + (r.length + 1) ≤ 160 := hP.2.2.2.2.2.2
    have gs : (d 0).take (r.length + 1) = (x :: r).reverse := hP.2.2.2.1
    obtain ⟨t1, t2, t3⟩ := tk_last gs rfl
    simp only [Nat.add_sub_cancel] at t1 t2 t3
    have es : nI (r.length + 1) - 1 = nI r.length := nI_sub1 (by omega)
    have iv : vp_in (nI r.length) (d 0).length := by rw [hP.2.1.1]; exact vp_in_nI (by omega) (by decide)
    have ex : (d 0).getD (nI r.length).toNatClampNeg 0 = x := by rw [nIc (by omega)]; exact t2
    have e4 : (mc_up n 4 (nI r.length)) 4 = nI r.length := rfl
    have g5 : n 5 = op := hP.2.2.2.2.1
    have PP : ∀ y : Int32, vp_in (200 * m 4 + (mc_up (mc_up n 4 (nI r.length)) 5 y) 6) (b 4).length ∧ yPS t B (ypb m b (mc_up (mc_up n 4 (nI r.length)) 5 y) x) (ypn (mc_up (mc_up n 4 (nI r.length)) 5 y)) d r (o ++ [x]) y :=
      fun y => yPS_puts hP h4 ht rfl rfl rfl t1 (by omega)
    have KK : ∀ y : Int32, yK4 n0 (ypn (mc_up (mc_up n 4 (nI r.length)) 5 y)) := fun y => hK
    refine e_aloadn (pc := 0) dX7_unwinds_0 rfl ?_
    refine e_get (pc := 1) dX7_unwinds_1 fX7_112 rfl rfl ?_
    refine e_top (g4) ?_
    refine e_if_le (pc := 4) dX7_unwinds_4 (t := 79) (by decide) (fun c_4 => absurd c_4 (by rw [Int32.le_iff_toInt_le, nI_toInt (by omega), show (0 : Int32).toInt = 0 from rfl]; omega)) (fun _ => ?_)
    refine e_aloadn (pc := 7) dX7_unwinds_7 rfl ?_
    refine e_get (pc := 8) dX7_unwinds_8 fX7_53 rfl rfl ?_
    refine e_aloadn (pc := 11) dX7_unwinds_11 rfl ?_
    refine e_get (pc := 12) dX7_unwinds_12 fX7_112 rfl rfl ?_
    refine e_top (g4) ?_
    refine e_iconst (v := 1) (pc := 15) dX7_unwinds_15 (by decide) ?_
    refine e_isub (pc := 16) dX7_unwinds_16 ?_
    refine e_top (es) ?_
    refine aldv_held (pc := 17) dX7_unwinds_17 iv ex ?_
    refine e_csD (pc := 18) (sp_y_rank) dX7_unwinds_18 kX7_115 rfl rfl (mc_CR_of (Nat.le_of_ble_eq_true rfl) (Nat.le_of_ble_eq_true rfl) (Nat.le_refl _) (Nat.le_refl _)) (Nat.le_of_ble_eq_true rfl) ?_
    refine e_iloadn (pc := 21) dX7_unwinds_21 rfl ?_
    refine e_icmp_lt (pc := 22) dX7_unwinds_22 (t := 79) (by decide) (fun c_22 => ?_) (fun c_22 => ?_)
    · skip
      exact e_vret (pc := 79) dX7_unwinds_79 rfl (Nat.le_refl _) (Nat.le_refl _) ⟨rfl, b, n, (by rw [if_pos c_22] at hV; subst hV; exact hP), hK, rfl⟩
    · skip
      refine e_aloadn (pc := 25) dX7_unwinds_25 rfl ?_
      refine e_dup (pc := 26) dX7_unwinds_26 rfl ?_
      refine e_get (pc := 27) dX7_unwinds_27 fX7_112 rfl rfl ?_
      refine e_top (g4) ?_
      refine e_iconst (v := 1) (pc := 30) dX7_unwinds_30 (by decide) ?_
      refine e_isub (pc := 31) dX7_unwinds_31 ?_
      refine e_top (es) ?_
      refine put_y_heldMany (pc := 32) dX7_unwinds_32 pX7_112 ?_
      refine e_aloadn (pc := 35) dX7_unwinds_35 rfl ?_
      refine e_get (pc := 36) dX7_unwinds_36 fX7_53 rfl rfl ?_
      refine e_aloadn (pc := 39) dX7_unwinds_39 rfl ?_
      refine e_get (pc := 40) dX7_unwinds_40 fX7_112 rfl rfl ?_
      refine e_top (e4) ?_
      refine aldv_held (pc := 43) dX7_unwinds_43 iv ex ?_
      refine e_isn2 (pc := 44) dX7_unwinds_44 (Nat.le_of_ble_eq_true rfl) rfl ?_
      refine e_aloadn (pc := 45) dX7_unwinds_45 rfl ?_
      refine e_dup (pc := 46) dX7_unwinds_46 rfl ?_
      refine e_get (pc := 47) dX7_unwinds_47 fX7_119 rfl rfl ?_
      refine e_iloadn (pc := 50) dX7_unwinds_50 rfl ?_
      refine e_bipush (v := 13) (pc := 51) dX7_unwinds_51 (by decide) ?_
      refine e_icmp_eq (pc := 53) dX7_unwinds_53 (t := 62) (by decide) (fun c_53 => ?_) (fun c_53 => ?_)
      · skip
        refine e_iconst (v := 1) (pc := 62) dX7_unwinds_62 (by decide) ?_
        refine e_goto (pc := 63) dX7_unwinds_63 (t := 67) (by decide) ?_
        refine e_isub (pc := 67) dX7_unwinds_67 ?_
        refine put_y_opens (pc := 68) dX7_unwinds_68 pX7_119 ?_
        refine e_aloadn (pc := 71) dX7_unwinds_71 rfl ?_
        refine e_iloadn (pc := 72) dX7_unwinds_72 rfl ?_
        refine e_cvU (pc := 73) (sp_y_puts (PP _).1) dX7_unwinds_73 kX7_122 rfl rfl rfl rfl rfl (mc_CR_of (Nat.le_of_ble_eq_true rfl) (Nat.le_of_ble_eq_true rfl) (Nat.le_refl _) (Nat.le_refl _)) (Nat.le_of_ble_eq_true rfl) ?_
        refine e_goto (pc := 76) dX7_unwinds_76 (t := 0) (by decide) ?_
        rw [if_neg c_22, if_pos (Or.inl c_53), ← g5] at hV
        exact ih _ _ _ _ _ (PP (n 5 - 1)).2 (KK (n 5 - 1)) hV
      · skip
        refine e_iloadn (pc := 56) dX7_unwinds_56 rfl ?_
        refine e_bipush (v := 19) (pc := 57) dX7_unwinds_57 (by decide) ?_
        refine e_icmp_ne (pc := 59) dX7_unwinds_59 (t := 66) (by decide) (fun c_59 => ?_) (fun c_59 => ?_)
        · skip
          refine e_iconst (v := 0) (pc := 66) dX7_unwinds_66 (by decide) ?_
          refine e_isub (pc := 67) dX7_unwinds_67 ?_
          refine put_y_opens (pc := 68) dX7_unwinds_68 pX7_119 ?_
          refine e_aloadn (pc := 71) dX7_unwinds_71 rfl ?_
          refine e_iloadn (pc := 72) dX7_unwinds_72 rfl ?_
          refine e_cvU (pc := 73) (sp_y_puts (PP _).1) dX7_unwinds_73 kX7_122 rfl rfl rfl rfl rfl (mc_CR_of (Nat.le_of_ble_eq_true rfl) (Nat.le_of_ble_eq_true rfl) (Nat.le_refl _) (Nat.le_refl _)) (Nat.le_of_ble_eq_true rfl) ?_
          refine e_goto (pc := 76) dX7_unwinds_76 (t := 0) (by decide) ?_
          rw [if_neg c_22, if_neg (fun q => q.elim c_53 c_59), ← g5] at hV
          exact ih _ _ _ _ _ (PP (n 5 - 0)).2 (KK (n 5 - 0)) hV
        · skip
          refine e_iconst (v := 1) (pc := 62) dX7_unwinds_62 (by decide) ?_
          refine e_goto (pc := 63) dX7_unwinds_63 (t := 67) (by decide) ?_
          refine e_isub (pc := 67) dX7_unwinds_67 ?_
          refine put_y_opens (pc := 68) dX7_unwinds_68 pX7_119 ?_
          refine e_aloadn (pc := 71) dX7_unwinds_71 rfl ?_
          refine e_iloadn (pc := 72) dX7_unwinds_72 rfl ?_
          refine e_cvU (pc := 73) (sp_y_puts (PP _).1) dX7_unwinds_73 kX7_122 rfl rfl rfl rfl rfl (mc_CR_of (Nat.le_of_ble_eq_true rfl) (Nat.le_of_ble_eq_true rfl) (Nat.le_refl _) (Nat.le_refl _)) (Nat.le_of_ble_eq_true rfl) ?_
          refine e_goto (pc := 76) dX7_unwinds_76 (t := 0) (by decide) ?_
          rw [if_neg c_22, if_pos (Or.inr c_59), ← g5] at hV
          exact ih _ _ _ _ _ (PP (n 5 - 1)).2 (KK (n 5 - 1)) hV
end Zj_44_y25
section Zj_45_y26
/-! signs between -/
theorem sp_y_unwinds {s u m n : Nat → Int32} {a c b d : Nat → List Int32} {q : List (Option Nat)} {h : Nat} {z : mc_W} {t : Nat} {B : Nat → List Int32} {le op : Int32} {st o : List Int32} (h4 : m 4 = nI t) (ht : t < 6) (hP : yPS t B b n d st o op) : mc_T yX7_unwinds cX7_unwinds 3 none 2 [.ref 29, .int le] (WW s a q u c h m b n d z) none (fun w' => ∃ b1 n1, yPS t B b1 n1 d (yuw le st o op).1 (yuw le st o op).2.1 (yuw le st o op).2.2 ∧ yK4 n n1 ∧ w' = WW s a q u c h m b1 n1 d z) := by
  refine mc_start (own := RX7) (ini := false) rfl (by decide +kernel) (fun h => by cases h) (Nat.le_of_ble_eq_true rfl) ?_
  show mc_E _ _ _ _ _ [some (.ref 29), some (.int le), none] [] _ _ _
  exact lp_y_unwinds (n0 := n) h4 ht st o op b n none hP ⟨rfl, rfl, rfl, rfl, rfl⟩ rfl
theorem yuw_len (le : Int32) : ∀ st o op, (yuw le st o op).2.1.length + (yuw le st o op).1.length = o.length + st.length := by
  intro st
  induction st with
  | nil => intro o op; rfl
  | cons x r ih =>
    intro o op
    unfold yuw
    split
    · rfl
    · rw [ih, List.length_append]; simp; omega
theorem yK4.tr {n n1 n2 : Nat → Int32} (h : yK4 n n1) (k : yK4 n1 n2) : yK4 n n2 :=
  ⟨k.1.trans h.1, k.2.1.trans h.2.1, k.2.2.1.trans h.2.2.1, k.2.2.2.1.trans h.2.2.2.1, k.2.2.2.2.trans h.2.2.2.2⟩
/-- one more is held -/
theorem yPS_holds {t : Nat} {B b : Nat → List Int32} {n n1 : Nat → Int32} {d : Nat → List Int32} {st o : List Int32} {op op1 x : Int32} (h : yPS t B b n d st o op)
    (k4 : n1 4 = n 4) (k5 : n1 5 = op1) (k6 : n1 6 = n 6) (kl : o.length + st.length < 160) :
    vp_in (n1 4) (d 0).length ∧ yPS t B b (yhn n1) (yhd n1 d x) (x :: st) o op1 := by
  obtain ⟨hl, hD, g4, gs, g5, g6, gl⟩ := h
  have e : n1 4 = nI st.length := k4.trans g4
  refine ⟨by rw [e, hD.1]; exact vp_in_nI (by omega) (by decide), hl, ⟨?_, hD.2.1, hD.2.2.1, hD.2.2.2⟩, ?_, ?_, k5, k6.trans g6, by simp; omega⟩
  · show ((d 0).set _ x).length = 200
    rw [List.length_set]; exact hD.1
  · show n1 4 + 1 = _
    rw [e, nI_1]; rfl
  · show ((d 0).set (n1 4).toNatClampNeg x).take (st.length + 1) = _
    rw [e, nIc (by omega), tk_set _ _ _ (by rw [hD.1]; omega), gs, List.reverse_cons]
def ybt2 (sg : Int32) (o : List Int32) (op : Int32) : List Int32 → Bool × List Int32 × List Int32 × Int32
  | [] => (true, [sg], o, op)
  | x :: r => if yy_rk sg = 4 ∧ yy_rk x = 4 then (false, x :: r, o, op) else (true, sg :: x :: r, o, op)
def ybt (sg : Int32) (st o : List Int32) (op : Int32) : Bool × List Int32 × List Int32 × Int32 :=
  ybt2 sg (yuw (if yy_rk sg = 4 then 5 else yy_rk sg) st o op).2.1 (yuw (if yy_rk sg = 4 then 5 else yy_rk sg) st o op).2.2 (yuw (if yy_rk sg = 4 then 5 else yy_rk sg) st o op).1
theorem lp_y_btw {s u m : Nat → Int32} {a c : Nat → List Int32} {q : List (Option Nat)} {h : Nat} {z : mc_W} {t : Nat} {B : Nat → List Int32} {n0 : Nat → Int32} {sg : Int32} {V : Bool × List Int32 × List Int32 × Int32} :
    ∀ (st o : List Int32) (op : Int32) (b : Nat → List Int32) (n : Nat → Int32) (d : Nat → List Int32), yPS t B b n d st o op → o.length + st.length < 160 → yK4 n0 n → ybt2 sg o op st = V →
      mc_E RX7 cX7_between 2 (mc_JM (some .boolean) false 3 0 0 (fun r' w' => r' = some (.int (mc_b V.1)) ∧ ∃ b1 n1 d1, yPS t B b1 n1 d1 V.2.1 V.2.2.1 V.2.2.2 ∧ yK4 n0 n1 ∧ w' = WW s a q u c h m b1 n1 d1 z)) 20 [some (.ref 29), some (.int sg)] [] (WW s a q u c h m b n d z) 0 0 := by
  intro st o op b n d hP hl hK hV
  have HH := yPS_holds (x := sg) hP rfl hP.2.2.2.2.1 rfl hl
  cases st with
  | nil =>
    have hV : (true, [sg], o, op) = V := hV
    subst hV
    have g4 : n 4 = nI 0 := hP.2.2.1
    refine e_iloadn (pc := 20) dX7_between_20 rfl ?_
    refine e_csD (pc := 21) (sp_y_rank) dX7_between_21 kX7_115 rfl rfl (mc_CR_of (Nat.le_of_ble_eq_true rfl) (Nat.le_of_ble_eq_true rfl) (Nat.le_refl _) (Nat.le_refl _)) (Nat.le_of_ble_eq_true rfl) ?_
    refine e_iconst (v := 4) (pc := 24) dX7_between_24 (by decide) ?_
    refine e_icmp_ne (pc := 25) dX7_between_25 (t := 55) (by decide) (fun c_25 => ?_) (fun c_25 => ?_)
    · skip
      refine e_aloadn (pc := 55) dX7_between_55 rfl ?_
      refine e_iloadn (pc := 56) dX7_between_56 rfl ?_
      refine e_cvU (pc := 57) (sp_y_holds HH.1) dX7_between_57 kX7_126 rfl rfl rfl rfl rfl (mc_CR_of (Nat.le_of_ble_eq_true rfl) (Nat.le_of_ble_eq_true rfl) (Nat.le_refl _) (Nat.le_refl _)) (Nat.le_of_ble_eq_true rfl) ?_
      refine e_iconst (v := 1) (pc := 60) dX7_between_60 (by decide) ?_
      exact e_zret (pc := 61) dX7_between_61 rfl (by rfl) (Nat.le_refl _) (Nat.le_refl _) ⟨rfl, _, _, _, HH.2, hK, rfl⟩
    · skip
      refine e_aloadn (pc := 28) dX7_between_28 rfl ?_
      refine e_get (pc := 29) dX7_between_29 fX7_112 rfl rfl ?_
      refine e_top (g4) ?_
      refine e_if_le (pc := 32) dX7_between_32 (t := 55) (by decide) (fun _ => ?_) (fun c_32 => absurd (by decide) c_32)
      refine e_aloadn (pc := 55) dX7_between_55 rfl ?_
      refine e_iloadn (pc := 56) dX7_between_56 rfl ?_
      refine e_cvU (pc := 57) (sp_y_holds HH.1) dX7_between_57 kX7_126 rfl rfl rfl rfl rfl (mc_CR_of (Nat.le_of_ble_eq_true rfl) (Nat.le_of_ble_eq_true rfl) (Nat.le_refl _) (Nat.le_refl _)) (Nat.le_of_ble_eq_true rfl) ?_
      refine e_iconst (v := 1) (pc := 60) dX7_between_60 (by decide) ?_
      exact e_zret (pc := 61) dX7_between_61 rfl (by rfl) (Nat.le_refl _) (Nat.le_refl _) ⟨rfl, _, _, _, HH.2, hK, rfl⟩
  | cons x r =>
    simp only [ybt2] at hV
    have g4 : n 4 = nI (r.length + 1) := hP.2.2.1
    have gl : o.length + (r.length + 1) ≤ 160 := hP.2.2.2.2.2.2
    have gs : (d 0).take (r.length + 1) = (x :: r).reverse := hP.2.2.2.1
    obtain ⟨t1, t2, t3⟩ := tk_last gs rfl
    simp only [Nat.add_sub_cancel] at t1 t2 t3
    have es : nI (r.length + 1) - 1 = nI r.length := nI_sub1 (by omega)
    have iv : vp_in (nI r.length) (d 0).length := by rw [hP.2.1.1]; exact vp_in_nI (by omega) (by decide)
    have ex : (d 0).getD (nI r.length).toNatClampNeg 0 = x := by rw [nIc (by omega)]; exact t2
    refine e_iloadn (pc := 20) dX7_between_20 rfl ?_
    refine e_csD (pc := 21) (sp_y_rank) dX7_between_21 kX7_115 rfl rfl (mc_CR_of (Nat.le_of_ble_eq_true rfl) (Nat.le_of_ble_eq_true rfl) (Nat.le_refl _) (Nat.le_refl _)) (Nat.le_of_ble_eq_true rfl) ?_
    refine e_iconst (v := 4) (pc := 24) dX7_between_24 (by decide) ?_
    refine e_icmp_ne (pc := 25) dX7_between_25 (t := 55) (by decide) (fun c_25 => ?_) (fun c_25 => ?_)
    · skip
      refine e_aloadn (pc := 55) dX7_between_55 rfl ?_
      refine e_iloadn (pc := 56) dX7_between_56 rfl ?_
      refine e_cvU (pc := 57) (sp_y_holds HH.1) dX7_between_57 kX7_126 rfl rfl rfl rfl rfl (mc_CR_of (Nat.le_of_ble_eq_true rfl) (Nat.le_of_ble_eq_true rfl) (Nat.le_refl _) (Nat.le_refl _)) (Nat.le_of_ble_eq_true rfl) ?_
      refine e_iconst (v := 1) (pc := 60) dX7_between_60 (by decide) ?_
      exact e_zret (pc := 61) dX7_between_61 rfl (by rfl) (Nat.le_refl _) (Nat.le_refl _) (by rw [if_neg (fun q => c_25 q.1)] at hV; subst hV; exact ⟨rfl, _, _, _, HH.2, hK, rfl⟩)
    · skip
      refine e_aloadn (pc := 28) dX7_between_28 rfl ?_
      refine e_get (pc := 29) dX7_between_29 fX7_112 rfl rfl ?_
      refine e_top (g4) ?_
      refine e_if_le (pc := 32) dX7_between_32 (t := 55) (by decide) (fun c_32 => absurd c_32 (by rw [Int32.le_iff_toInt_le, nI_toInt (by omega), show (0 : Int32).toInt = 0 from rfl]; omega)) (fun _ => ?_)
      refine e_aloadn (pc := 35) dX7_between_35 rfl ?_
      refine e_get (pc := 36) dX7_between_36 fX7_53 rfl rfl ?_
      refine e_aloadn (pc := 39) dX7_between_39 rfl ?_
      refine e_get (pc := 40) dX7_between_40 fX7_112 rfl rfl ?_
      refine e_top (g4) ?_
      refine e_iconst (v := 1) (pc := 43) dX7_between_43 (by decide) ?_
      refine e_isub (pc := 44) dX7_between_44 ?_
      refine e_top (es) ?_
      refine aldv_held (pc := 45) dX7_between_45 iv ex ?_
      refine e_csD (pc := 46) (sp_y_rank) dX7_between_46 kX7_115 rfl rfl (mc_CR_of (Nat.le_of_ble_eq_true rfl) (Nat.le_of_ble_eq_true rfl) (Nat.le_refl _) (Nat.le_refl _)) (Nat.le_of_ble_eq_true rfl) ?_
      refine e_iconst (v := 4) (pc := 49) dX7_between_49 (by decide) ?_
      refine e_icmp_ne (pc := 50) dX7_between_50 (t := 55) (by decide) (fun c_50 => ?_) (fun c_50 => ?_)
      · skip
        refine e_aloadn (pc := 55) dX7_between_55 rfl ?_
        refine e_iloadn (pc := 56) dX7_between_56 rfl ?_
        refine e_cvU (pc := 57) (sp_y_holds HH.1) dX7_between_57 kX7_126 rfl rfl rfl rfl rfl (mc_CR_of (Nat.le_of_ble_eq_true rfl) (Nat.le_of_ble_eq_true rfl) (Nat.le_refl _) (Nat.le_refl _)) (Nat.le_of_ble_eq_true rfl) ?_
        refine e_iconst (v := 1) (pc := 60) dX7_between_60 (by decide) ?_
        exact e_zret (pc := 61) dX7_between_61 rfl (by rfl) (Nat.le_refl _) (Nat.le_refl _) (by rw [if_neg (fun q => c_50 q.2)] at hV; subst hV; exact ⟨rfl, _, _, _, HH.2, hK, rfl⟩)
      · skip
        refine e_iconst (v := 0) (pc := 53) dX7_between_53 (by decide) ?_
        exact e_zret (pc := 54) dX7_between_54 rfl (by rfl) (Nat.le_refl _) (Nat.le_refl _) (by rw [if_pos ⟨c_25, c_50⟩] at hV; subst hV; exact ⟨rfl, _, _, _, hP, hK, rfl⟩)
theorem sp_y_between {s u m n : Nat → Int32} {a c b d : Nat → List Int32} {q : List (Option Nat)} {h : Nat} {z : mc_W} {t : Nat} {B : Nat → List Int32} {sg op : Int32} {st o : List Int32} (h4 : m 4 = nI t) (ht : t < 6) (hP : yPS t B b n d st o op) (hl : o.length + st.length < 160) : mc_T yX7_between cX7_between 2 (some .boolean) 3 [.ref 29, .int sg] (WW s a q u c h m b n d z) (some (.int (mc_b (ybt sg st o op).1))) (fun w' => ∃ b1 n1 d1, yPS t B b1 n1 d1 (ybt sg st o op).2.1 (ybt sg st o op).2.2.1 (ybt sg st o op).2.2.2 ∧ yK4 n n1 ∧ w' = WW s a q u c h m b1 n1 d1 z) := by
  refine mc_start (own := RX7) (ini := false) rfl (by decide +kernel) (fun h => by cases h) (Nat.le_of_ble_eq_true rfl) ?_
  show mc_E _ _ _ _ _ [some (.ref 29), some (.int sg)] [] _ _ _
  refine e_aloadn (pc := 0) dX7_between_0 rfl ?_
  refine e_iloadn (pc := 1) dX7_between_1 rfl ?_
  refine e_csD (pc := 2) (sp_y_rank) dX7_between_2 kX7_115 rfl rfl (mc_CR_of (Nat.le_of_ble_eq_true rfl) (Nat.le_of_ble_eq_true rfl) (Nat.le_refl _) (Nat.le_refl _)) (Nat.le_of_ble_eq_true rfl) ?_
  refine e_iconst (v := 4) (pc := 5) dX7_between_5 (by decide) ?_
  refine e_icmp_ne (pc := 6) dX7_between_6 (t := 13) (by decide) (fun c_6 => ?_) (fun c_6 => ?_)
  · skip
    refine e_iloadn (pc := 13) dX7_between_13 rfl ?_
    refine e_csD (pc := 14) (sp_y_rank) dX7_between_14 kX7_115 rfl rfl (mc_CR_of (Nat.le_of_ble_eq_true rfl) (Nat.le_of_ble_eq_true rfl) (Nat.le_refl _) (Nat.le_refl _)) (Nat.le_of_ble_eq_true rfl) ?_
    refine e_cvY (pc := 17) (sp_y_unwinds h4 ht hP) dX7_between_17 kX7_129 rfl rfl rfl rfl rfl (mc_CR_of (Nat.le_of_ble_eq_true rfl) (Nat.le_of_ble_eq_true rfl) (Nat.le_refl _) (Nat.le_refl _)) (Nat.le_of_ble_eq_true rfl) (fun w1 hw1 => ?_)
    obtain ⟨b1, n1, hP1, hK1, rfl⟩ := hw1
    have ele : (if yy_rk sg = 4 then (5 : Int32) else yy_rk sg) = yy_rk sg := if_neg c_6
    exact lp_y_btw (n0 := n) _ _ _ b1 n1 d hP1 (by rw [yuw_len]; exact hl) hK1 (by unfold ybt; rw [ele])
  · skip
    refine e_iconst (v := 5) (pc := 9) dX7_between_9 (by decide) ?_
    refine e_goto (pc := 10) dX7_between_10 (t := 17) (by decide) ?_
    refine e_cvY (pc := 17) (sp_y_unwinds h4 ht hP) dX7_between_17 kX7_129 rfl rfl rfl rfl rfl (mc_CR_of (Nat.le_of_ble_eq_true rfl) (Nat.le_of_ble_eq_true rfl) (Nat.le_refl _) (Nat.le_refl _)) (Nat.le_of_ble_eq_true rfl) (fun w1 hw1 => ?_)
    obtain ⟨b1, n1, hP1, hK1, rfl⟩ := hw1
    have ele : (if yy_rk sg = 4 then (5 : Int32) else yy_rk sg) = 5 := if_pos c_6
    exact lp_y_btw (n0 := n) _ _ _ b1 n1 d hP1 (by rw [yuw_len]; exact hl) hK1 (by unfold ybt; rw [ele])
end Zj_45_y26
section Zj_46_y27
/-! an E -/
theorem yPS_n {t : Nat} {B b : Nat → List Int32} {n n1 : Nat → Int32} {d : Nat → List Int32} {st o : List Int32} {op : Int32} (h : yPS t B b n d st o op) (k : ∀ j, 4 ≤ j → n1 j = n j) : yPS t B b n1 d st o op :=
  ⟨h.1, h.2.1, (k 4 (by decide)).trans h.2.2.1, h.2.2.2.1, (k 5 (by decide)).trans h.2.2.2.2.1, (k 6 (by decide)).trans h.2.2.2.2.2.1, h.2.2.2.2.2.2⟩
theorem yPS_pop {t : Nat} {B b : Nat → List Int32} {n n1 : Nat → Int32} {d : Nat → List Int32} {x : Int32} {r o : List Int32} {op op1 : Int32} (h : yPS t B b n d (x :: r) o op) (k4 : n1 4 = nI r.length) (k5 : n1 5 = op1) (k6 : n1 6 = n 6) : yPS t B b n1 d r o op1 := by
  obtain ⟨hl, hD, g4, gs, g5, g6, gl⟩ := h
  have t1 := (tk_last (N := r.length + 1) gs rfl).1
  simp only [Nat.add_sub_cancel] at t1
  exact ⟨hl, hD, k4, t1, k5, k6.trans g6, by simp at gl; omega⟩
theorem yPS.L {t : Nat} {B b : Nat → List Int32} {n : Nat → Int32} {d : Nat → List Int32} {st o : List Int32} {op : Int32} (h : yPS t B b n d st o op) (hL : yL B) : yL b ∧ yt3 b = yt3 B := by
  obtain ⟨⟨l, hb, hl, -⟩, -⟩ := h
  subst hb
  exact ⟨⟨hL.1, hL.2.1, hL.2.2.1, hL.2.2.2.1, hl, hL.2.2.2.2.2.1, hL.2.2.2.2.2.2.1, hL.2.2.2.2.2.2.2.1, hL.2.2.2.2.2.2.2.2.1, hL.2.2.2.2.2.2.2.2.2⟩, rfl⟩
theorem ynx_lt (T : Nat → Int32) (N A0 : Nat) (h : A0 ≤ N) : A0 ≤ (ynx T N A0).2.1 ∧ (ynx T N A0).2.1 ≤ N ∧ ((ynx T N A0).2.2.1 ≠ 0 → A0 < (ynx T N A0).2.1) := by
  obtain ⟨p1, p2⟩ := yws_le T N (N - A0) A0 h
  unfold ynx
  generalize yws T N (N - A0) A0 = P at p1 p2
  by_cases e1 : P = N
  · rw [if_pos e1]; exact ⟨h, Nat.le_refl _, fun q => absurd rfl q⟩
  · rw [if_neg e1]
    by_cases e2 : mc_wi (T P) 97 122 = true
    · rw [if_pos e2]
      have g : P < ylt T N (N - P) P := by
        obtain ⟨f, hf⟩ : ∃ f, N - P = f + 1 := ⟨N - P - 1, by omega⟩
        rw [hf, ylt, if_pos ⟨by omega, e2⟩]
        have := (ylt_le T N f (P + 1) (by omega)).1; omega
      have := (ylt_le T N (N - P) P p2).2
      exact ⟨Nat.le_trans p1 (Nat.le_of_lt g), this, fun _ => Nat.lt_of_le_of_lt p1 g⟩
    · rw [if_neg e2]
      by_cases e3 : mc_wi (T P) 48 57 = true
      · rw [if_pos e3]
        have g : P < (yda T N (N - P) P 0 0).1 := by
          obtain ⟨f, hf⟩ : ∃ f, N - P = f + 1 := ⟨N - P - 1, by omega⟩
          rw [hf, yda, if_pos ⟨by omega, e3⟩]
          have := (yda_k T N f (P + 1) (0 + 1) (if 0 < 4 then 10 * 0 + T P - 48 else 0) (by omega)).2.1; omega
        have := (yda_k T N (N - P) P 0 0 p2).2.2
        exact ⟨Nat.le_trans p1 (Nat.le_of_lt g), this, fun _ => Nat.lt_of_le_of_lt p1 g⟩
      · rw [if_neg e3]
        exact ⟨Nat.le_succ_of_le p1, Nat.succ_le_of_lt (Nat.lt_of_le_of_ne p2 e1), fun _ => Nat.lt_succ_of_le p1⟩
/-- ok, at, begun, held, put, opens -/
def yer (T : Nat → Int32) (N : Nat) : Nat → Nat → Bool → Bool → List Int32 → List Int32 → Int32 → Bool × Nat × Nat × List Int32 × List Int32 × Int32
  | 0, A, _, _, st, o, op => (false, A, A, st, o, op)
  | f + 1, A, true, my, st, o, op =>
    if (ynx T N A).2.2.1 = 1 ∨ (ynx T N A).2.2.1 = 2 then
      yer T N f (ynx T N A).2.1 false my (yuw 7 st (o ++ [if (ynx T N A).2.2.1 = 1 then 100000 + (ynx T N A).2.2.2 else (ynx T N A).2.2.2]) op).1
        (yuw 7 st (o ++ [if (ynx T N A).2.2.1 = 1 then 100000 + (ynx T N A).2.2.2 else (ynx T N A).2.2.2]) op).2.1
        (yuw 7 st (o ++ [if (ynx T N A).2.2.1 = 1 then 100000 + (ynx T N A).2.2.2 else (ynx T N A).2.2.2]) op).2.2
    else if (ynx T N A).2.2.1 = 6 ∧ my = true then (if op = 5 then (false, (ynx T N A).2.1, (ynx T N A).1, st, o, op) else yer T N f (ynx T N A).2.1 true my (13 :: st) o (op + 1))
    else if (ynx T N A).2.2.1 = 45 then (if op = 5 then (false, (ynx T N A).2.1, (ynx T N A).1, st, o, op) else yer T N f (ynx T N A).2.1 true false (19 :: st) o (op + 1))
    else if (ynx T N A).2.2.1 = 40 then (if op = 5 then (false, (ynx T N A).2.1, (ynx T N A).1, st, o, op) else yer T N f (ynx T N A).2.1 true true (0 :: st) o (op + 1))
    else (false, (ynx T N A).2.1, (ynx T N A).1, st, o, op)
  | f + 1, A, false, my, st, o, op =>
    if (ynx T N A).2.2.1 = 59 then ((yuw 1 st o op).1.isEmpty, (ynx T N A).2.1, (ynx T N A).1, (yuw 1 st o op).1, (yuw 1 st o op).2.1, (yuw 1 st o op).2.2)
    else if (ynx T N A).2.2.1 = 41 then
      (if (yuw 1 st o op).1.isEmpty = true then (false, (ynx T N A).2.1, (ynx T N A).1, (yuw 1 st o op).1, (yuw 1 st o op).2.1, (yuw 1 st o op).2.2)
       else yer T N f (ynx T N A).2.1 false my (yuw 7 (yuw 1 st o op).1.tail (yuw 1 st o op).2.1 ((yuw 1 st o op).2.2 - 1)).1 (yuw 7 (yuw 1 st o op).1.tail (yuw 1 st o op).2.1 ((yuw 1 st o op).2.2 - 1)).2.1 (yuw 7 (yuw 1 st o op).1.tail (yuw 1 st o op).2.1 ((yuw 1 st o op).2.2 - 1)).2.2)
    else if ysg (ynx T N A).2.2.1 = -1 then (false, (ynx T N A).2.1, (ynx T N A).1, st, o, op)
    else if (ybt (ysg (ynx T N A).2.2.1) st o op).1 = false then (false, (ynx T N A).2.1, (ynx T N A).1, (ybt (ysg (ynx T N A).2.2.1) st o op).2.1, (ybt (ysg (ynx T N A).2.2.1) st o op).2.2.1, (ybt (ysg (ynx T N A).2.2.1) st o op).2.2.2)
    else yer T N f (ynx T N A).2.1 true (decide (ysg (ynx T N A).2.2.1 ≤ 12)) (ybt (ysg (ynx T N A).2.2.1) st o op).2.1 (ybt (ysg (ynx T N A).2.2.1) st o op).2.2.1 (ybt (ysg (ynx T N A).2.2.1) st o op).2.2.2
theorem ybt_len (sg : Int32) (st o : List Int32) (op : Int32) : (ybt sg st o op).2.2.1.length + (ybt sg st o op).2.1.length ≤ o.length + st.length + 1 := by
  unfold ybt
  have := yuw_len (if yy_rk sg = 4 then 5 else yy_rk sg) st o op
  generalize yuw (if yy_rk sg = 4 then 5 else yy_rk sg) st o op = U at this
  obtain ⟨s1, o1, p1⟩ := U
  cases s1 with
  | nil => show o1.length + 1 ≤ _; simp at this; omega
  | cons x r =>
    simp at this
    by_cases hh : yy_rk sg = 4 ∧ yy_rk x = 4
    · simp only [ybt2, if_pos hh]; simp; omega
    · simp only [ybt2, if_neg hh]; simp; omega
end Zj_46_y27
section Zj_47_y28
theorem emT {t : Nat} {B b : Nat → List Int32} {n : Nat → Int32} {d : Nat → List Int32} {st o : List Int32} {op : Int32} (h : yPS t B b n d st o op) (e : n 4 = 0) : st.isEmpty = true := by
  have g4 := h.2.2.1
  have gl := h.2.2.2.2.2.2
  cases st with
  | nil => rfl
  | cons x r =>
    rw [g4] at e
    simp at gl
    exact absurd ((nI_eq (a := (x :: r).length) (b := 0) (by simp; omega) (by decide)).mp e) (by simp)
theorem emF {t : Nat} {B b : Nat → List Int32} {n : Nat → Int32} {d : Nat → List Int32} {st o : List Int32} {op : Int32} (h : yPS t B b n d st o op) (e : ¬ n 4 = 0) : st.isEmpty = false := by
  cases st with
  | nil => exact absurd h.2.2.1 e
  | cons x r => rfl
theorem emC {t : Nat} {B b : Nat → List Int32} {n : Nat → Int32} {d : Nat → List Int32} {st o : List Int32} {op : Int32} (h : yPS t B b n d st o op) (e : ¬ n 4 = 0) : ∃ x r, st = x :: r := by
  cases st with
  | nil => exact absurd h.2.2.1 e
  | cons x r => exact ⟨x, r, rfl⟩
set_option maxHeartbeats 2000000 in
theorem lp_y_er {s u m : Nat → Int32} {a c : Nat → List Int32} {q : List (Option Nat)} {h : Nat} {z : mc_W} {t : Nat} {B : Nat → List Int32} {N : Nat} {V : Bool × Nat × Nat × List Int32 × List Int32 × Int32} (hL : yL B) (hN : m 3 = nI N) (hN2 : N ≤ 160) (h4 : m 4 = nI t) (ht : t < 6) :
    ∀ (f A0 : Nat) (wn my : Bool) (st o : List Int32) (op : Int32) (b : Nat → List Int32) (n : Nat → Int32) (d : Nat → List Int32) (x3 : Option Value), N + 1 ≤ A0 + f → A0 ≤ N → n 0 = nI A0 → yPS t B b n d st o op → o.length + st.length ≤ A0 → yer (yt3 B) N f A0 wn my st o op = V →
      mc_E RX7 cX7_eRead 4 (mc_JM (some .boolean) false 4 0 0 (fun r' w' => r' = some (.int (mc_b V.1)) ∧ ∃ b1 n1 d1, yPS t B b1 n1 d1 V.2.2.2.1 V.2.2.2.2.1 V.2.2.2.2.2 ∧ n1 0 = nI V.2.1 ∧ n1 1 = nI V.2.2.1 ∧ w' = WW s a q u c h m b1 n1 d1 z)) 14 [some (.ref 29), some (.int (mc_b wn)), some (.int (mc_b my)), x3] [] (WW s a q u c h m b n d z) 0 0 := by
  intro f
  induction f with
  | zero => intro A0 wn my st o op b n d x3 hf hA; omega
  | succ f ih =>
    intro A0 wn my st o op b n d x3 hf hA h0 hP hl hV
    obtain ⟨hLb, eT⟩ := hP.L hL
    obtain ⟨k1, k2, k3⟩ := ynx_lt (yt3 B) N A0 hA
    cases wn with
    | true =>
      simp only [yer] at hV
      refine e_aloadn (pc := 14) dX7_eRead_14 rfl ?_
      refine e_cvY (pc := 15) (sp_y_next hLb hN hN2 hA h0) dX7_eRead_15 kX7_132 rfl rfl rfl rfl rfl (mc_CR_of (Nat.le_of_ble_eq_true rfl) (Nat.le_of_ble_eq_true rfl) (Nat.le_refl _) (Nat.le_refl _)) (Nat.le_of_ble_eq_true rfl) (fun w1 hw1 => ?_)
      obtain ⟨n1, hX, rfl⟩ := hw1
      rw [eT] at hX
      generalize ynx (yt3 B) N A0 = R at hX hV k1 k2 k3
      obtain ⟨bg, A1, tk, vl⟩ := R
      obtain ⟨j0, j1, j2, j3, j4⟩ := hX
      simp only at j0 j1 j2 j3 hV k1 k2 k3
      have hP1 := yPS_n hP j4
      have g5 : n1 5 = op := hP1.2.2.2.2.1
      have HO : tk ≠ 0 → ∀ x y : Int32, vp_in ((mc_up n1 5 y) 4) (d 0).length ∧ yPS t B b (yhn (mc_up n1 5 y)) (yhd (mc_up n1 5 y) d x) (x :: st) o y := fun hk x y => yPS_holds (x := x) hP1 rfl rfl rfl (by have := k3 hk; omega)
      have HQ : tk ≠ 0 → ∀ x : Int32, vp_in (200 * m 4 + n1 6) (b 4).length ∧ yPS t B (ypb m b n1 x) (ypn n1) d st (o ++ [x]) op := fun hk x => yPS_puts (x := x) hP1 h4 ht hP1.2.2.1 g5 rfl hP1.2.2.2.1 (by have := k3 hk; omega)
      refine e_iloadn (pc := 18) dX7_eRead_18 rfl ?_
      refine e_if_eq (pc := 19) dX7_eRead_19 (t := 150) (by decide) (fun c_19 => absurd c_19 (by decide)) (fun _ => ?_)
      refine e_aloadn (pc := 22) dX7_eRead_22 rfl ?_
      refine e_get (pc := 23) dX7_eRead_23 fX7_99 rfl rfl ?_
      refine e_top (j2) ?_
      refine e_iconst (v := 1) (pc := 26) dX7_eRead_26 (by decide) ?_
      refine e_icmp_eq (pc := 27) dX7_eRead_27 (t := 38) (by decide) (fun c_27 => ?_) (fun c_27 => ?_)
      · skip
        refine e_aloadn (pc := 38) dX7_eRead_38 rfl ?_
        refine e_aloadn (pc := 39) dX7_eRead_39 rfl ?_
        refine e_get (pc := 40) dX7_eRead_40 fX7_99 rfl rfl ?_
        refine e_top (j2) ?_
        refine e_iconst (v := 1) (pc := 43) dX7_eRead_43 (by decide) ?_
        refine e_icmp_ne (pc := 44) dX7_eRead_44 (t := 57) (by decide) (fun c_44 => absurd c_44 (fun w => w c_27)) (fun _ => ?_)
        refine e_ldc (pc := 47) dX7_eRead_47 qX7_135 ?_
        refine e_aloadn (pc := 49) dX7_eRead_49 rfl ?_
        refine e_get (pc := 50) dX7_eRead_50 fX7_102 rfl rfl ?_
        refine e_top (j3) ?_
        refine e_iadd (pc := 53) dX7_eRead_53 ?_
        refine e_goto (pc := 54) dX7_eRead_54 (t := 61) (by decide) ?_
        refine e_cvU (pc := 61) (sp_y_puts (HQ (by first | (rw [c_27]; decide) | (rw [c_35]; decide)) 0).1) dX7_eRead_61 kX7_122 rfl rfl rfl rfl rfl (mc_CR_of (Nat.le_of_ble_eq_true rfl) (Nat.le_of_ble_eq_true rfl) (Nat.le_refl _) (Nat.le_refl _)) (Nat.le_of_ble_eq_true rfl) ?_
        refine e_aloadn (pc := 64) dX7_eRead_64 rfl ?_
        refine e_bipush (v := 7) (pc := 65) dX7_eRead_65 (by decide) ?_
        refine e_cvY (pc := 67) (sp_y_unwinds h4 ht (HQ (by first | (rw [c_27]; decide) | (rw [c_35]; decide)) _).2) dX7_eRead_67 kX7_129 rfl rfl rfl rfl rfl (mc_CR_of (Nat.le_of_ble_eq_true rfl) (Nat.le_of_ble_eq_true rfl) (Nat.le_refl _) (Nat.le_refl _)) (Nat.le_of_ble_eq_true rfl) (fun w1 hw1 => ?_)
        obtain ⟨b2, n2, hP2, hK2, rfl⟩ := hw1
        refine e_iconst (v := 0) (pc := 70) dX7_eRead_70 (by decide) ?_
        refine e_isn1 (pc := 71) dX7_eRead_71 (Nat.le_of_ble_eq_true rfl) rfl ?_
        refine e_goto (pc := 72) dX7_eRead_72 (t := 14) (by decide) ?_
        rw [if_pos (Or.inl c_27), if_pos c_27] at hV
        exact ih A1 false my _ _ _ _ _ _ _ (by have := k3 (by rw [c_27]; decide); omega) k2 (hK2.1.trans j0) hP2 (by rw [yuw_len, List.length_append]; have := k3 (by rw [c_27]; decide); simp; omega) hV
      · skip
        refine e_aloadn (pc := 30) dX7_eRead_30 rfl ?_
        refine e_get (pc := 31) dX7_eRead_31 fX7_99 rfl rfl ?_
        refine e_top (j2) ?_
        refine e_iconst (v := 2) (pc := 34) dX7_eRead_34 (by decide) ?_
        refine e_icmp_ne (pc := 35) dX7_eRead_35 (t := 75) (by decide) (fun c_35 => ?_) (fun c_35 => ?_)
        · skip
          refine e_aloadn (pc := 75) dX7_eRead_75 rfl ?_
          refine e_get (pc := 76) dX7_eRead_76 fX7_99 rfl rfl ?_
          refine e_top (j2) ?_
          refine e_bipush (v := 6) (pc := 79) dX7_eRead_79 (by decide) ?_
          refine e_icmp_ne (pc := 81) dX7_eRead_81 (t := 99) (by decide) (fun c_81 => ?_) (fun c_81 => ?_)
          · skip
            refine e_aloadn (pc := 99) dX7_eRead_99 rfl ?_
            refine e_get (pc := 100) dX7_eRead_100 fX7_99 rfl rfl ?_
            refine e_top (j2) ?_
            refine e_bipush (v := 45) (pc := 103) dX7_eRead_103 (by decide) ?_
            refine e_icmp_ne (pc := 105) dX7_eRead_105 (t := 124) (by decide) (fun c_105 => ?_) (fun c_105 => ?_)
            · skip
              refine e_aloadn (pc := 124) dX7_eRead_124 rfl ?_
              refine e_get (pc := 125) dX7_eRead_125 fX7_99 rfl rfl ?_
              refine e_top (j2) ?_
              refine e_bipush (v := 40) (pc := 128) dX7_eRead_128 (by decide) ?_
              refine e_icmp_ne (pc := 130) dX7_eRead_130 (t := 148) (by decide) (fun c_130 => ?_) (fun c_130 => ?_)
              · skip
                refine e_iconst (v := 0) (pc := 148) dX7_eRead_148 (by decide) ?_
                exact e_zret (pc := 149) dX7_eRead_149 rfl (by rfl) (Nat.le_refl _) (Nat.le_refl _) (by rw [if_neg (fun q => q.elim c_27 c_35), if_neg (fun q => c_81 q.1), if_neg c_105, if_neg c_130] at hV; subst hV; exact ⟨rfl, b, n1, d, hP1, j0, j1, rfl⟩)
              · skip
                refine e_aloadn (pc := 133) dX7_eRead_133 rfl ?_
                refine e_iconst (v := 0) (pc := 134) dX7_eRead_134 (by decide) ?_
                refine e_cvD (pc := 135) (sp_y_opensOne (fun _ => (HO (by first | (rw [c_130]; decide) | (rw [c_105]; decide) | (rw [c_81]; decide)) 0 0).1)) dX7_eRead_135 kX7_136 rfl rfl rfl rfl rfl (mc_CR_of (Nat.le_of_ble_eq_true rfl) (Nat.le_of_ble_eq_true rfl) (Nat.le_refl _) (Nat.le_refl _)) (Nat.le_of_ble_eq_true rfl) ?_
                refine e_if_ne (pc := 138) dX7_eRead_138 (t := 143) (by decide) (fun c_138 => ?_) (fun c_138 => ?_)
                · skip
                  refine e_iconst (v := 1) (pc := 143) dX7_eRead_143 (by decide) ?_
                  refine e_isn2 (pc := 144) dX7_eRead_144 (Nat.le_of_ble_eq_true rfl) rfl ?_
                  refine e_goto (pc := 145) dX7_eRead_145 (t := 14) (by decide) ?_
                  have q5 : ¬ n1 5 = 5 := by simpa using mc_b1.mp c_138
                  have tk0 : tk ≠ 0 := by rw [c_130]; decide
                  rw [if_neg (fun q => q.elim c_27 c_35), if_neg (fun q => c_81 q.1), if_neg c_105, if_pos c_130, if_neg (fun w => q5 (g5.trans w))] at hV
                  unfold yoo yod
                  rw [if_neg q5, if_neg q5, g5]
                  exact ih A1 true true _ _ _ _ _ _ _ (by have := k3 tk0; omega) k2 j0 ((HO tk0 0 (op + 1)).2) (by have := k3 tk0; simp; omega) hV
                · skip
                  refine e_iconst (v := 0) (pc := 141) dX7_eRead_141 (by decide) ?_
                  exact e_zret (pc := 142) dX7_eRead_142 rfl (by rfl) (Nat.le_refl _) (Nat.le_refl _) (by have q5 : n1 5 = 5 := (by simpa [mc_b0] using c_138); rw [if_neg (fun q => q.elim c_27 c_35), if_neg (fun q => c_81 q.1), if_neg c_105, if_pos c_130, if_pos (g5 ▸ q5)] at hV; subst hV; unfold yoo yod; rw [if_pos q5, if_pos q5]; exact ⟨rfl, b, n1, d, hP1, j0, j1, rfl⟩)
            · skip
              refine e_aloadn (pc := 108) dX7_eRead_108 rfl ?_
              refine e_bipush (v := 19) (pc := 109) dX7_eRead_109 (by decide) ?_
              refine e_cvD (pc := 111) (sp_y_opensOne (fun _ => (HO (by first | (rw [c_130]; decide) | (rw [c_105]; decide) | (rw [c_81]; decide)) 0 0).1)) dX7_eRead_111 kX7_136 rfl rfl rfl rfl rfl (mc_CR_of (Nat.le_of_ble_eq_true rfl) (Nat.le_of_ble_eq_true rfl) (Nat.le_refl _) (Nat.le_refl _)) (Nat.le_of_ble_eq_true rfl) ?_
              refine e_if_ne (pc := 114) dX7_eRead_114 (t := 119) (by decide) (fun c_114 => ?_) (fun c_114 => ?_)
              · skip
                refine e_iconst (v := 0) (pc := 119) dX7_eRead_119 (by decide) ?_
                refine e_isn2 (pc := 120) dX7_eRead_120 (Nat.le_of_ble_eq_true rfl) rfl ?_
                refine e_goto (pc := 121) dX7_eRead_121 (t := 14) (by decide) ?_
                have q5 : ¬ n1 5 = 5 := by simpa using mc_b1.mp c_114
                have tk0 : tk ≠ 0 := by rw [c_105]; decide
                rw [if_neg (fun q => q.elim c_27 c_35), if_neg (fun q => c_81 q.1), if_pos c_105, if_neg (fun w => q5 (g5.trans w))] at hV
                unfold yoo yod
                rw [if_neg q5, if_neg q5, g5]
                exact ih A1 true false _ _ _ _ _ _ _ (by have := k3 tk0; omega) k2 j0 ((HO tk0 19 (op + 1)).2) (by have := k3 tk0; simp; omega) hV
              · skip
                refine e_iconst (v := 0) (pc := 117) dX7_eRead_117 (by decide) ?_
                exact e_zret (pc := 118) dX7_eRead_118 rfl (by rfl) (Nat.le_refl _) (Nat.le_refl _) (by have q5 : n1 5 = 5 := (by simpa [mc_b0] using c_114); rw [if_neg (fun q => q.elim c_27 c_35), if_neg (fun q => c_81 q.1), if_pos c_105, if_pos (g5 ▸ q5)] at hV; subst hV; unfold yoo yod; rw [if_pos q5, if_pos q5]; exact ⟨rfl, b, n1, d, hP1, j0, j1, rfl⟩)
          · skip
            refine e_iloadn (pc := 84) dX7_eRead_84 rfl ?_
            refine e_if_eq (pc := 85) dX7_eRead_85 (t := 99) (by decide) (fun c_85 => ?_) (fun c_85 => ?_)
            · skip
              refine e_aloadn (pc := 99) dX7_eRead_99 rfl ?_
              refine e_get (pc := 100) dX7_eRead_100 fX7_99 rfl rfl ?_
              refine e_top (j2) ?_
              refine e_bipush (v := 45) (pc := 103) dX7_eRead_103 (by decide) ?_
              refine e_icmp_ne (pc := 105) dX7_eRead_105 (t := 124) (by decide) (fun c_105 => ?_) (fun c_105 => ?_)
              · skip
                refine e_aloadn (pc := 124) dX7_eRead_124 rfl ?_
                refine e_get (pc := 125) dX7_eRead_125 fX7_99 rfl rfl ?_
                refine e_top (j2) ?_
                refine e_bipush (v := 40) (pc := 128) dX7_eRead_128 (by decide) ?_
                refine e_icmp_ne (pc := 130) dX7_eRead_130 (t := 148) (by decide) (fun c_130 => ?_) (fun c_130 => ?_)
                · skip
                  refine e_iconst (v := 0) (pc := 148) dX7_eRead_148 (by decide) ?_
                  exact e_zret (pc := 149) dX7_eRead_149 rfl (by rfl) (Nat.le_refl _) (Nat.le_refl _) (by rw [if_neg (fun q => q.elim c_27 c_35), if_neg (fun q => nbt (mc_b0.mp c_85) q.2), if_neg c_105, if_neg c_130] at hV; subst hV; exact ⟨rfl, b, n1, d, hP1, j0, j1, rfl⟩)
                · skip
                  refine e_aloadn (pc := 133) dX7_eRead_133 rfl ?_
                  refine e_iconst (v := 0) (pc := 134) dX7_eRead_134 (by decide) ?_
                  refine e_cvD (pc := 135) (sp_y_opensOne (fun _ => (HO (by first | (rw [c_130]; decide) | (rw [c_105]; decide) | (rw [c_81]; decide)) 0 0).1)) dX7_eRead_135 kX7_136 rfl rfl rfl rfl rfl (mc_CR_of (Nat.le_of_ble_eq_true rfl) (Nat.le_of_ble_eq_true rfl) (Nat.le_refl _) (Nat.le_refl _)) (Nat.le_of_ble_eq_true rfl) ?_
                  refine e_if_ne (pc := 138) dX7_eRead_138 (t := 143) (by decide) (fun c_138 => ?_) (fun c_138 => ?_)
                  · skip
                    refine e_iconst (v := 1) (pc := 143) dX7_eRead_143 (by decide) ?_
                    refine e_isn2 (pc := 144) dX7_eRead_144 (Nat.le_of_ble_eq_true rfl) rfl ?_
                    refine e_goto (pc := 145) dX7_eRead_145 (t := 14) (by decide) ?_
                    have q5 : ¬ n1 5 = 5 := by simpa using mc_b1.mp c_138
                    have tk0 : tk ≠ 0 := by rw [c_130]; decide
                    rw [if_neg (fun q => q.elim c_27 c_35), if_neg (fun q => nbt (mc_b0.mp c_85) q.2), if_neg c_105, if_pos c_130, if_neg (fun w => q5 (g5.trans w))] at hV
                    unfold yoo yod
                    rw [if_neg q5, if_neg q5, g5]
                    exact ih A1 true true _ _ _ _ _ _ _ (by have := k3 tk0; omega) k2 j0 ((HO tk0 0 (op + 1)).2) (by have := k3 tk0; simp; omega) hV
                  · skip
                    refine e_iconst (v := 0) (pc := 141) dX7_eRead_141 (by decide) ?_
                    exact e_zret (pc := 142) dX7_eRead_142 rfl (by rfl) (Nat.le_refl _) (Nat.le_refl _) (by have q5 : n1 5 = 5 := (by simpa [mc_b0] using c_138); rw [if_neg (fun q => q.elim c_27 c_35), if_neg (fun q => nbt (mc_b0.mp c_85) q.2), if_neg c_105, if_pos c_130, if_pos (g5 ▸ q5)] at hV; subst hV; unfold yoo yod; rw [if_pos q5, if_pos q5]; exact ⟨rfl, b, n1, d, hP1, j0, j1, rfl⟩)
              · skip
                refine e_aloadn (pc := 108) dX7_eRead_108 rfl ?_
                refine e_bipush (v := 19) (pc := 109) dX7_eRead_109 (by decide) ?_
                refine e_cvD (pc := 111) (sp_y_opensOne (fun _ => (HO (by first | (rw [c_130]; decide) | (rw [c_105]; decide) | (rw [c_81]; decide)) 0 0).1)) dX7_eRead_111 kX7_136 rfl rfl rfl rfl rfl (mc_CR_of (Nat.le_of_ble_eq_true rfl) (Nat.le_of_ble_eq_true rfl) (Nat.le_refl _) (Nat.le_refl _)) (Nat.le_of_ble_eq_true rfl) ?_
                refine e_if_ne (pc := 114) dX7_eRead_114 (t := 119) (by decide) (fun c_114 => ?_) (fun c_114 => ?_)
                · skip
                  refine e_iconst (v := 0) (pc := 119) dX7_eRead_119 (by decide) ?_
                  refine e_isn2 (pc := 120) dX7_eRead_120 (Nat.le_of_ble_eq_true rfl) rfl ?_
                  refine e_goto (pc := 121) dX7_eRead_121 (t := 14) (by decide) ?_
                  have q5 : ¬ n1 5 = 5 := by simpa using mc_b1.mp c_114
                  have tk0 : tk ≠ 0 := by rw [c_105]; decide
                  rw [if_neg (fun q => q.elim c_27 c_35), if_neg (fun q => nbt (mc_b0.mp c_85) q.2), if_pos c_105, if_neg (fun w => q5 (g5.trans w))] at hV
                  unfold yoo yod
                  rw [if_neg q5, if_neg q5, g5]
                  exact ih A1 true false _ _ _ _ _ _ _ (by have := k3 tk0; omega) k2 j0 ((HO tk0 19 (op + 1)).2) (by have := k3 tk0; simp; omega) hV
                · skip
                  refine e_iconst (v := 0) (pc := 117) dX7_eRead_117 (by decide) ?_
                  exact e_zret (pc := 118) dX7_eRead_118 rfl (by rfl) (Nat.le_refl _) (Nat.le_refl _) (by have q5 : n1 5 = 5 := (by simpa [mc_b0] using c_114); rw [if_neg (fun q => q.elim c_27 c_35), if_neg (fun q => nbt (mc_b0.mp c_85) q.2), if_pos c_105, if_pos (g5 ▸ q5)] at hV; subst hV; unfold yoo yod; rw [if_pos q5, if_pos q5]; exact ⟨rfl, b, n1, d, hP1, j0, j1, rfl⟩)
            · skip
              refine e_aloadn (pc := 88) dX7_eRead_88 rfl ?_
              refine e_bipush (v := 13) (pc := 89) dX7_eRead_89 (by decide) ?_
              refine e_cvD (pc := 91) (sp_y_opensOne (fun _ => (HO (by first | (rw [c_130]; decide) | (rw [c_105]; decide) | (rw [c_81]; decide)) 0 0).1)) dX7_eRead_91 kX7_136 rfl rfl rfl rfl rfl (mc_CR_of (Nat.le_of_ble_eq_true rfl) (Nat.le_of_ble_eq_true rfl) (Nat.le_refl _) (Nat.le_refl _)) (Nat.le_of_ble_eq_true rfl) ?_
              refine e_if_ne (pc := 94) dX7_eRead_94 (t := 14) (by decide) (fun c_94 => ?_) (fun c_94 => ?_)
              · skip
                have q5 : ¬ n1 5 = 5 := by simpa using mc_b1.mp c_94
                have tk0 : tk ≠ 0 := by rw [c_81]; decide
                rw [if_neg (fun q => q.elim c_27 c_35), if_pos ⟨c_81, mc_b1.mp c_85⟩, if_neg (fun w => q5 (g5.trans w))] at hV
                unfold yoo yod
                rw [if_neg q5, if_neg q5, g5]
                exact ih A1 true my _ _ _ _ _ _ _ (by have := k3 tk0; omega) k2 j0 ((HO tk0 13 (op + 1)).2) (by have := k3 tk0; simp; omega) hV
              · skip
                refine e_iconst (v := 0) (pc := 97) dX7_eRead_97 (by decide) ?_
                exact e_zret (pc := 98) dX7_eRead_98 rfl (by rfl) (Nat.le_refl _) (Nat.le_refl _) (by have q5 : n1 5 = 5 := (by simpa [mc_b0] using c_94); rw [if_neg (fun q => q.elim c_27 c_35), if_pos ⟨c_81, mc_b1.mp c_85⟩, if_pos (g5 ▸ q5)] at hV; subst hV; unfold yoo yod; rw [if_pos q5, if_pos q5]; exact ⟨rfl, b, n1, d, hP1, j0, j1, rfl⟩)
        · skip
          refine e_aloadn (pc := 38) dX7_eRead_38 rfl ?_
          refine e_aloadn (pc := 39) dX7_eRead_39 rfl ?_
          refine e_get (pc := 40) dX7_eRead_40 fX7_99 rfl rfl ?_
          refine e_top (j2) ?_
          refine e_iconst (v := 1) (pc := 43) dX7_eRead_43 (by decide) ?_
          refine e_icmp_ne (pc := 44) dX7_eRead_44 (t := 57) (by decide) (fun c_44 => ?_) (fun c_44 => ?_)
          · skip
            refine e_aloadn (pc := 57) dX7_eRead_57 rfl ?_
            refine e_get (pc := 58) dX7_eRead_58 fX7_102 rfl rfl ?_
            refine e_top j3 ?_
            refine e_cvU (pc := 61) (sp_y_puts (HQ (by first | (rw [c_27]; decide) | (rw [c_35]; decide)) 0).1) dX7_eRead_61 kX7_122 rfl rfl rfl rfl rfl (mc_CR_of (Nat.le_of_ble_eq_true rfl) (Nat.le_of_ble_eq_true rfl) (Nat.le_refl _) (Nat.le_refl _)) (Nat.le_of_ble_eq_true rfl) ?_
            refine e_aloadn (pc := 64) dX7_eRead_64 rfl ?_
            refine e_bipush (v := 7) (pc := 65) dX7_eRead_65 (by decide) ?_
            refine e_cvY (pc := 67) (sp_y_unwinds h4 ht (HQ (by first | (rw [c_27]; decide) | (rw [c_35]; decide)) _).2) dX7_eRead_67 kX7_129 rfl rfl rfl rfl rfl (mc_CR_of (Nat.le_of_ble_eq_true rfl) (Nat.le_of_ble_eq_true rfl) (Nat.le_refl _) (Nat.le_refl _)) (Nat.le_of_ble_eq_true rfl) (fun w1 hw1 => ?_)
            obtain ⟨b2, n2, hP2, hK2, rfl⟩ := hw1
            refine e_iconst (v := 0) (pc := 70) dX7_eRead_70 (by decide) ?_
            refine e_isn1 (pc := 71) dX7_eRead_71 (Nat.le_of_ble_eq_true rfl) rfl ?_
            refine e_goto (pc := 72) dX7_eRead_72 (t := 14) (by decide) ?_
            rw [if_pos (Or.inr c_35), if_neg c_44] at hV
            exact ih A1 false my _ _ _ _ _ _ _ (by have := k3 (by rw [c_35]; decide); omega) k2 (hK2.1.trans j0) hP2 (by rw [yuw_len, List.length_append]; have := k3 (by rw [c_35]; decide); simp; omega) hV
          · skip
            refine e_ldc (pc := 47) dX7_eRead_47 qX7_135 ?_
            refine e_aloadn (pc := 49) dX7_eRead_49 rfl ?_
            refine e_get (pc := 50) dX7_eRead_50 fX7_102 rfl rfl ?_
            refine e_top (j3) ?_
            refine e_iadd (pc := 53) dX7_eRead_53 ?_
            refine e_goto (pc := 54) dX7_eRead_54 (t := 61) (by decide) ?_
            refine e_cvU (pc := 61) (sp_y_puts (HQ (by first | (rw [c_27]; decide) | (rw [c_35]; decide)) 0).1) dX7_eRead_61 kX7_122 rfl rfl rfl rfl rfl (mc_CR_of (Nat.le_of_ble_eq_true rfl) (Nat.le_of_ble_eq_true rfl) (Nat.le_refl _) (Nat.le_refl _)) (Nat.le_of_ble_eq_true rfl) ?_
            refine e_aloadn (pc := 64) dX7_eRead_64 rfl ?_
            refine e_bipush (v := 7) (pc := 65) dX7_eRead_65 (by decide) ?_
            refine e_cvY (pc := 67) (sp_y_unwinds h4 ht (HQ (by first | (rw [c_27]; decide) | (rw [c_35]; decide)) _).2) dX7_eRead_67 kX7_129 rfl rfl rfl rfl rfl (mc_CR_of (Nat.le_of_ble_eq_true rfl) (Nat.le_of_ble_eq_true rfl) (Nat.le_refl _) (Nat.le_refl _)) (Nat.le_of_ble_eq_true rfl) (fun w1 hw1 => ?_)
            obtain ⟨b2, n2, hP2, hK2, rfl⟩ := hw1
            refine e_iconst (v := 0) (pc := 70) dX7_eRead_70 (by decide) ?_
            refine e_isn1 (pc := 71) dX7_eRead_71 (Nat.le_of_ble_eq_true rfl) rfl ?_
            refine e_goto (pc := 72) dX7_eRead_72 (t := 14) (by decide) ?_
            rw [if_pos (Or.inr c_35), if_pos c_44] at hV
            exact ih A1 false my _ _ _ _ _ _ _ (by have := k3 (by rw [c_35]; decide); omega) k2 (hK2.1.trans j0) hP2 (by rw [yuw_len, List.length_append]; have := k3 (by rw [c_35]; decide); simp; omega) hV
    | false =>
      simp only [yer] at hV
      refine e_aloadn (pc := 14) dX7_eRead_14 rfl ?_
      refine e_cvY (pc := 15) (sp_y_next hLb hN hN2 hA h0) dX7_eRead_15 kX7_132 rfl rfl rfl rfl rfl (mc_CR_of (Nat.le_of_ble_eq_true rfl) (Nat.le_of_ble_eq_true rfl) (Nat.le_refl _) (Nat.le_refl _)) (Nat.le_of_ble_eq_true rfl) (fun w1 hw1 => ?_)
      obtain ⟨n1, hX, rfl⟩ := hw1
      rw [eT] at hX
      generalize ynx (yt3 B) N A0 = R at hX hV k1 k2 k3
      obtain ⟨bg, A1, tk, vl⟩ := R
      obtain ⟨j0, j1, j2, j3, j4⟩ := hX
      simp only at j0 j1 j2 j3 hV k1 k2 k3
      have hP1 := yPS_n hP j4
      have g5 : n1 5 = op := hP1.2.2.2.2.1
      have HO : tk ≠ 0 → ∀ x y : Int32, vp_in ((mc_up n1 5 y) 4) (d 0).length ∧ yPS t B b (yhn (mc_up n1 5 y)) (yhd (mc_up n1 5 y) d x) (x :: st) o y := fun hk x y => yPS_holds (x := x) hP1 rfl rfl rfl (by have := k3 hk; omega)
      have HQ : tk ≠ 0 → ∀ x : Int32, vp_in (200 * m 4 + n1 6) (b 4).length ∧ yPS t B (ypb m b n1 x) (ypn n1) d st (o ++ [x]) op := fun hk x => yPS_puts (x := x) hP1 h4 ht hP1.2.2.1 g5 rfl hP1.2.2.2.1 (by have := k3 hk; omega)
      refine e_iloadn (pc := 18) dX7_eRead_18 rfl ?_
      refine e_if_eq (pc := 19) dX7_eRead_19 (t := 150) (by decide) (fun _ => ?_) (fun c_19 => absurd rfl c_19)
      refine e_aloadn (pc := 150) dX7_eRead_150 rfl ?_
      refine e_get (pc := 151) dX7_eRead_151 fX7_99 rfl rfl ?_
      refine e_top (j2) ?_
      refine e_bipush (v := 59) (pc := 154) dX7_eRead_154 (by decide) ?_
      refine e_icmp_ne (pc := 156) dX7_eRead_156 (t := 177) (by decide) (fun c_156 => ?_) (fun c_156 => ?_)
      · skip
        refine e_aloadn (pc := 177) dX7_eRead_177 rfl ?_
        refine e_get (pc := 178) dX7_eRead_178 fX7_99 rfl rfl ?_
        refine e_top (j2) ?_
        refine e_bipush (v := 41) (pc := 181) dX7_eRead_181 (by decide) ?_
        refine e_icmp_ne (pc := 183) dX7_eRead_183 (t := 229) (by decide) (fun c_183 => ?_) (fun c_183 => ?_)
        · skip
          refine e_aloadn (pc := 229) dX7_eRead_229 rfl ?_
          refine e_cvD (pc := 230) (sp_y_signOf) dX7_eRead_230 kX7_139 rfl rfl rfl rfl rfl (mc_CR_of (Nat.le_of_ble_eq_true rfl) (Nat.le_of_ble_eq_true rfl) (Nat.le_refl _) (Nat.le_refl _)) (Nat.le_of_ble_eq_true rfl) ?_
          rw [j2]
          refine e_isn3 (pc := 233) dX7_eRead_233 (Nat.le_of_ble_eq_true rfl) rfl ?_
          refine e_iloadn (pc := 234) dX7_eRead_234 rfl ?_
          refine e_iconst (v := -1) (pc := 235) dX7_eRead_235 (by decide) ?_
          refine e_icmp_eq (pc := 236) dX7_eRead_236 (t := 247) (by decide) (fun c_236 => ?_) (fun c_236 => ?_)
          · skip
            refine e_iconst (v := 0) (pc := 247) dX7_eRead_247 (by decide) ?_
            exact e_zret (pc := 248) dX7_eRead_248 rfl (by rfl) (Nat.le_refl _) (Nat.le_refl _) (by rw [if_neg c_156, if_neg c_183, if_pos c_236] at hV; subst hV; exact ⟨rfl, b, n1, d, hP1, j0, j1, rfl⟩)
          · skip
            refine e_aloadn (pc := 239) dX7_eRead_239 rfl ?_
            refine e_iloadn (pc := 240) dX7_eRead_240 rfl ?_
            refine e_cvX (pc := 241) (sp_y_between h4 ht hP1 (by have := k3 (fun w => c_236 (by rw [w]; decide)); omega)) dX7_eRead_241 kX7_142 rfl rfl rfl rfl rfl (mc_CR_of (Nat.le_of_ble_eq_true rfl) (Nat.le_of_ble_eq_true rfl) (Nat.le_refl _) (Nat.le_refl _)) (Nat.le_of_ble_eq_true rfl) (fun w1 hw1 => ?_)
            obtain ⟨b2, n2, d2, hP2, hK2, rfl⟩ := hw1
            refine e_if_ne (pc := 244) dX7_eRead_244 (t := 249) (by decide) (fun c_244 => ?_) (fun c_244 => ?_)
            · skip
              refine e_iconst (v := 1) (pc := 249) dX7_eRead_249 (by decide) ?_
              refine e_isn1 (pc := 250) dX7_eRead_250 (Nat.le_of_ble_eq_true rfl) rfl ?_
              refine e_iloadn (pc := 251) dX7_eRead_251 rfl ?_
              refine e_bipush (v := 12) (pc := 252) dX7_eRead_252 (by decide) ?_
              refine e_icmp_gt (pc := 254) dX7_eRead_254 (t := 261) (by decide) (fun c_254 => ?_) (fun c_254 => ?_)
              · skip
                refine e_iconst (v := 0) (pc := 261) dX7_eRead_261 (by decide) ?_
                refine e_isn2 (pc := 262) dX7_eRead_262 (Nat.le_of_ble_eq_true rfl) rfl ?_
                refine e_goto (pc := 263) dX7_eRead_263 (t := 14) (by decide) ?_
                have tk0 : tk ≠ 0 := fun w => c_236 (by rw [w]; decide)
                rw [if_neg c_156, if_neg c_183, if_neg c_236, if_neg (nbf (mc_b1.mp c_244)), show decide (ysg tk ≤ 12) = false from decide_eq_false (Int32.not_le.mpr c_254)] at hV
                exact ih A1 true false _ _ _ _ _ _ _ (by have := k3 tk0; omega) k2 (hK2.1.trans j0) hP2 (by have := ybt_len (ysg tk) st o op; have := k3 tk0; omega) hV
              · skip
                refine e_iconst (v := 1) (pc := 257) dX7_eRead_257 (by decide) ?_
                refine e_goto (pc := 258) dX7_eRead_258 (t := 262) (by decide) ?_
                refine e_isn2 (pc := 262) dX7_eRead_262 (Nat.le_of_ble_eq_true rfl) rfl ?_
                refine e_goto (pc := 263) dX7_eRead_263 (t := 14) (by decide) ?_
                have tk0 : tk ≠ 0 := fun w => c_236 (by rw [w]; decide)
                rw [if_neg c_156, if_neg c_183, if_neg c_236, if_neg (nbf (mc_b1.mp c_244)), show decide (ysg tk ≤ 12) = true from decide_eq_true (Int32.not_lt.mp c_254)] at hV
                exact ih A1 true true _ _ _ _ _ _ _ (by have := k3 tk0; omega) k2 (hK2.1.trans j0) hP2 (by have := ybt_len (ysg tk) st o op; have := k3 tk0; omega) hV
            · skip
              refine e_iconst (v := 0) (pc := 247) dX7_eRead_247 (by decide) ?_
              exact e_zret (pc := 248) dX7_eRead_248 rfl (by rfl) (Nat.le_refl _) (Nat.le_refl _) (by rw [if_neg c_156, if_neg c_183, if_neg c_236, if_pos (mc_b0.mp c_244)] at hV; subst hV; exact ⟨rfl, b2, n2, d2, hP2, hK2.1.trans j0, hK2.2.1.trans j1, rfl⟩)
        · skip
          refine e_aloadn (pc := 186) dX7_eRead_186 rfl ?_
          refine e_iconst (v := 1) (pc := 187) dX7_eRead_187 (by decide) ?_
          refine e_cvY (pc := 188) (sp_y_unwinds h4 ht hP1) dX7_eRead_188 kX7_129 rfl rfl rfl rfl rfl (mc_CR_of (Nat.le_of_ble_eq_true rfl) (Nat.le_of_ble_eq_true rfl) (Nat.le_refl _) (Nat.le_refl _)) (Nat.le_of_ble_eq_true rfl) (fun w1 hw1 => ?_)
          obtain ⟨b2, n2, hP2, hK2, rfl⟩ := hw1
          refine e_aloadn (pc := 191) dX7_eRead_191 rfl ?_
          refine e_get (pc := 192) dX7_eRead_192 fX7_112 rfl rfl ?_
          refine e_if_ne (pc := 195) dX7_eRead_195 (t := 200) (by decide) (fun c_195 => ?_) (fun c_195 => ?_)
          · skip
            refine e_aloadn (pc := 200) dX7_eRead_200 rfl ?_
            obtain ⟨y0, r0, hU⟩ : ∃ y0 r0, (yuw 1 st o op).1 = y0 :: r0 := emC hP2 c_195
            have hP2b := hP2
            rw [hU] at hP2b
            have eN : n2 4 - 1 = nI r0.length := by rw [hP2b.2.2.1]; exact nI_sub1 (n := r0.length + 1) (by omega)
            have hPP : yPS t B b2 (mc_up (mc_up n2 4 (n2 4 - 1)) 5 ((yuw 1 st o op).2.2 - 1)) d (yuw 1 st o op).1.tail (yuw 1 st o op).2.1 ((yuw 1 st o op).2.2 - 1) := by rw [hU]; exact yPS_pop hP2b eN rfl rfl
            have e5 : n2 5 = (yuw 1 st o op).2.2 := hP2.2.2.2.2.1
            refine e_dup (pc := 201) dX7_eRead_201 rfl ?_
            refine e_get (pc := 202) dX7_eRead_202 fX7_112 rfl rfl ?_
            refine e_iconst (v := 1) (pc := 205) dX7_eRead_205 (by decide) ?_
            refine e_isub (pc := 206) dX7_eRead_206 ?_
            refine put_y_heldMany (pc := 207) dX7_eRead_207 pX7_112 ?_
            refine e_aloadn (pc := 210) dX7_eRead_210 rfl ?_
            refine e_dup (pc := 211) dX7_eRead_211 rfl ?_
            refine e_get (pc := 212) dX7_eRead_212 fX7_119 rfl rfl ?_
            refine e_iconst (v := 1) (pc := 215) dX7_eRead_215 (by decide) ?_
            refine e_isub (pc := 216) dX7_eRead_216 ?_
            refine put_y_opens (pc := 217) dX7_eRead_217 pX7_119 ?_
            rw [show (mc_up n2 4 (n2 4 - 1)) 5 = (yuw 1 st o op).2.2 from e5]
            refine e_aloadn (pc := 220) dX7_eRead_220 rfl ?_
            refine e_bipush (v := 7) (pc := 221) dX7_eRead_221 (by decide) ?_
            refine e_cvY (pc := 223) (sp_y_unwinds h4 ht hPP) dX7_eRead_223 kX7_129 rfl rfl rfl rfl rfl (mc_CR_of (Nat.le_of_ble_eq_true rfl) (Nat.le_of_ble_eq_true rfl) (Nat.le_refl _) (Nat.le_refl _)) (Nat.le_of_ble_eq_true rfl) (fun w1 hw1 => ?_)
            obtain ⟨b3, n3, hP3, hK3, rfl⟩ := hw1
            refine e_goto (pc := 226) dX7_eRead_226 (t := 14) (by decide) ?_
            rw [if_neg c_156, if_pos c_183, if_neg (nbt (emF hP2 c_195))] at hV
            exact ih A1 false my _ _ _ _ _ _ _ (by have := k3 (by rw [c_183]; decide); omega) k2 (hK3.1.trans (hK2.1.trans j0)) hP3 (by have := yuw_len 1 st o op; rw [yuw_len, List.length_tail]; omega) hV
          · skip
            refine e_iconst (v := 0) (pc := 198) dX7_eRead_198 (by decide) ?_
            exact e_zret (pc := 199) dX7_eRead_199 rfl (by rfl) (Nat.le_refl _) (Nat.le_refl _) (by rw [if_neg c_156, if_pos c_183, if_pos (emT hP2 c_195)] at hV; subst hV; exact ⟨rfl, b2, n2, d, hP2, hK2.1.trans j0, hK2.2.1.trans j1, rfl⟩)
      · skip
        refine e_aloadn (pc := 159) dX7_eRead_159 rfl ?_
        refine e_iconst (v := 1) (pc := 160) dX7_eRead_160 (by decide) ?_
        refine e_cvY (pc := 161) (sp_y_unwinds h4 ht hP1) dX7_eRead_161 kX7_129 rfl rfl rfl rfl rfl (mc_CR_of (Nat.le_of_ble_eq_true rfl) (Nat.le_of_ble_eq_true rfl) (Nat.le_refl _) (Nat.le_refl _)) (Nat.le_of_ble_eq_true rfl) (fun w1 hw1 => ?_)
        obtain ⟨b2, n2, hP2, hK2, rfl⟩ := hw1
        refine e_aloadn (pc := 164) dX7_eRead_164 rfl ?_
        refine e_get (pc := 165) dX7_eRead_165 fX7_112 rfl rfl ?_
        refine e_if_ne (pc := 168) dX7_eRead_168 (t := 175) (by decide) (fun c_168 => ?_) (fun c_168 => ?_)
        · skip
          refine e_iconst (v := 0) (pc := 175) dX7_eRead_175 (by decide) ?_
          exact e_zret (pc := 176) dX7_eRead_176 rfl (by rfl) (Nat.le_refl _) (Nat.le_refl _) (by rw [if_pos c_156] at hV; subst hV; exact ⟨by show _ = some (Value.int (mc_b (yuw 1 st o op).1.isEmpty)); rw [emF hP2 c_168]; rfl, b2, n2, d, hP2, hK2.1.trans j0, hK2.2.1.trans j1, rfl⟩)
        · skip
          refine e_iconst (v := 1) (pc := 171) dX7_eRead_171 (by decide) ?_
          refine e_goto (pc := 172) dX7_eRead_172 (t := 176) (by decide) ?_
          exact e_zret (pc := 176) dX7_eRead_176 rfl (by rfl) (Nat.le_refl _) (Nat.le_refl _) (by rw [if_pos c_156] at hV; subst hV; exact ⟨by show _ = some (Value.int (mc_b (yuw 1 st o op).1.isEmpty)); rw [emT hP2 c_168]; rfl, b2, n2, d, hP2, hK2.1.trans j0, hK2.2.1.trans j1, rfl⟩)
theorem sp_y_eRead {s u m n : Nat → Int32} {a c b d : Nat → List Int32} {q : List (Option Nat)} {h : Nat} {z : mc_W} {t : Nat} {B : Nat → List Int32} {N A0 : Nat} {o : List Int32} {op : Int32} {st : List Int32} (hL : yL B) (hN : m 3 = nI N) (hN2 : N ≤ 160) (h4 : m 4 = nI t) (ht : t < 6) (hA : A0 ≤ N) (h0 : n 0 = nI A0) (hP : yPS t B b n d st o op) (hl : o.length ≤ A0) : mc_T yX7_eRead cX7_eRead 4 (some .boolean) 4 [.ref 29] (WW s a q u c h m b n d z) (some (.int (mc_b (yer (yt3 B) N (N + 1) A0 true true [] o 0).1))) (fun w' => ∃ b1 n1 d1, yPS t B b1 n1 d1 (yer (yt3 B) N (N + 1) A0 true true [] o 0).2.2.2.1 (yer (yt3 B) N (N + 1) A0 true true [] o 0).2.2.2.2.1 (yer (yt3 B) N (N + 1) A0 true true [] o 0).2.2.2.2.2 ∧ n1 0 = nI (yer (yt3 B) N (N + 1) A0 true true [] o 0).2.1 ∧ n1 1 = nI (yer (yt3 B) N (N + 1) A0 true true [] o 0).2.2.1 ∧ w' = WW s a q u c h m b1 n1 d1 z) := by
  refine mc_start (own := RX7) (ini := false) rfl (by decide +kernel) (fun h => by cases h) (Nat.le_of_ble_eq_true rfl) ?_
  show mc_E _ _ _ _ _ [some (.ref 29), none, none, none] [] _ _ _
  refine e_aloadn (pc := 0) dX7_eRead_0 rfl ?_
  refine e_iconst (v := 0) (pc := 1) dX7_eRead_1 (by decide) ?_
  refine put_y_heldMany (pc := 2) dX7_eRead_2 pX7_112 ?_
  refine e_aloadn (pc := 5) dX7_eRead_5 rfl ?_
  refine e_iconst (v := 0) (pc := 6) dX7_eRead_6 (by decide) ?_
  refine put_y_opens (pc := 7) dX7_eRead_7 pX7_119 ?_
  refine e_iconst (v := 1) (pc := 10) dX7_eRead_10 (by decide) ?_
  refine e_isn1 (pc := 11) dX7_eRead_11 (Nat.le_of_ble_eq_true rfl) rfl ?_
  refine e_iconst (v := 1) (pc := 12) dX7_eRead_12 (by decide) ?_
  refine e_isn2 (pc := 13) dX7_eRead_13 (Nat.le_of_ble_eq_true rfl) rfl ?_
  exact lp_y_er hL hN hN2 h4 ht (N + 1) A0 true true [] o 0 b _ d none (by omega) hA h0 ⟨hP.1, hP.2.1, rfl, rfl, rfl, hP.2.2.2.2.2.1, by simp; omega⟩ (by simp; omega) rfl
end Zj_47_y28
section Zj_48_y29
/-! a text -/
theorem yer_le (T : Nat → Int32) (N : Nat) : ∀ f A0 wn my st o op, N + 1 ≤ A0 + f → A0 ≤ N → o.length + st.length ≤ A0 →
    A0 ≤ (yer T N f A0 wn my st o op).2.1 ∧ (yer T N f A0 wn my st o op).2.1 ≤ N ∧ (yer T N f A0 wn my st o op).2.2.2.2.1.length + (yer T N f A0 wn my st o op).2.2.2.1.length ≤ (yer T N f A0 wn my st o op).2.1 := by
  intro f
  induction f with
  | zero => intro A0 wn my st o op h1 h2; omega
  | succ f ih =>
    intro A0 wn my st o op h1 h2 h3
    obtain ⟨k1, k2, k3⟩ := ynx_lt T N A0 h2
    have go : ∀ wn my st' o' op', (ynx T N A0).2.2.1 ≠ 0 → o'.length + st'.length ≤ (ynx T N A0).2.1 → A0 ≤ (yer T N f (ynx T N A0).2.1 wn my st' o' op').2.1 ∧ (yer T N f (ynx T N A0).2.1 wn my st' o' op').2.1 ≤ N ∧ (yer T N f (ynx T N A0).2.1 wn my st' o' op').2.2.2.2.1.length + (yer T N f (ynx T N A0).2.1 wn my st' o' op').2.2.2.1.length ≤ (yer T N f (ynx T N A0).2.1 wn my st' o' op').2.1 := fun wn my st' o' op' g1 g2 => by
      have := k3 g1
      have K := ih (ynx T N A0).2.1 wn my st' o' op' (by omega) k2 g2
      exact ⟨by omega, K.2⟩
    have bad : A0 ≤ (ynx T N A0).2.1 ∧ (ynx T N A0).2.1 ≤ N ∧ o.length + st.length ≤ (ynx T N A0).2.1 := ⟨k1, k2, by omega⟩
    have nz : ∀ x : Int32, x ≠ 0 → (ynx T N A0).2.2.1 = x → (ynx T N A0).2.2.1 ≠ 0 := fun x h e => by rw [e]; exact h
    cases wn with
    | true =>
      simp only [yer]
      by_cases c1 : (ynx T N A0).2.2.1 = 1 ∨ (ynx T N A0).2.2.1 = 2
      · have t0 : (ynx T N A0).2.2.1 ≠ 0 := c1.elim (nz 1 (by decide)) (nz 2 (by decide))
        rw [if_pos c1]
        exact go _ _ _ _ _ t0 (by rw [yuw_len, List.length_append]; have := k3 t0; simp; omega)
      · rw [if_neg c1]
        by_cases c2 : (ynx T N A0).2.2.1 = 6 ∧ my = true
        · have t0 := nz 6 (by decide) c2.1
          rw [if_pos c2]
          by_cases c3 : op = 5
          · rw [if_pos c3]; exact bad
          · rw [if_neg c3]; exact go _ _ _ _ _ t0 (by have := k3 t0; simp; omega)
        · rw [if_neg c2]
          by_cases c4 : (ynx T N A0).2.2.1 = 45
          · have t0 := nz 45 (by decide) c4
            rw [if_pos c4]
            by_cases c3 : op = 5
            · rw [if_pos c3]; exact bad
            · rw [if_neg c3]; exact go _ _ _ _ _ t0 (by have := k3 t0; simp; omega)
          · rw [if_neg c4]
            by_cases c5 : (ynx T N A0).2.2.1 = 40
            · have t0 := nz 40 (by decide) c5
              rw [if_pos c5]
              by_cases c3 : op = 5
              · rw [if_pos c3]; exact bad
              · rw [if_neg c3]; exact go _ _ _ _ _ t0 (by have := k3 t0; simp; omega)
            · rw [if_neg c5]; exact bad
    | false =>
      simp only [yer]
      have u1 := yuw_len 1 st o op
      by_cases c1 : (ynx T N A0).2.2.1 = 59
      · rw [if_pos c1]; exact ⟨k1, k2, by show (yuw 1 st o op).2.1.length + (yuw 1 st o op).1.length ≤ (ynx T N A0).2.1; omega⟩
      · rw [if_neg c1]
        by_cases c2 : (ynx T N A0).2.2.1 = 41
        · have t0 := nz 41 (by decide) c2
          rw [if_pos c2]
          by_cases c3 : (yuw 1 st o op).1.isEmpty = true
          · rw [if_pos c3]; exact ⟨k1, k2, by show (yuw 1 st o op).2.1.length + (yuw 1 st o op).1.length ≤ (ynx T N A0).2.1; omega⟩
          · rw [if_neg c3]; exact go _ _ _ _ _ t0 (by rw [yuw_len, List.length_tail]; omega)
        · rw [if_neg c2]
          by_cases c4 : ysg (ynx T N A0).2.2.1 = -1
          · rw [if_pos c4]; exact bad
          · have t0 : (ynx T N A0).2.2.1 ≠ 0 := fun w => c4 (by rw [w]; decide)
            have b1 := ybt_len (ysg (ynx T N A0).2.2.1) st o op
            have k := k3 t0
            rw [if_neg c4]
            by_cases c5 : (ybt (ysg (ynx T N A0).2.2.1) st o op).1 = false
            · rw [if_pos c5]; exact ⟨k1, k2, by show (ybt (ysg (ynx T N A0).2.2.1) st o op).2.2.1.length + (ybt (ysg (ynx T N A0).2.2.1) st o op).2.1.length ≤ (ynx T N A0).2.1; omega⟩
            · rw [if_neg c5]; exact go _ _ _ _ _ t0 (by omega)
theorem yPS_5 {t : Nat} {B b : Nat → List Int32} {n : Nat → Int32} {d : Nat → List Int32} {st o : List Int32} {op : Int32} {l5 r5 : List Int32} (h : yPS t (mc_up B 5 l5) b n d st o op) : yPS t (mc_up B 5 r5) (mc_up b 5 r5) n d st o op := by
  obtain ⟨⟨l, hb, hl, ho, hx⟩, hr⟩ := h
  subst hb
  refine ⟨⟨l, ?_, hl, ho, hx⟩, hr⟩
  funext j
  unfold mc_up
  by_cases e5 : j = 5
  · subst e5; rfl
  · by_cases e4 : j = 4
    · subst e4; rfl
    · rw [if_neg e5, if_neg e4, if_neg e5, if_neg e4, if_neg e5]
theorem yPS_b5 {t : Nat} {B b : Nat → List Int32} {n : Nat → Int32} {d : Nat → List Int32} {st o : List Int32} {op : Int32} (h : yPS t B b n d st o op) : b 5 = B 5 := by
  obtain ⟨⟨l, hb, -⟩, -⟩ := h
  subst hb; rfl
theorem yL_5 {b : Nat → List Int32} (h : yL b) {l : List Int32} (hl : l.length = 24) : yL (mc_up b 5 l) :=
  ⟨h.1, h.2.1, h.2.2.1, h.2.2.2.1, h.2.2.2.2.1, hl, h.2.2.2.2.2.2.1, h.2.2.2.2.2.2.2.1, h.2.2.2.2.2.2.2.2.1, h.2.2.2.2.2.2.2.2.2⟩
end Zj_48_y29
section Zj_49_y30
/-! a text, the parts -/
/-- what of the world of a reading stands before an E begins -/
def yP0 (t : Nat) (B b : Nat → List Int32) (n : Nat → Int32) (d : Nat → List Int32) (o : List Int32) : Prop :=
  (∃ l, b = mc_up B 4 l ∧ l.length = 1200 ∧ (∀ i, i < o.length → l.getD (200 * t + i) 0 = o.getD i 0) ∧ ∀ i, i < 200 * t ∨ 200 * t + 200 ≤ i → l.getD i 0 = (B 4).getD i 0) ∧ yD d ∧ n 6 = nI o.length
theorem yPS.P0 {t : Nat} {B b : Nat → List Int32} {n : Nat → Int32} {d : Nat → List Int32} {st o : List Int32} {op : Int32} (h : yPS t B b n d st o op) : yP0 t B b n d o := ⟨h.1, h.2.1, h.2.2.2.2.2.1⟩
theorem yP0.L {t : Nat} {B b : Nat → List Int32} {n : Nat → Int32} {d : Nat → List Int32} {o : List Int32} (h : yP0 t B b n d o) (hL : yL B) : yL b ∧ yt3 b = yt3 B := by
  obtain ⟨⟨l, hb, hl, -⟩, -⟩ := h
  subst hb
  exact ⟨⟨hL.1, hL.2.1, hL.2.2.1, hL.2.2.2.1, hl, hL.2.2.2.2.2.1, hL.2.2.2.2.2.2.1, hL.2.2.2.2.2.2.2.1, hL.2.2.2.2.2.2.2.2.1, hL.2.2.2.2.2.2.2.2.2⟩, rfl⟩
theorem yP0_n {t : Nat} {B b : Nat → List Int32} {n n1 : Nat → Int32} {d : Nat → List Int32} {o : List Int32} (h : yP0 t B b n d o) (k : ∀ j, 4 ≤ j → n1 j = n j) : yP0 t B b n1 d o := ⟨h.1, h.2.1, (k 6 (by decide)).trans h.2.2⟩
theorem yP0_5 {t : Nat} {B b : Nat → List Int32} {n : Nat → Int32} {d : Nat → List Int32} {o : List Int32} {l5 r5 : List Int32} (h : yP0 t (mc_up B 5 l5) b n d o) : yP0 t (mc_up B 5 r5) (mc_up b 5 r5) n d o := by
  obtain ⟨⟨l, hb, hl, ho, hx⟩, hr⟩ := h
  subst hb
  refine ⟨⟨l, ?_, hl, ho, hx⟩, hr⟩
  funext j
  unfold mc_up
  by_cases e5 : j = 5
  · subst e5; rfl
  · by_cases e4 : j = 4
    · subst e4; rfl
    · rw [if_neg e5, if_neg e4, if_neg e5, if_neg e4, if_neg e5]
theorem yP0_b5 {t : Nat} {B b : Nat → List Int32} {n : Nat → Int32} {d : Nat → List Int32} {o : List Int32} (h : yP0 t B b n d o) : b 5 = B 5 := by
  obtain ⟨⟨l, hb, -⟩, -⟩ := h
  subst hb; rfl
theorem sp_y_eRead0 {s u m n : Nat → Int32} {a c b d : Nat → List Int32} {q : List (Option Nat)} {h : Nat} {z : mc_W} {t : Nat} {B : Nat → List Int32} {N A0 : Nat} {o : List Int32} (hL : yL B) (hN : m 3 = nI N) (hN2 : N ≤ 160) (h4 : m 4 = nI t) (ht : t < 6) (hA : A0 ≤ N) (h0 : n 0 = nI A0) (hP : yP0 t B b n d o) (hl : o.length ≤ A0) : mc_T yX7_eRead cX7_eRead 4 (some .boolean) 4 [.ref 29] (WW s a q u c h m b n d z) (some (.int (mc_b (yer (yt3 B) N (N + 1) A0 true true [] o 0).1))) (fun w' => ∃ b1 n1 d1, yPS t B b1 n1 d1 (yer (yt3 B) N (N + 1) A0 true true [] o 0).2.2.2.1 (yer (yt3 B) N (N + 1) A0 true true [] o 0).2.2.2.2.1 (yer (yt3 B) N (N + 1) A0 true true [] o 0).2.2.2.2.2 ∧ n1 0 = nI (yer (yt3 B) N (N + 1) A0 true true [] o 0).2.1 ∧ n1 1 = nI (yer (yt3 B) N (N + 1) A0 true true [] o 0).2.2.1 ∧ w' = WW s a q u c h m b1 n1 d1 z) := by
  refine mc_start (own := RX7) (ini := false) rfl (by decide +kernel) (fun h => by cases h) (Nat.le_of_ble_eq_true rfl) ?_
  show mc_E _ _ _ _ _ [some (.ref 29), none, none, none] [] _ _ _
  refine e_aloadn (pc := 0) dX7_eRead_0 rfl ?_
  refine e_iconst (v := 0) (pc := 1) dX7_eRead_1 (by decide) ?_
  refine put_y_heldMany (pc := 2) dX7_eRead_2 pX7_112 ?_
  refine e_aloadn (pc := 5) dX7_eRead_5 rfl ?_
  refine e_iconst (v := 0) (pc := 6) dX7_eRead_6 (by decide) ?_
  refine put_y_opens (pc := 7) dX7_eRead_7 pX7_119 ?_
  refine e_iconst (v := 1) (pc := 10) dX7_eRead_10 (by decide) ?_
  refine e_isn1 (pc := 11) dX7_eRead_11 (Nat.le_of_ble_eq_true rfl) rfl ?_
  refine e_iconst (v := 1) (pc := 12) dX7_eRead_12 (by decide) ?_
  refine e_isn2 (pc := 13) dX7_eRead_13 (Nat.le_of_ble_eq_true rfl) rfl ?_
  exact lp_y_er hL hN hN2 h4 ht (N + 1) A0 true true [] o 0 b _ d none (by omega) hA h0 ⟨hP.1, hP.2.1, rfl, rfl, rfl, hP.2.2, by simp; omega⟩ (by simp; omega) rfl
/-- ok, at, begun, put, where the parts begin -/
def ytp (T : Nat → Int32) (N : Nat) : Nat → Nat → Nat → Nat → List Int32 → List Nat → Bool × Nat × Nat × List Int32 × List Nat
  | 0, _, A, bg, o, S => (true, A, bg, o, S)
  | g + 1, p, A, bg, o, S => if (ynx T N A).2.2.1 = 3 ∧ (ynx T N A).2.2.2 = nI p then
      (if (yer T N (N + 1) (ynx T N A).2.1 true true [] o 0).1 = true then ytp T N g (p + 1) (yer T N (N + 1) (ynx T N A).2.1 true true [] o 0).2.1 (yer T N (N + 1) (ynx T N A).2.1 true true [] o 0).2.2.1 (yer T N (N + 1) (ynx T N A).2.1 true true [] o 0).2.2.2.2.1 (S ++ [o.length])
        else (false, (yer T N (N + 1) (ynx T N A).2.1 true true [] o 0).2.1, (yer T N (N + 1) (ynx T N A).2.1 true true [] o 0).2.2.1, (yer T N (N + 1) (ynx T N A).2.1 true true [] o 0).2.2.2.2.1, S ++ [o.length]))
    else (false, (ynx T N A).2.1, (ynx T N A).1, o, S ++ [o.length])
/-- the world as it stands after some parts -/
def yTS (t N : Nat) (B b : Nat → List Int32) (n : Nat → Int32) (d : Nat → List Int32) (A0 bg : Nat) (o : List Int32) (S : List Nat) : Prop :=
  ∃ l5, l5.length = 24 ∧ (∀ i, i < S.length → l5.getD (4 * t + i) 0 = nI (S.getD i 0)) ∧ (∀ i, i < 4 * t ∨ 4 * t + 4 ≤ i → l5.getD i 0 = (B 5).getD i 0) ∧ yP0 t (mc_up B 5 l5) b n d o ∧ n 0 = nI A0 ∧ (S.length = 0 ∨ n 1 = nI bg) ∧ A0 ≤ N ∧ o.length ≤ A0
theorem yTS_start {t : Nat} {B b : Nat → List Int32} {n : Nat → Int32} {d : Nat → List Int32} {o : List Int32} {S : List Nat} {l5 : List Int32} (hS : S.length < 4) (ht : t < 6)
    (h1 : l5.length = 24) (h2 : ∀ i, i < S.length → l5.getD (4 * t + i) 0 = nI (S.getD i 0)) (h3 : ∀ i, i < 4 * t ∨ 4 * t + 4 ≤ i → l5.getD i 0 = (B 5).getD i 0) (hP : yP0 t (mc_up B 5 l5) b n d o) (x : Nat) :
    (l5.set (4 * t + S.length) (nI x)).length = 24 ∧ (∀ i, i < (S ++ [x]).length → (l5.set (4 * t + S.length) (nI x)).getD (4 * t + i) 0 = nI ((S ++ [x]).getD i 0)) ∧ (∀ i, i < 4 * t ∨ 4 * t + 4 ≤ i → (l5.set (4 * t + S.length) (nI x)).getD i 0 = (B 5).getD i 0) ∧ yP0 t (mc_up B 5 (l5.set (4 * t + S.length) (nI x))) (mc_up b 5 ((b 5).set (4 * t + S.length) (nI x))) n d o := by
  refine ⟨by rw [List.length_set]; exact h1, fun i hi => ?_, fun i hi => ?_, ?_⟩
  · rw [List.length_append] at hi
    rw [gD_set (by omega)]
    by_cases e : i = S.length
    · rw [if_pos (by omega), e, List.getD_eq_getElem?_getD, List.getElem?_append_right (Nat.le_refl _), Nat.sub_self]; rfl
    · simp at hi
      rw [if_neg (by omega), h2 i (by omega), List.getD_eq_getElem?_getD, List.getD_eq_getElem?_getD, List.getElem?_append_left (by omega)]
  · rw [gD_set (by omega), if_neg (by omega)]; exact h3 i hi
  · have e := yP0_b5 hP
    rw [e]
    exact yP0_5 hP
theorem lp_y_txb {s u m : Nat → Int32} {a c : Nat → List Int32} {q : List (Option Nat)} {h : Nat} {z : mc_W} {Post : Option Value → mc_W → Prop} {b : Nat → List Int32} {n : Nat → Int32} {d : Nat → List Int32} {p : Nat} (hK : mc_E RX7 cX7_text 3 (mc_JM (some .int) false 5 0 0 Post) 101 [some (.ref 29), some (.int 0), some (.int (nI p))] [] (WW s a q u c h m b n d z) 0 0) :
    mc_E RX7 cX7_text 3 (mc_JM (some .int) false 5 0 0 Post) 26 [some (.ref 29), some (.int 0), some (.int (nI p))] [] (WW s a q u c h m b n d z) 0 0 := by
  refine e_iloadn (pc := 26) dX7_text_26 rfl ?_
  refine e_iconst (v := 3) (pc := 27) dX7_text_27 (by decide) ?_
  refine e_icmp_ge (pc := 28) dX7_text_28 (t := 101) (by decide) (fun c_28 => ?_) (fun c_28 => ?_)
  · skip
    exact hK
  · skip
    refine e_iloadn (pc := 31) dX7_text_31 rfl ?_
    refine e_if_eq (pc := 32) dX7_text_32 (t := 101) (by decide) (fun _ => ?_) (fun c_32 => absurd (by decide) c_32)
    exact hK
set_option maxHeartbeats 2000000 in
theorem lp_y_tp {s u m : Nat → Int32} {a c : Nat → List Int32} {q : List (Option Nat)} {h : Nat} {z : mc_W} {t : Nat} {B : Nat → List Int32} {Post : Option Value → mc_W → Prop} {N : Nat} {V : Bool × Nat × Nat × List Int32 × List Nat} (hL : yL B) (hN : m 3 = nI N) (hN2 : N ≤ 160) (h4 : m 4 = nI t) (ht : t < 6)
    (hK : ∀ p b n d, yTS t N B b n d V.2.1 V.2.2.1 V.2.2.2.1 V.2.2.2.2 → mc_E RX7 cX7_text 3 (mc_JM (some .int) false 5 0 0 Post) 101 [some (.ref 29), some (.int (mc_b V.1)), some (.int (nI p))] [] (WW s a q u c h m b n d z) 0 0) :
    ∀ (g p A0 bg : Nat) (o : List Int32) (S : List Nat) (b : Nat → List Int32) (n : Nat → Int32) (d : Nat → List Int32), p + g = 3 → S.length = p → yTS t N B b n d A0 bg o S → ytp (yt3 B) N g p A0 bg o S = V →
      mc_E RX7 cX7_text 3 (mc_JM (some .int) false 5 0 0 Post) 26 [some (.ref 29), some (.int 1), some (.int (nI p))] [] (WW s a q u c h m b n d z) 0 0 := by
  intro g
  induction g with
  | zero =>
    intro p A0 bg o S b n d hp hSl hT hV
    have e : p = 3 := by omega
    subst e
    have hV : (true, A0, bg, o, S) = V := hV
    subst hV
    refine e_iloadn (pc := 26) dX7_text_26 rfl ?_
    refine e_iconst (v := 3) (pc := 27) dX7_text_27 (by decide) ?_
    refine e_icmp_ge (pc := 28) dX7_text_28 (t := 101) (by decide) (fun _ => ?_) (fun c_28 => absurd (by decide) c_28)
    exact hK 3 b n d hT
  | succ g ih =>
    intro p A0 bg o S b n d hp hSl hT hV
    have hp3 : p < 3 := by omega
    obtain ⟨l5, g1, g2, g3, hP, h0, h1, hA, hl⟩ := hT
    have hL5 := yL_5 hL g1
    obtain ⟨hLb, eT⟩ := hP.L hL5
    have eT : yt3 b = yt3 B := eT
    obtain ⟨k1, k2, k3⟩ := ynx_lt (yt3 B) N A0 hA
    simp only [ytp] at hV
    refine e_iloadn (pc := 26) dX7_text_26 rfl ?_
    refine e_iconst (v := 3) (pc := 27) dX7_text_27 (by decide) ?_
    refine e_icmp_ge (pc := 28) dX7_text_28 (t := 101) (by decide) (fun c_28 => absurd c_28 (nI_ge hp3 (by decide))) (fun _ => ?_)
    refine e_iloadn (pc := 31) dX7_text_31 rfl ?_
    refine e_if_eq (pc := 32) dX7_text_32 (t := 101) (by decide) (fun c_32 => absurd c_32 (by decide)) (fun _ => ?_)
    refine e_aloadn (pc := 35) dX7_text_35 rfl ?_
    refine e_cvY (pc := 36) (sp_y_next hLb hN hN2 hA h0) dX7_text_36 kX7_132 rfl rfl rfl rfl rfl (mc_CR_of (Nat.le_of_ble_eq_true rfl) (Nat.le_of_ble_eq_true rfl) (Nat.le_refl _) (Nat.le_refl _)) (Nat.le_of_ble_eq_true rfl) (fun w1 hw1 => ?_)
    obtain ⟨n1, hX, rfl⟩ := hw1
    rw [eT] at hX
    generalize ynx (yt3 B) N A0 = R at hX hV k1 k2 k3
    obtain ⟨bg1, A1, tk, vl⟩ := R
    obtain ⟨j0, j1, j2, j3, j4⟩ := hX
    simp only at j0 j1 j2 j3 hV k1 k2 k3
    have hP1 := yP0_n hP j4
    have g6 : n1 6 = nI o.length := hP1.2.2
    have b5 : (b 5).length = 24 := by rw [yP0_b5 hP1]; exact g1
    have ei : 4 * m 4 + nI p = nI (4 * t + p) := by rw [h4, show (4 : Int32) * nI t = nI (4 * t) from pk_mul 4 t, nI_add]
    have ii : vp_in (4 * m 4 + nI p) (b 5).length := by rw [ei, b5]; exact vp_in_nI (by omega) (by decide)
    have ec : (4 * m 4 + nI p).toNatClampNeg = 4 * t + S.length := by rw [ei, nIc (by omega), hSl]
    obtain ⟨y1, y2, y3, y4⟩ := yTS_start (by omega) ht g1 g2 g3 hP1 o.length
    refine e_aloadn (pc := 39) dX7_text_39 rfl ?_
    refine e_get (pc := 40) dX7_text_40 fX7_99 rfl rfl ?_
    refine e_top (j2) ?_
    refine e_iconst (v := 3) (pc := 43) dX7_text_43 (by decide) ?_
    refine e_icmp_ne (pc := 44) dX7_text_44 (t := 59) (by decide) (fun c_44 => ?_) (fun c_44 => ?_)
    · skip
      refine e_iconst (v := 0) (pc := 59) dX7_text_59 (by decide) ?_
      refine e_isn1 (pc := 60) dX7_text_60 (Nat.le_of_ble_eq_true rfl) rfl ?_
      refine e_aloadn (pc := 61) dX7_text_61 rfl ?_
      refine e_get (pc := 62) dX7_text_62 fX7_32 rfl rfl ?_
      refine e_iconst (v := 4) (pc := 65) dX7_text_65 (by decide) ?_
      refine e_aloadn (pc := 66) dX7_text_66 rfl ?_
      refine e_get (pc := 67) dX7_text_67 fX7_80 rfl rfl ?_
      refine e_imul (pc := 70) dX7_text_70 ?_
      refine e_iloadn (pc := 71) dX7_text_71 rfl ?_
      refine e_iadd (pc := 72) dX7_text_72 ?_
      refine e_aloadn (pc := 73) dX7_text_73 rfl ?_
      refine e_get (pc := 74) dX7_text_74 fX7_109 rfl rfl ?_
      refine e_top (g6) ?_
      refine ast_starts (pc := 77) dX7_text_77 ii ?_
      rw [ec]
      refine e_iloadn (pc := 78) dX7_text_78 rfl ?_
      refine e_if_eq (pc := 79) dX7_text_79 (t := 93) (by decide) (fun _ => ?_) (fun c_79 => absurd (by decide) c_79)
      refine e_iconst (v := 0) (pc := 93) dX7_text_93 (by decide) ?_
      refine e_isn1 (pc := 94) dX7_text_94 (Nat.le_of_ble_eq_true rfl) rfl ?_
      refine e_incC2 (pc := 95) dX7_text_95 (nI_1 p) (Nat.le_of_ble_eq_true rfl) rfl ?_
      refine e_goto (pc := 98) dX7_text_98 (t := 26) (by decide) ?_
      rw [if_neg (fun q => c_44 q.1)] at hV
      subst hV
      exact lp_y_txb (hK (p + 1) _ _ _ ⟨_, y1, y2, y3, y4, j0, Or.inr j1, k2, by show o.length ≤ A1; omega⟩)
    · skip
      refine e_aloadn (pc := 47) dX7_text_47 rfl ?_
      refine e_get (pc := 48) dX7_text_48 fX7_102 rfl rfl ?_
      refine e_top (j3) ?_
      refine e_iloadn (pc := 51) dX7_text_51 rfl ?_
      refine e_icmp_ne (pc := 52) dX7_text_52 (t := 59) (by decide) (fun c_52 => ?_) (fun c_52 => ?_)
      · skip
        refine e_iconst (v := 0) (pc := 59) dX7_text_59 (by decide) ?_
        refine e_isn1 (pc := 60) dX7_text_60 (Nat.le_of_ble_eq_true rfl) rfl ?_
        refine e_aloadn (pc := 61) dX7_text_61 rfl ?_
        refine e_get (pc := 62) dX7_text_62 fX7_32 rfl rfl ?_
        refine e_iconst (v := 4) (pc := 65) dX7_text_65 (by decide) ?_
        refine e_aloadn (pc := 66) dX7_text_66 rfl ?_
        refine e_get (pc := 67) dX7_text_67 fX7_80 rfl rfl ?_
        refine e_imul (pc := 70) dX7_text_70 ?_
        refine e_iloadn (pc := 71) dX7_text_71 rfl ?_
        refine e_iadd (pc := 72) dX7_text_72 ?_
        refine e_aloadn (pc := 73) dX7_text_73 rfl ?_
        refine e_get (pc := 74) dX7_text_74 fX7_109 rfl rfl ?_
        refine e_top (g6) ?_
        refine ast_starts (pc := 77) dX7_text_77 ii ?_
        rw [ec]
        refine e_iloadn (pc := 78) dX7_text_78 rfl ?_
        refine e_if_eq (pc := 79) dX7_text_79 (t := 93) (by decide) (fun _ => ?_) (fun c_79 => absurd (by decide) c_79)
        refine e_iconst (v := 0) (pc := 93) dX7_text_93 (by decide) ?_
        refine e_isn1 (pc := 94) dX7_text_94 (Nat.le_of_ble_eq_true rfl) rfl ?_
        refine e_incC2 (pc := 95) dX7_text_95 (nI_1 p) (Nat.le_of_ble_eq_true rfl) rfl ?_
        refine e_goto (pc := 98) dX7_text_98 (t := 26) (by decide) ?_
        rw [if_neg (fun q => c_52 q.2)] at hV
        subst hV
        exact lp_y_txb (hK (p + 1) _ _ _ ⟨_, y1, y2, y3, y4, j0, Or.inr j1, k2, by show o.length ≤ A1; omega⟩)
      · skip
        refine e_iconst (v := 1) (pc := 55) dX7_text_55 (by decide) ?_
        refine e_goto (pc := 56) dX7_text_56 (t := 60) (by decide) ?_
        refine e_isn1 (pc := 60) dX7_text_60 (Nat.le_of_ble_eq_true rfl) rfl ?_
        refine e_aloadn (pc := 61) dX7_text_61 rfl ?_
        refine e_get (pc := 62) dX7_text_62 fX7_32 rfl rfl ?_
        refine e_iconst (v := 4) (pc := 65) dX7_text_65 (by decide) ?_
        refine e_aloadn (pc := 66) dX7_text_66 rfl ?_
        refine e_get (pc := 67) dX7_text_67 fX7_80 rfl rfl ?_
        refine e_imul (pc := 70) dX7_text_70 ?_
        refine e_iloadn (pc := 71) dX7_text_71 rfl ?_
        refine e_iadd (pc := 72) dX7_text_72 ?_
        refine e_aloadn (pc := 73) dX7_text_73 rfl ?_
        refine e_get (pc := 74) dX7_text_74 fX7_109 rfl rfl ?_
        refine e_top (g6) ?_
        refine ast_starts (pc := 77) dX7_text_77 ii ?_
        rw [ec]
        refine e_iloadn (pc := 78) dX7_text_78 rfl ?_
        refine e_if_eq (pc := 79) dX7_text_79 (t := 93) (by decide) (fun c_79 => absurd c_79 (by decide)) (fun _ => ?_)
        refine e_aloadn (pc := 82) dX7_text_82 rfl ?_
        refine e_cvX (pc := 83) (sp_y_eRead0 (yL_5 hL y1) hN hN2 h4 ht k2 j0 y4 (by omega)) dX7_text_83 kX7_145 rfl rfl rfl rfl rfl (mc_CR_of (Nat.le_of_ble_eq_true rfl) (Nat.le_of_ble_eq_true rfl) (Nat.le_refl _) (Nat.le_refl _)) (Nat.le_of_ble_eq_true rfl) (fun w1 hw1 => ?_)
        obtain ⟨b2, n2, d2, hP2, m0, m1, rfl⟩ := hw1
        have yl := yer_le (yt3 B) N (N + 1) A1 true true [] o 0 (by omega) k2 (by simp; omega)
        have eT2 : yt3 (mc_up B 5 (l5.set (4 * t + S.length) (nI o.length))) = yt3 B := rfl
        rw [eT2] at hP2 m0 m1 ⊢
        generalize yer (yt3 B) N (N + 1) A1 true true [] o 0 = E at hP2 m0 m1 yl hV ⊢
        refine e_if_eq (pc := 86) dX7_text_86 (t := 93) (by decide) (fun c_86 => ?_) (fun c_86 => ?_)
        · skip
          refine e_iconst (v := 0) (pc := 93) dX7_text_93 (by decide) ?_
          refine e_isn1 (pc := 94) dX7_text_94 (Nat.le_of_ble_eq_true rfl) rfl ?_
          refine e_incC2 (pc := 95) dX7_text_95 (nI_1 p) (Nat.le_of_ble_eq_true rfl) rfl ?_
          refine e_goto (pc := 98) dX7_text_98 (t := 26) (by decide) ?_
          rw [if_pos ⟨c_44, c_52⟩, if_neg (nbt (mc_b0.mp c_86))] at hV
          subst hV
          exact lp_y_txb (hK (p + 1) _ _ _ ⟨_, y1, y2, y3, hP2.P0, m0, Or.inr m1, yl.2.1, by show E.2.2.2.2.1.length ≤ E.2.1; omega⟩)
        · skip
          refine e_iconst (v := 1) (pc := 89) dX7_text_89 (by decide) ?_
          refine e_goto (pc := 90) dX7_text_90 (t := 94) (by decide) ?_
          refine e_isn1 (pc := 94) dX7_text_94 (Nat.le_of_ble_eq_true rfl) rfl ?_
          refine e_incC2 (pc := 95) dX7_text_95 (nI_1 p) (Nat.le_of_ble_eq_true rfl) rfl ?_
          refine e_goto (pc := 98) dX7_text_98 (t := 26) (by decide) ?_
          rw [if_pos ⟨c_44, c_52⟩, if_pos (mc_b1.mp c_86)] at hV
          exact ih (p + 1) _ _ _ _ _ _ _ (by omega) (by rw [List.length_append, hSl]; rfl) ⟨_, y1, y2, y3, hP2.P0, m0, Or.inr m1, yl.2.1, by omega⟩ hV
end Zj_49_y30
section Zj_50_y31
/-! a text, whole -/
theorem ytp_S (T : Nat → Int32) (N : Nat) : ∀ g p A0 bg o S, (1 ≤ g → S.length < (ytp T N g p A0 bg o S).2.2.2.2.length) ∧ S.length ≤ (ytp T N g p A0 bg o S).2.2.2.2.length ∧ ((ytp T N g p A0 bg o S).1 = true → (ytp T N g p A0 bg o S).2.2.2.2.length = S.length + g) := by
  intro g
  induction g with
  | zero => intro p A0 bg o S; exact ⟨fun q => absurd q (by decide), Nat.le_refl _, fun _ => rfl⟩
  | succ g ih =>
    intro p A0 bg o S
    have e : ∀ x : Nat, (S ++ [x]).length = S.length + 1 := fun x => by rw [List.length_append]; rfl
    simp only [ytp]
    by_cases c1 : (ynx T N A0).2.2.1 = 3 ∧ (ynx T N A0).2.2.2 = nI p
    · rw [if_pos c1]
      by_cases c2 : (yer T N (N + 1) (ynx T N A0).2.1 true true [] o 0).1 = true
      · rw [if_pos c2]
        have K := ih (p + 1) (yer T N (N + 1) (ynx T N A0).2.1 true true [] o 0).2.1 (yer T N (N + 1) (ynx T N A0).2.1 true true [] o 0).2.2.1 (yer T N (N + 1) (ynx T N A0).2.1 true true [] o 0).2.2.2.2.1 (S ++ [o.length])
        rw [e] at K
        exact ⟨fun _ => by omega, by omega, fun q => by have := K.2.2 q; omega⟩
      · rw [if_neg c2]
        exact ⟨fun _ => by show S.length < (S ++ [o.length]).length; rw [e]; omega, by show S.length ≤ (S ++ [o.length]).length; rw [e]; omega, fun q => Bool.noConfusion (show false = true from q)⟩
    · rw [if_neg c1]
      exact ⟨fun _ => by show S.length < (S ++ [o.length]).length; rw [e]; omega, by show S.length ≤ (S ++ [o.length]).length; rw [e]; omega, fun q => Bool.noConfusion (show false = true from q)⟩
/-- the reading of what is on the tape: ok, begun, put, where the parts begin -/
def ytxV (T : Nat → Int32) (N : Nat) : Bool × Nat × List Int32 × List Nat :=
  if (ytp T N 3 0 0 0 [] []).1 = true then (decide ((ynx T N (ytp T N 3 0 0 0 [] []).2.1).2.2.1 = 0), (ynx T N (ytp T N 3 0 0 0 [] []).2.1).1, (ytp T N 3 0 0 0 [] []).2.2.2.1, (ytp T N 3 0 0 0 [] []).2.2.2.2)
  else (false, (ytp T N 3 0 0 0 [] []).2.2.1, (ytp T N 3 0 0 0 [] []).2.2.2.1, (ytp T N 3 0 0 0 [] []).2.2.2.2)
/-- the rows of texts as they stand afterwards -/
def yTX (t : Nat) (B b : Nat → List Int32) (ok : Bool) (o : List Int32) (S : List Nat) : Prop :=
  ∃ l l5, b = mc_up (mc_up B 5 l5) 4 l ∧ l.length = 1200 ∧ l5.length = 24 ∧ (∀ i, i < 200 * t ∨ 200 * t + 200 ≤ i → l.getD i 0 = (B 4).getD i 0) ∧ (∀ i, i < 4 * t ∨ 4 * t + 4 ≤ i → l5.getD i 0 = (B 5).getD i 0) ∧
    (ok = true → (∀ i, i < o.length → l.getD (200 * t + i) 0 = o.getD i 0) ∧ (∀ i, i < 3 → l5.getD (4 * t + i) 0 = nI (S.getD i 0)) ∧ l5.getD (4 * t + 3) 0 = nI o.length)
theorem yTX_of {t N : Nat} {B b : Nat → List Int32} {n : Nat → Int32} {d : Nat → List Int32} {A0 bg : Nat} {o : List Int32} {S : List Nat} {ok : Bool} (ht : t < 6) (h : yTS t N B b n d A0 bg o S) (hS : ok = true → S.length = 3) : yTX t B (mc_up b 5 ((b 5).set (4 * t + 3) (nI o.length))) ok o S := by
  obtain ⟨l5, g1, g2, g3, hP, -⟩ := h
  have e := yP0_b5 hP
  have e5 : b 5 = l5 := e
  have K := yP0_5 (r5 := l5.set (4 * t + 3) (nI o.length)) hP
  rw [e5]
  obtain ⟨⟨l, hb, hl, ho, hx⟩, -⟩ := K
  refine ⟨l, _, hb, hl, by rw [List.length_set]; exact g1, hx, fun i hi => ?_, fun q => ⟨ho, fun i hi => ?_, ?_⟩⟩
  · rw [gD_set (by omega), if_neg (by omega)]; exact g3 i hi
  · rw [gD_set (by omega), if_neg (by omega)]; exact g2 i (by rw [hS q]; exact hi)
  · rw [gD_set (by omega), if_pos rfl]
theorem lp_y_tx {s u m n : Nat → Int32} {a c b d : Nat → List Int32} {q : List (Option Nat)} {h : Nat} {z : mc_W} {t : Nat} {B : Nat → List Int32} {N p : Nat} {P : Bool × Nat × Nat × List Int32 × List Nat} {V : Bool × Nat × List Int32 × List Nat} (hL : yL B) (hN : m 3 = nI N) (hN2 : N ≤ 160) (h4 : m 4 = nI t) (ht : t < 6)
    (hT : yTS t N B b n d P.2.1 P.2.2.1 P.2.2.2.1 P.2.2.2.2) (hS : P.2.2.2.2.length ≠ 0) (hS3 : P.1 = true → P.2.2.2.2.length = 3)
    (hV : (if P.1 = true then (decide ((ynx (yt3 B) N P.2.1).2.2.1 = 0), (ynx (yt3 B) N P.2.1).1, P.2.2.2.1, P.2.2.2.2) else (false, P.2.2.1, P.2.2.2.1, P.2.2.2.2)) = V) :
      mc_E RX7 cX7_text 3 (mc_JM (some .int) false 5 0 0 (fun r' w' => r' = some (.int (if V.1 = true then m 4 + 1 - 1 else -100 - nI V.2.1)) ∧ ∃ b1 n1 d1, yTX t B b1 V.1 V.2.2.1 V.2.2.2 ∧ yD d1 ∧ w' = WW s a q u c h (if V.1 = true then mc_up (mc_up m 3 0) 4 (m 4 + 1) else mc_up m 3 0) b1 n1 d1 z)) 101 [some (.ref 29), some (.int (mc_b P.1)), some (.int (nI p))] [] (WW s a q u c h m b n d z) 0 0 := by
  have hT0 := hT
  obtain ⟨l5, g1, g2, g3, hP, h0, h1, hA, hl⟩ := hT0
  have h1 := h1.resolve_left hS
  have hL5 := yL_5 hL g1
  obtain ⟨hLb, eT⟩ := hP.L hL5
  have eT : yt3 b = yt3 B := eT
  have b5 : (b 5).length = 24 := by rw [yP0_b5 hP]; exact g1
  have ei : 4 * m 4 + 3 = nI (4 * t + 3) := by rw [h4, show (4 : Int32) * nI t = nI (4 * t) from pk_mul 4 t]; exact nI_add _ 3
  have ii : vp_in (4 * m 4 + 3) (b 5).length := by rw [ei, b5]; exact vp_in_nI (by omega) (by decide)
  have ec : (4 * m 4 + 3).toNatClampNeg = 4 * t + 3 := by rw [ei, nIc (by omega)]
  have g6 : n 6 = nI P.2.2.2.1.length := hP.2.2
  have X1 := yTX_of (ok := P.1) ht hT hS3
  obtain ⟨ok, A1, bg, o, S⟩ := P
  cases ok with
  | false =>
    have hV : (false, bg, o, S) = V := hV
    subst hV
    have g6 : n 6 = nI o.length := g6
    have h1 : n 1 = nI bg := h1
    show mc_E RX7 cX7_text 3 _ 101 [some (.ref 29), some (.int 0), some (.int (nI p))] [] _ 0 0
    refine e_iloadn (pc := 101) dX7_text_101 rfl ?_
    refine e_if_eq (pc := 102) dX7_text_102 (t := 122) (by decide) (fun _ => ?_) (fun c_102 => absurd (by decide) c_102)
    refine e_aloadn (pc := 122) dX7_text_122 rfl ?_
    refine e_get (pc := 123) dX7_text_123 fX7_32 rfl rfl ?_
    refine e_iconst (v := 4) (pc := 126) dX7_text_126 (by decide) ?_
    refine e_aloadn (pc := 127) dX7_text_127 rfl ?_
    refine e_get (pc := 128) dX7_text_128 fX7_80 rfl rfl ?_
    refine e_imul (pc := 131) dX7_text_131 ?_
    refine e_iconst (v := 3) (pc := 132) dX7_text_132 (by decide) ?_
    refine e_iadd (pc := 133) dX7_text_133 ?_
    refine e_aloadn (pc := 134) dX7_text_134 rfl ?_
    refine e_get (pc := 135) dX7_text_135 fX7_109 rfl rfl ?_
    refine e_top (g6) ?_
    refine ast_starts (pc := 138) dX7_text_138 ii ?_
    rw [ec]
    refine e_aloadn (pc := 139) dX7_text_139 rfl ?_
    refine e_iconst (v := 0) (pc := 140) dX7_text_140 (by decide) ?_
    refine put_y_taped (pc := 141) dX7_text_141 pX7_65 ?_
    refine e_iloadn (pc := 144) dX7_text_144 rfl ?_
    refine e_if_ne (pc := 145) dX7_text_145 (t := 156) (by decide) (fun c_145 => absurd c_145 (by decide)) (fun _ => ?_)
    refine e_bipush (v := -100) (pc := 148) dX7_text_148 (by decide) ?_
    refine e_aloadn (pc := 150) dX7_text_150 rfl ?_
    refine e_get (pc := 151) dX7_text_151 fX7_96 rfl rfl ?_
    refine e_top (h1) ?_
    refine e_isub (pc := 154) dX7_text_154 ?_
    exact e_iret (pc := 155) dX7_text_155 rfl (Nat.le_refl _) (Nat.le_refl _) ⟨rfl, _, n, d, X1, hP.2.1, rfl⟩
  | true =>
    have hV : (decide ((ynx (yt3 B) N A1).2.2.1 = 0), (ynx (yt3 B) N A1).1, o, S) = V := hV
    have g6 : n 6 = nI o.length := g6
    have h0 : n 0 = nI A1 := h0
    have hA : A1 ≤ N := hA
    show mc_E RX7 cX7_text 3 _ 101 [some (.ref 29), some (.int 1), some (.int (nI p))] [] _ 0 0
    have X2 := yTX_of (ok := false) ht hT (fun q => absurd q (by decide))
    refine e_iloadn (pc := 101) dX7_text_101 rfl ?_
    refine e_if_eq (pc := 102) dX7_text_102 (t := 122) (by decide) (fun c_102 => absurd c_102 (by decide)) (fun _ => ?_)
    refine e_aloadn (pc := 105) dX7_text_105 rfl ?_
    refine e_cvY (pc := 106) (sp_y_next hLb hN hN2 hA h0) dX7_text_106 kX7_132 rfl rfl rfl rfl rfl (mc_CR_of (Nat.le_of_ble_eq_true rfl) (Nat.le_of_ble_eq_true rfl) (Nat.le_refl _) (Nat.le_refl _)) (Nat.le_of_ble_eq_true rfl) (fun w1 hw1 => ?_)
    obtain ⟨n1, hX, rfl⟩ := hw1
    rw [eT] at hX
    obtain ⟨j0, j1, j2, j3, j4⟩ := hX
    have g6 : n1 6 = nI o.length := (j4 6 (by decide)).trans g6
    refine e_aloadn (pc := 109) dX7_text_109 rfl ?_
    refine e_get (pc := 110) dX7_text_110 fX7_99 rfl rfl ?_
    refine e_top (j2) ?_
    refine e_if_ne (pc := 113) dX7_text_113 (t := 120) (by decide) (fun c_113 => ?_) (fun c_113 => ?_)
    · skip
      refine e_iconst (v := 0) (pc := 120) dX7_text_120 (by decide) ?_
      refine e_isn1 (pc := 121) dX7_text_121 (Nat.le_of_ble_eq_true rfl) rfl ?_
      refine e_aloadn (pc := 122) dX7_text_122 rfl ?_
      refine e_get (pc := 123) dX7_text_123 fX7_32 rfl rfl ?_
      refine e_iconst (v := 4) (pc := 126) dX7_text_126 (by decide) ?_
      refine e_aloadn (pc := 127) dX7_text_127 rfl ?_
      refine e_get (pc := 128) dX7_text_128 fX7_80 rfl rfl ?_
      refine e_imul (pc := 131) dX7_text_131 ?_
      refine e_iconst (v := 3) (pc := 132) dX7_text_132 (by decide) ?_
      refine e_iadd (pc := 133) dX7_text_133 ?_
      refine e_aloadn (pc := 134) dX7_text_134 rfl ?_
      refine e_get (pc := 135) dX7_text_135 fX7_109 rfl rfl ?_
      refine e_top (g6) ?_
      refine ast_starts (pc := 138) dX7_text_138 ii ?_
      rw [ec]
      refine e_aloadn (pc := 139) dX7_text_139 rfl ?_
      refine e_iconst (v := 0) (pc := 140) dX7_text_140 (by decide) ?_
      refine put_y_taped (pc := 141) dX7_text_141 pX7_65 ?_
      refine e_iloadn (pc := 144) dX7_text_144 rfl ?_
      refine e_if_ne (pc := 145) dX7_text_145 (t := 156) (by decide) (fun c_145 => absurd c_145 (by decide)) (fun _ => ?_)
      refine e_bipush (v := -100) (pc := 148) dX7_text_148 (by decide) ?_
      refine e_aloadn (pc := 150) dX7_text_150 rfl ?_
      refine e_get (pc := 151) dX7_text_151 fX7_96 rfl rfl ?_
      refine e_top (j1) ?_
      refine e_isub (pc := 154) dX7_text_154 ?_
      exact e_iret (pc := 155) dX7_text_155 rfl (Nat.le_refl _) (Nat.le_refl _) (by rw [decide_eq_false c_113] at hV; subst hV; exact ⟨rfl, _, n1, d, X2, hP.2.1, rfl⟩)
    · skip
      refine e_iconst (v := 1) (pc := 116) dX7_text_116 (by decide) ?_
      refine e_goto (pc := 117) dX7_text_117 (t := 121) (by decide) ?_
      refine e_isn1 (pc := 121) dX7_text_121 (Nat.le_of_ble_eq_true rfl) rfl ?_
      refine e_aloadn (pc := 122) dX7_text_122 rfl ?_
      refine e_get (pc := 123) dX7_text_123 fX7_32 rfl rfl ?_
      refine e_iconst (v := 4) (pc := 126) dX7_text_126 (by decide) ?_
      refine e_aloadn (pc := 127) dX7_text_127 rfl ?_
      refine e_get (pc := 128) dX7_text_128 fX7_80 rfl rfl ?_
      refine e_imul (pc := 131) dX7_text_131 ?_
      refine e_iconst (v := 3) (pc := 132) dX7_text_132 (by decide) ?_
      refine e_iadd (pc := 133) dX7_text_133 ?_
      refine e_aloadn (pc := 134) dX7_text_134 rfl ?_
      refine e_get (pc := 135) dX7_text_135 fX7_109 rfl rfl ?_
      refine e_top (g6) ?_
      refine ast_starts (pc := 138) dX7_text_138 ii ?_
      rw [ec]
      refine e_aloadn (pc := 139) dX7_text_139 rfl ?_
      refine e_iconst (v := 0) (pc := 140) dX7_text_140 (by decide) ?_
      refine put_y_taped (pc := 141) dX7_text_141 pX7_65 ?_
      refine e_iloadn (pc := 144) dX7_text_144 rfl ?_
      refine e_if_ne (pc := 145) dX7_text_145 (t := 156) (by decide) (fun _ => ?_) (fun c_145 => absurd c_145 (by decide))
      refine e_aloadn (pc := 156) dX7_text_156 rfl ?_
      refine e_dup (pc := 157) dX7_text_157 rfl ?_
      refine e_get (pc := 158) dX7_text_158 fX7_80 rfl rfl ?_
      refine e_iconst (v := 1) (pc := 161) dX7_text_161 (by decide) ?_
      refine e_iadd (pc := 162) dX7_text_162 ?_
      refine put_y_texts (pc := 163) dX7_text_163 pX7_80 ?_
      refine e_aloadn (pc := 166) dX7_text_166 rfl ?_
      refine e_get (pc := 167) dX7_text_167 fX7_80 rfl rfl ?_
      refine e_iconst (v := 1) (pc := 170) dX7_text_170 (by decide) ?_
      refine e_isub (pc := 171) dX7_text_171 ?_
      exact e_iret (pc := 172) dX7_text_172 rfl (Nat.le_refl _) (Nat.le_refl _) (by rw [decide_eq_true c_113] at hV; subst hV; exact ⟨rfl, _, n1, d, X1, hP.2.1, rfl⟩)
theorem sp_y_text_full {s u m n : Nat → Int32} {a c b d : Nat → List Int32} {q : List (Option Nat)} {h : Nat} {z : mc_W} (h6 : m 4 = 6) : mc_D yX7_text cX7_text 3 (some .int) 5 [.ref 29] (WW s a q u c h m b n d z) (some (.int (-4))) (WW s a q u c h m b n d z) := by
  refine mc_start (own := RX7) (ini := false) rfl (by decide +kernel) (fun h => by cases h) (Nat.le_of_ble_eq_true rfl) ?_
  show mc_E _ _ _ _ _ [some (.ref 29), none, none] [] _ _ _
  refine e_aloadn (pc := 0) dX7_text_0 rfl ?_
  refine e_get (pc := 1) dX7_text_1 fX7_80 rfl rfl ?_
  refine e_bipush (v := 6) (pc := 4) dX7_text_4 (by decide) ?_
  refine e_icmp_ne (pc := 6) dX7_text_6 (t := 12) (by decide) (fun c_6 => absurd c_6 (fun q => q h6)) (fun _ => ?_)
  refine e_bipush (v := -4) (pc := 9) dX7_text_9 (by decide) ?_
  exact e_iret (pc := 11) dX7_text_11 rfl (Nat.le_refl _) (Nat.le_refl _) ⟨rfl, rfl⟩
theorem sp_y_text {s u m n : Nat → Int32} {a c b d : Nat → List Int32} {q : List (Option Nat)} {h : Nat} {z : mc_W} {t N : Nat} (hL : yL b) (hN : m 3 = nI N) (hN2 : N ≤ 160) (h4 : m 4 = nI t) (ht : t < 6) (hD : yD d) : mc_T yX7_text cX7_text 3 (some .int) 5 [.ref 29] (WW s a q u c h m b n d z) (some (.int (if (ytxV (yt3 b) N).1 = true then m 4 + 1 - 1 else -100 - nI (ytxV (yt3 b) N).2.1))) (fun w' => ∃ b1 n1 d1, yTX t b b1 (ytxV (yt3 b) N).1 (ytxV (yt3 b) N).2.2.1 (ytxV (yt3 b) N).2.2.2 ∧ yD d1 ∧ w' = WW s a q u c h (if (ytxV (yt3 b) N).1 = true then mc_up (mc_up m 3 0) 4 (m 4 + 1) else mc_up m 3 0) b1 n1 d1 z) := by
  refine mc_start (own := RX7) (ini := false) rfl (by decide +kernel) (fun h => by cases h) (Nat.le_of_ble_eq_true rfl) ?_
  show mc_E _ _ _ _ _ [some (.ref 29), none, none] [] _ _ _
  refine e_aloadn (pc := 0) dX7_text_0 rfl ?_
  refine e_get (pc := 1) dX7_text_1 fX7_80 rfl rfl ?_
  refine e_bipush (v := 6) (pc := 4) dX7_text_4 (by decide) ?_
  refine e_icmp_ne (pc := 6) dX7_text_6 (t := 12) (by decide) (fun _ => ?_) (fun c_6 => absurd c_6 (fun q => absurd ((nI_eq (a := t) (b := 6) (by omega) (by decide)).mp (h4.symm.trans q)) (by omega)))
  refine e_aloadn (pc := 12) dX7_text_12 rfl ?_
  refine e_iconst (v := 0) (pc := 13) dX7_text_13 (by decide) ?_
  refine put_y_at (pc := 14) dX7_text_14 pX7_93 ?_
  refine e_aloadn (pc := 17) dX7_text_17 rfl ?_
  refine e_iconst (v := 0) (pc := 18) dX7_text_18 (by decide) ?_
  refine put_y_out (pc := 19) dX7_text_19 pX7_109 ?_
  refine e_iconst (v := 1) (pc := 22) dX7_text_22 (by decide) ?_
  refine e_isn1 (pc := 23) dX7_text_23 (Nat.le_of_ble_eq_true rfl) rfl ?_
  refine e_iconst (v := 0) (pc := 24) dX7_text_24 (by decide) ?_
  refine e_isn2 (pc := 25) dX7_text_25 (Nat.le_of_ble_eq_true rfl) rfl ?_
  refine lp_y_tp (B := b) (N := N) (V := ytp (yt3 b) N 3 0 0 0 [] []) hL hN hN2 h4 ht (fun p b2 n2 d2 hT => ?_) 3 0 0 0 [] [] b _ d (by omega) rfl ?_ rfl
  · exact lp_y_tx (P := ytp (yt3 b) N 3 0 0 0 [] []) hL hN hN2 h4 ht hT (by have := (ytp_S (yt3 b) N 3 0 0 0 [] []).1 (by decide); simp at this; omega) (fun q => by have := (ytp_S (yt3 b) N 3 0 0 0 [] []).2.2 q; simpa using this) rfl
  · exact ⟨b 5, hL.2.2.2.2.2.1, fun i hi => absurd hi (by simp), fun i _ => rfl, ⟨⟨b 4, (by rw [mc_up_self, mc_up_self]), hL.2.2.2.2.1, fun i hi => absurd hi (by simp), fun i _ => rfl⟩, hD, rfl⟩, rfl, Or.inl rfl, Nat.zero_le _, Nat.zero_le _⟩
end Zj_50_y31
section Zj_51_ct0
theorem vi_of {i : Int32} {n : Nat} (h : ¬ (i < 0 ∨ n ≤ i.toNatClampNeg)) : vp_in i n := h
/-! the makers, over worlds that are written out -/
theorem e_w {own : String} {cc : ByteArray} {nL : Nat} {J : mc_J} {pc : Nat} {L : List (Option Value)} {st : List Value} {w w2 : mc_W} {kc ks : Nat} (h : w = w2) (k : mc_E own cc nL J pc L st w2 kc ks) : mc_E own cc nL J pc L st w kc ks := by subst h; exact k
theorem e_ciD {own : String} {cc : ByteArray} {nL : Nat} {J : mc_J} {pc : Nat} {L : List (Option Value)} {st st0 : List Value} {w w1 : mc_W} {kc ks : Nat} {y : MethodName} {c2 : ByteArray} {n2 d mc ms n i a : Nat} {As : List Value} (hS : mc_S y c2 n2 none d mc ms (.ref a :: As) w (fun r' w' => r' = none ∧ w' = w1)) (hd : decode cc pc = .ok (.invokespecial i, 3)) (hf : mc_CI own i y c2 n2 n) (hn : As.length = n) (hst : st0 = As.reverse ++ .ref a :: st) (hR : mc_CR J d mc ms n2 kc ks) (hs : (st.map fun v => v.category).sum ≤ 8)
    (kk : mc_E own cc nL J (pc + 3) L st w1 (kc + mc) (ks + ms)) : mc_E own cc nL J pc L st0 w kc ks :=
  e_callI hS hd hf hn hR hst hs (fun r w' h => by obtain ⟨rfl, rfl⟩ := h; exact kk)
theorem ct_X5_1 : mc_S yX5_init cX5_init 4 none 2 0 0 [.ref 3, .ref 4, .int 1, .int 2] [.inl (6, [.int 10, .int 1, .int 0, .ref 1, .ref 2, .null, .null, .int 0, .int 0, .null, .null, .null, .null, .null]), .inr (.inl (List.replicate 5 0)), .inr (.inl (List.replicate 5 0)), .inl (5, [.null, .int 0, .int 0]), .inr (.inl ([1, 3, -4]))] (fun r w => r = none ∧ w = [.inl (6, [.int 10, .int 1, .int 0, .ref 1, .ref 2, .null, .null, .int 0, .int 0, .null, .null, .null, .null, .null]), .inr (.inl (List.replicate 5 0)), .inr (.inl (List.replicate 5 0)), .inl (5, [.ref 4, .int 1, .int 2]), .inr (.inl ([1, 3, -4]))]) := by
  refine mc_start (own := RX5) (ini := true) rfl (by decide +kernel) (fun _ => rfl) (Nat.le_of_ble_eq_true rfl) ?_
  show mc_E _ _ _ _ _ [some (.ref 3), some (.ref 4), some (.int 1), some (.int 2)] [] _ _ _
  refine e_aloadn (pc := 0) dX5_init_0 rfl ?_
  refine e_objInit (pc := 1) dX5_init_1 oX5_3 obj_inst obj_code (mc_JR_of (Nat.le_of_ble_eq_true rfl) (Nat.le_of_ble_eq_true rfl) (Nat.le_of_ble_eq_true rfl) (Nat.le_of_ble_eq_true rfl)) ?_
  refine e_aloadn (pc := 4) dX5_init_4 rfl ?_
  refine e_aloadn (pc := 5) dX5_init_5 rfl ?_
  refine e_putF (pc := 6) dX5_init_6 pX5_9 rfl rfl (Nat.le_of_ble_eq_true rfl) rfl ?_
  refine e_w (w2 := [.inl (6, [.int 10, .int 1, .int 0, .ref 1, .ref 2, .null, .null, .int 0, .int 0, .null, .null, .null, .null, .null]), .inr (.inl (List.replicate 5 0)), .inr (.inl (List.replicate 5 0)), .inl (5, [.ref 4, .int 0, .int 0]), .inr (.inl ([1, 3, -4]))]) rfl ?_
  refine e_aloadn (pc := 9) dX5_init_9 rfl ?_
  refine e_iloadn (pc := 10) dX5_init_10 rfl ?_
  refine e_putF (pc := 11) dX5_init_11 pX5_15 rfl rfl (Nat.le_of_ble_eq_true rfl) rfl ?_
  refine e_w (w2 := [.inl (6, [.int 10, .int 1, .int 0, .ref 1, .ref 2, .null, .null, .int 0, .int 0, .null, .null, .null, .null, .null]), .inr (.inl (List.replicate 5 0)), .inr (.inl (List.replicate 5 0)), .inl (5, [.ref 4, .int 1, .int 0]), .inr (.inl ([1, 3, -4]))]) rfl ?_
  refine e_aloadn (pc := 14) dX5_init_14 rfl ?_
  refine e_iloadn (pc := 15) dX5_init_15 rfl ?_
  refine e_putF (pc := 16) dX5_init_16 pX5_19 rfl rfl (Nat.le_of_ble_eq_true rfl) rfl ?_
  refine e_w (w2 := [.inl (6, [.int 10, .int 1, .int 0, .ref 1, .ref 2, .null, .null, .int 0, .int 0, .null, .null, .null, .null, .null]), .inr (.inl (List.replicate 5 0)), .inr (.inl (List.replicate 5 0)), .inl (5, [.ref 4, .int 1, .int 2]), .inr (.inl ([1, 3, -4]))]) rfl ?_
  exact e_vret (pc := 19) dX5_init_19 rfl (Nat.le_refl _) (Nat.le_refl _) ⟨rfl, rfl⟩
theorem ct_X4_1 : mc_S yX4_init cX4_init 1 none 2 2 320 [.ref 6] [.inl (6, [.int 10, .int 1, .int 0, .ref 1, .ref 2, .ref 3, .ref 5, .int 1, .int 0, .null, .null, .null, .null, .null]), .inr (.inl (List.replicate 5 0)), .inr (.inl (List.replicate 5 0)), .inl (5, [.ref 4, .int 1, .int 2]), .inr (.inl ([1, 3, -4])), .inr (.inr (1, [none, none, none, none, none, none])), .inl (4, [.null, .int 0, .int 0, .int 0, .int 0, .null, .int 0, .int 0, .int 0])] (fun r w => r = none ∧ w = [.inl (6, [.int 10, .int 1, .int 0, .ref 1, .ref 2, .ref 3, .ref 5, .int 1, .int 0, .null, .null, .null, .null, .null]), .inr (.inl (List.replicate 5 0)), .inr (.inl (List.replicate 5 0)), .inl (5, [.ref 4, .int 1, .int 2]), .inr (.inl ([1, 3, -4])), .inr (.inr (1, [none, none, none, none, none, none])), .inl (4, [.ref 7, .int 0, .int 0, .int 0, .int 0, .ref 8, .int 0, .int 0, .int 0]), .inr (.inl (List.replicate 160 0)), .inr (.inl (List.replicate 160 0))]) := by
  refine mc_start (own := RX4) (ini := true) rfl (by decide +kernel) (fun _ => rfl) (Nat.le_of_ble_eq_true rfl) ?_
  show mc_E _ _ _ _ _ [some (.ref 6)] [] _ _ _
  refine e_aloadn (pc := 0) dX4_init_0 rfl ?_
  refine e_objInit (pc := 1) dX4_init_1 oX4_3 obj_inst obj_code (mc_JR_of (Nat.le_of_ble_eq_true rfl) (Nat.le_of_ble_eq_true rfl) (Nat.le_of_ble_eq_true rfl) (Nat.le_of_ble_eq_true rfl)) ?_
  refine e_aloadn (pc := 4) dX4_init_4 rfl ?_
  refine e_sipush (v := 160) (pc := 5) dX4_init_5 (by decide) ?_
  refine e_newa (N := 160) (pc := 8) dX4_init_8 arr_int (by decide) rfl (Nat.le_of_ble_eq_true rfl) (Nat.le_of_ble_eq_true rfl) (Nat.le_of_ble_eq_true rfl) (Nat.le_of_ble_eq_true rfl) ?_
  refine e_w (w2 := [.inl (6, [.int 10, .int 1, .int 0, .ref 1, .ref 2, .ref 3, .ref 5, .int 1, .int 0, .null, .null, .null, .null, .null]), .inr (.inl (List.replicate 5 0)), .inr (.inl (List.replicate 5 0)), .inl (5, [.ref 4, .int 1, .int 2]), .inr (.inl ([1, 3, -4])), .inr (.inr (1, [none, none, none, none, none, none])), .inl (4, [.null, .int 0, .int 0, .int 0, .int 0, .null, .int 0, .int 0, .int 0]), .inr (.inl (List.replicate 160 0))]) rfl ?_
  refine e_putF (pc := 10) dX4_init_10 pX4_9 rfl rfl (Nat.le_of_ble_eq_true rfl) rfl ?_
  refine e_w (w2 := [.inl (6, [.int 10, .int 1, .int 0, .ref 1, .ref 2, .ref 3, .ref 5, .int 1, .int 0, .null, .null, .null, .null, .null]), .inr (.inl (List.replicate 5 0)), .inr (.inl (List.replicate 5 0)), .inl (5, [.ref 4, .int 1, .int 2]), .inr (.inl ([1, 3, -4])), .inr (.inr (1, [none, none, none, none, none, none])), .inl (4, [.ref 7, .int 0, .int 0, .int 0, .int 0, .null, .int 0, .int 0, .int 0]), .inr (.inl (List.replicate 160 0))]) rfl ?_
  refine e_aloadn (pc := 13) dX4_init_13 rfl ?_
  refine e_sipush (v := 160) (pc := 14) dX4_init_14 (by decide) ?_
  refine e_newa (N := 160) (pc := 17) dX4_init_17 arr_int (by decide) rfl (Nat.le_of_ble_eq_true rfl) (Nat.le_of_ble_eq_true rfl) (Nat.le_of_ble_eq_true rfl) (Nat.le_of_ble_eq_true rfl) ?_
  refine e_w (w2 := [.inl (6, [.int 10, .int 1, .int 0, .ref 1, .ref 2, .ref 3, .ref 5, .int 1, .int 0, .null, .null, .null, .null, .null]), .inr (.inl (List.replicate 5 0)), .inr (.inl (List.replicate 5 0)), .inl (5, [.ref 4, .int 1, .int 2]), .inr (.inl ([1, 3, -4])), .inr (.inr (1, [none, none, none, none, none, none])), .inl (4, [.ref 7, .int 0, .int 0, .int 0, .int 0, .null, .int 0, .int 0, .int 0]), .inr (.inl (List.replicate 160 0)), .inr (.inl (List.replicate 160 0))]) rfl ?_
  refine e_putF (pc := 19) dX4_init_19 pX4_15 rfl rfl (Nat.le_of_ble_eq_true rfl) rfl ?_
  refine e_w (w2 := [.inl (6, [.int 10, .int 1, .int 0, .ref 1, .ref 2, .ref 3, .ref 5, .int 1, .int 0, .null, .null, .null, .null, .null]), .inr (.inl (List.replicate 5 0)), .inr (.inl (List.replicate 5 0)), .inl (5, [.ref 4, .int 1, .int 2]), .inr (.inl ([1, 3, -4])), .inr (.inr (1, [none, none, none, none, none, none])), .inl (4, [.ref 7, .int 0, .int 0, .int 0, .int 0, .ref 8, .int 0, .int 0, .int 0]), .inr (.inl (List.replicate 160 0)), .inr (.inl (List.replicate 160 0))]) rfl ?_
  exact e_vret (pc := 22) dX4_init_22 rfl (Nat.le_refl _) (Nat.le_refl _) ⟨rfl, rfl⟩
theorem ct_X0_1 : mc_S yX0_init cX0_init 1 none 2 2 42 [.ref 10] [.inl (6, [.int 10, .int 1, .int 0, .ref 1, .ref 2, .ref 3, .ref 5, .int 1, .int 0, .ref 6, .ref 9, .null, .null, .null]), .inr (.inl (List.replicate 5 0)), .inr (.inl (List.replicate 5 0)), .inl (5, [.ref 4, .int 1, .int 2]), .inr (.inl ([1, 3, -4])), .inr (.inr (1, [none, none, none, none, none, none])), .inl (4, [.ref 7, .int 0, .int 0, .int 0, .int 0, .ref 8, .int 0, .int 0, .int 0]), .inr (.inl (List.replicate 160 0)), .inr (.inl (List.replicate 160 0)), .inr (.inr (2, [none, none, none, none])), .inl (0, [.null, .null])] (fun r w => r = none ∧ w = [.inl (6, [.int 10, .int 1, .int 0, .ref 1, .ref 2, .ref 3, .ref 5, .int 1, .int 0, .ref 6, .ref 9, .null, .null, .null]), .inr (.inl (List.replicate 5 0)), .inr (.inl (List.replicate 5 0)), .inl (5, [.ref 4, .int 1, .int 2]), .inr (.inl ([1, 3, -4])), .inr (.inr (1, [none, none, none, none, none, none])), .inl (4, [.ref 7, .int 0, .int 0, .int 0, .int 0, .ref 8, .int 0, .int 0, .int 0]), .inr (.inl (List.replicate 160 0)), .inr (.inl (List.replicate 160 0)), .inr (.inr (2, [none, none, none, none])), .inl (0, [.ref 11, .ref 12]), .inr (.inl (List.replicate 36 0)), .inr (.inl (List.replicate 6 0))]) := by
  refine mc_start (own := RX0) (ini := true) rfl (by decide +kernel) (fun _ => rfl) (Nat.le_of_ble_eq_true rfl) ?_
  show mc_E _ _ _ _ _ [some (.ref 10)] [] _ _ _
  refine e_aloadn (pc := 0) dX0_init_0 rfl ?_
  refine e_objInit (pc := 1) dX0_init_1 oX0_3 obj_inst obj_code (mc_JR_of (Nat.le_of_ble_eq_true rfl) (Nat.le_of_ble_eq_true rfl) (Nat.le_of_ble_eq_true rfl) (Nat.le_of_ble_eq_true rfl)) ?_
  refine e_aloadn (pc := 4) dX0_init_4 rfl ?_
  refine e_bipush (v := 36) (pc := 5) dX0_init_5 (by decide) ?_
  refine e_newa (N := 36) (pc := 7) dX0_init_7 arr_int (by decide) rfl (Nat.le_of_ble_eq_true rfl) (Nat.le_of_ble_eq_true rfl) (Nat.le_of_ble_eq_true rfl) (Nat.le_of_ble_eq_true rfl) ?_
  refine e_w (w2 := [.inl (6, [.int 10, .int 1, .int 0, .ref 1, .ref 2, .ref 3, .ref 5, .int 1, .int 0, .ref 6, .ref 9, .null, .null, .null]), .inr (.inl (List.replicate 5 0)), .inr (.inl (List.replicate 5 0)), .inl (5, [.ref 4, .int 1, .int 2]), .inr (.inl ([1, 3, -4])), .inr (.inr (1, [none, none, none, none, none, none])), .inl (4, [.ref 7, .int 0, .int 0, .int 0, .int 0, .ref 8, .int 0, .int 0, .int 0]), .inr (.inl (List.replicate 160 0)), .inr (.inl (List.replicate 160 0)), .inr (.inr (2, [none, none, none, none])), .inl (0, [.null, .null]), .inr (.inl (List.replicate 36 0))]) rfl ?_
  refine e_putF (pc := 9) dX0_init_9 pX0_9 rfl rfl (Nat.le_of_ble_eq_true rfl) rfl ?_
  refine e_w (w2 := [.inl (6, [.int 10, .int 1, .int 0, .ref 1, .ref 2, .ref 3, .ref 5, .int 1, .int 0, .ref 6, .ref 9, .null, .null, .null]), .inr (.inl (List.replicate 5 0)), .inr (.inl (List.replicate 5 0)), .inl (5, [.ref 4, .int 1, .int 2]), .inr (.inl ([1, 3, -4])), .inr (.inr (1, [none, none, none, none, none, none])), .inl (4, [.ref 7, .int 0, .int 0, .int 0, .int 0, .ref 8, .int 0, .int 0, .int 0]), .inr (.inl (List.replicate 160 0)), .inr (.inl (List.replicate 160 0)), .inr (.inr (2, [none, none, none, none])), .inl (0, [.ref 11, .null]), .inr (.inl (List.replicate 36 0))]) rfl ?_
  refine e_aloadn (pc := 12) dX0_init_12 rfl ?_
  refine e_bipush (v := 6) (pc := 13) dX0_init_13 (by decide) ?_
  refine e_newa (N := 6) (pc := 15) dX0_init_15 arr_int (by decide) rfl (Nat.le_of_ble_eq_true rfl) (Nat.le_of_ble_eq_true rfl) (Nat.le_of_ble_eq_true rfl) (Nat.le_of_ble_eq_true rfl) ?_
  refine e_w (w2 := [.inl (6, [.int 10, .int 1, .int 0, .ref 1, .ref 2, .ref 3, .ref 5, .int 1, .int 0, .ref 6, .ref 9, .null, .null, .null]), .inr (.inl (List.replicate 5 0)), .inr (.inl (List.replicate 5 0)), .inl (5, [.ref 4, .int 1, .int 2]), .inr (.inl ([1, 3, -4])), .inr (.inr (1, [none, none, none, none, none, none])), .inl (4, [.ref 7, .int 0, .int 0, .int 0, .int 0, .ref 8, .int 0, .int 0, .int 0]), .inr (.inl (List.replicate 160 0)), .inr (.inl (List.replicate 160 0)), .inr (.inr (2, [none, none, none, none])), .inl (0, [.ref 11, .null]), .inr (.inl (List.replicate 36 0)), .inr (.inl (List.replicate 6 0))]) rfl ?_
  refine e_putF (pc := 17) dX0_init_17 pX0_15 rfl rfl (Nat.le_of_ble_eq_true rfl) rfl ?_
  refine e_w (w2 := [.inl (6, [.int 10, .int 1, .int 0, .ref 1, .ref 2, .ref 3, .ref 5, .int 1, .int 0, .ref 6, .ref 9, .null, .null, .null]), .inr (.inl (List.replicate 5 0)), .inr (.inl (List.replicate 5 0)), .inl (5, [.ref 4, .int 1, .int 2]), .inr (.inl ([1, 3, -4])), .inr (.inr (1, [none, none, none, none, none, none])), .inl (4, [.ref 7, .int 0, .int 0, .int 0, .int 0, .ref 8, .int 0, .int 0, .int 0]), .inr (.inl (List.replicate 160 0)), .inr (.inl (List.replicate 160 0)), .inr (.inr (2, [none, none, none, none])), .inl (0, [.ref 11, .ref 12]), .inr (.inl (List.replicate 36 0)), .inr (.inl (List.replicate 6 0))]) rfl ?_
  exact e_vret (pc := 20) dX0_init_20 rfl (Nat.le_refl _) (Nat.le_refl _) ⟨rfl, rfl⟩
theorem ct_X0_2 : mc_S yX0_init cX0_init 1 none 2 2 42 [.ref 14] [.inl (6, [.int 10, .int 1, .int 0, .ref 1, .ref 2, .ref 3, .ref 5, .int 1, .int 0, .ref 6, .ref 9, .ref 10, .null, .null]), .inr (.inl (List.replicate 5 0)), .inr (.inl (List.replicate 5 0)), .inl (5, [.ref 4, .int 1, .int 2]), .inr (.inl ([1, 3, -4])), .inr (.inr (1, [none, none, none, none, none, none])), .inl (4, [.ref 7, .int 0, .int 0, .int 0, .int 0, .ref 8, .int 0, .int 0, .int 0]), .inr (.inl (List.replicate 160 0)), .inr (.inl (List.replicate 160 0)), .inr (.inr (2, [none, none, none, none])), .inl (0, [.ref 11, .ref 12]), .inr (.inl (List.replicate 36 0)), .inr (.inl (List.replicate 6 0)), .inl (2, [.int 0, .int 0, .int 0, .int 0, .int 0, .null]), .inl (0, [.null, .null])] (fun r w => r = none ∧ w = [.inl (6, [.int 10, .int 1, .int 0, .ref 1, .ref 2, .ref 3, .ref 5, .int 1, .int 0, .ref 6, .ref 9, .ref 10, .null, .null]), .inr (.inl (List.replicate 5 0)), .inr (.inl (List.replicate 5 0)), .inl (5, [.ref 4, .int 1, .int 2]), .inr (.inl ([1, 3, -4])), .inr (.inr (1, [none, none, none, none, none, none])), .inl (4, [.ref 7, .int 0, .int 0, .int 0, .int 0, .ref 8, .int 0, .int 0, .int 0]), .inr (.inl (List.replicate 160 0)), .inr (.inl (List.replicate 160 0)), .inr (.inr (2, [none, none, none, none])), .inl (0, [.ref 11, .ref 12]), .inr (.inl (List.replicate 36 0)), .inr (.inl (List.replicate 6 0)), .inl (2, [.int 0, .int 0, .int 0, .int 0, .int 0, .null]), .inl (0, [.ref 15, .ref 16]), .inr (.inl (List.replicate 36 0)), .inr (.inl (List.replicate 6 0))]) := by
  refine mc_start (own := RX0) (ini := true) rfl (by decide +kernel) (fun _ => rfl) (Nat.le_of_ble_eq_true rfl) ?_
  show mc_E _ _ _ _ _ [some (.ref 14)] [] _ _ _
  refine e_aloadn (pc := 0) dX0_init_0 rfl ?_
  refine e_objInit (pc := 1) dX0_init_1 oX0_3 obj_inst obj_code (mc_JR_of (Nat.le_of_ble_eq_true rfl) (Nat.le_of_ble_eq_true rfl) (Nat.le_of_ble_eq_true rfl) (Nat.le_of_ble_eq_true rfl)) ?_
  refine e_aloadn (pc := 4) dX0_init_4 rfl ?_
  refine e_bipush (v := 36) (pc := 5) dX0_init_5 (by decide) ?_
  refine e_newa (N := 36) (pc := 7) dX0_init_7 arr_int (by decide) rfl (Nat.le_of_ble_eq_true rfl) (Nat.le_of_ble_eq_true rfl) (Nat.le_of_ble_eq_true rfl) (Nat.le_of_ble_eq_true rfl) ?_
  refine e_w (w2 := [.inl (6, [.int 10, .int 1, .int 0, .ref 1, .ref 2, .ref 3, .ref 5, .int 1, .int 0, .ref 6, .ref 9, .ref 10, .null, .null]), .inr (.inl (List.replicate 5 0)), .inr (.inl (List.replicate 5 0)), .inl (5, [.ref 4, .int 1, .int 2]), .inr (.inl ([1, 3, -4])), .inr (.inr (1, [none, none, none, none, none, none])), .inl (4, [.ref 7, .int 0, .int 0, .int 0, .int 0, .ref 8, .int 0, .int 0, .int 0]), .inr (.inl (List.replicate 160 0)), .inr (.inl (List.replicate 160 0)), .inr (.inr (2, [none, none, none, none])), .inl (0, [.ref 11, .ref 12]), .inr (.inl (List.replicate 36 0)), .inr (.inl (List.replicate 6 0)), .inl (2, [.int 0, .int 0, .int 0, .int 0, .int 0, .null]), .inl (0, [.null, .null]), .inr (.inl (List.replicate 36 0))]) rfl ?_
  refine e_putF (pc := 9) dX0_init_9 pX0_9 rfl rfl (Nat.le_of_ble_eq_true rfl) rfl ?_
  refine e_w (w2 := [.inl (6, [.int 10, .int 1, .int 0, .ref 1, .ref 2, .ref 3, .ref 5, .int 1, .int 0, .ref 6, .ref 9, .ref 10, .null, .null]), .inr (.inl (List.replicate 5 0)), .inr (.inl (List.replicate 5 0)), .inl (5, [.ref 4, .int 1, .int 2]), .inr (.inl ([1, 3, -4])), .inr (.inr (1, [none, none, none, none, none, none])), .inl (4, [.ref 7, .int 0, .int 0, .int 0, .int 0, .ref 8, .int 0, .int 0, .int 0]), .inr (.inl (List.replicate 160 0)), .inr (.inl (List.replicate 160 0)), .inr (.inr (2, [none, none, none, none])), .inl (0, [.ref 11, .ref 12]), .inr (.inl (List.replicate 36 0)), .inr (.inl (List.replicate 6 0)), .inl (2, [.int 0, .int 0, .int 0, .int 0, .int 0, .null]), .inl (0, [.ref 15, .null]), .inr (.inl (List.replicate 36 0))]) rfl ?_
  refine e_aloadn (pc := 12) dX0_init_12 rfl ?_
  refine e_bipush (v := 6) (pc := 13) dX0_init_13 (by decide) ?_
  refine e_newa (N := 6) (pc := 15) dX0_init_15 arr_int (by decide) rfl (Nat.le_of_ble_eq_true rfl) (Nat.le_of_ble_eq_true rfl) (Nat.le_of_ble_eq_true rfl) (Nat.le_of_ble_eq_true rfl) ?_
  refine e_w (w2 := [.inl (6, [.int 10, .int 1, .int 0, .ref 1, .ref 2, .ref 3, .ref 5, .int 1, .int 0, .ref 6, .ref 9, .ref 10, .null, .null]), .inr (.inl (List.replicate 5 0)), .inr (.inl (List.replicate 5 0)), .inl (5, [.ref 4, .int 1, .int 2]), .inr (.inl ([1, 3, -4])), .inr (.inr (1, [none, none, none, none, none, none])), .inl (4, [.ref 7, .int 0, .int 0, .int 0, .int 0, .ref 8, .int 0, .int 0, .int 0]), .inr (.inl (List.replicate 160 0)), .inr (.inl (List.replicate 160 0)), .inr (.inr (2, [none, none, none, none])), .inl (0, [.ref 11, .ref 12]), .inr (.inl (List.replicate 36 0)), .inr (.inl (List.replicate 6 0)), .inl (2, [.int 0, .int 0, .int 0, .int 0, .int 0, .null]), .inl (0, [.ref 15, .null]), .inr (.inl (List.replicate 36 0)), .inr (.inl (List.replicate 6 0))]) rfl ?_
  refine e_putF (pc := 17) dX0_init_17 pX0_15 rfl rfl (Nat.le_of_ble_eq_true rfl) rfl ?_
  refine e_w (w2 := [.inl (6, [.int 10, .int 1, .int 0, .ref 1, .ref 2, .ref 3, .ref 5, .int 1, .int 0, .ref 6, .ref 9, .ref 10, .null, .null]), .inr (.inl (List.replicate 5 0)), .inr (.inl (List.replicate 5 0)), .inl (5, [.ref 4, .int 1, .int 2]), .inr (.inl ([1, 3, -4])), .inr (.inr (1, [none, none, none, none, none, none])), .inl (4, [.ref 7, .int 0, .int 0, .int 0, .int 0, .ref 8, .int 0, .int 0, .int 0]), .inr (.inl (List.replicate 160 0)), .inr (.inl (List.replicate 160 0)), .inr (.inr (2, [none, none, none, none])), .inl (0, [.ref 11, .ref 12]), .inr (.inl (List.replicate 36 0)), .inr (.inl (List.replicate 6 0)), .inl (2, [.int 0, .int 0, .int 0, .int 0, .int 0, .null]), .inl (0, [.ref 15, .ref 16]), .inr (.inl (List.replicate 36 0)), .inr (.inl (List.replicate 6 0))]) rfl ?_
  exact e_vret (pc := 20) dX0_init_20 rfl (Nat.le_refl _) (Nat.le_refl _) ⟨rfl, rfl⟩
theorem ct_X2_1 : mc_S yX2_init cX2_init 1 none 3 3 44 [.ref 13] [.inl (6, [.int 10, .int 1, .int 0, .ref 1, .ref 2, .ref 3, .ref 5, .int 1, .int 0, .ref 6, .ref 9, .ref 10, .null, .null]), .inr (.inl (List.replicate 5 0)), .inr (.inl (List.replicate 5 0)), .inl (5, [.ref 4, .int 1, .int 2]), .inr (.inl ([1, 3, -4])), .inr (.inr (1, [none, none, none, none, none, none])), .inl (4, [.ref 7, .int 0, .int 0, .int 0, .int 0, .ref 8, .int 0, .int 0, .int 0]), .inr (.inl (List.replicate 160 0)), .inr (.inl (List.replicate 160 0)), .inr (.inr (2, [none, none, none, none])), .inl (0, [.ref 11, .ref 12]), .inr (.inl (List.replicate 36 0)), .inr (.inl (List.replicate 6 0)), .inl (2, [.int 0, .int 0, .int 0, .int 0, .int 0, .null])] (fun r w => r = none ∧ w = [.inl (6, [.int 10, .int 1, .int 0, .ref 1, .ref 2, .ref 3, .ref 5, .int 1, .int 0, .ref 6, .ref 9, .ref 10, .null, .null]), .inr (.inl (List.replicate 5 0)), .inr (.inl (List.replicate 5 0)), .inl (5, [.ref 4, .int 1, .int 2]), .inr (.inl ([1, 3, -4])), .inr (.inr (1, [none, none, none, none, none, none])), .inl (4, [.ref 7, .int 0, .int 0, .int 0, .int 0, .ref 8, .int 0, .int 0, .int 0]), .inr (.inl (List.replicate 160 0)), .inr (.inl (List.replicate 160 0)), .inr (.inr (2, [none, none, none, none])), .inl (0, [.ref 11, .ref 12]), .inr (.inl (List.replicate 36 0)), .inr (.inl (List.replicate 6 0)), .inl (2, [.int 0, .int 0, .int 0, .int 0, .int 0, .ref 14]), .inl (0, [.ref 15, .ref 16]), .inr (.inl (List.replicate 36 0)), .inr (.inl (List.replicate 6 0))]) := by
  refine mc_start (own := RX2) (ini := true) rfl (by decide +kernel) (fun _ => rfl) (Nat.le_of_ble_eq_true rfl) ?_
  show mc_E _ _ _ _ _ [some (.ref 13)] [] _ _ _
  refine e_aloadn (pc := 0) dX2_init_0 rfl ?_
  refine e_objInit (pc := 1) dX2_init_1 oX2_1 obj_inst obj_code (mc_JR_of (Nat.le_of_ble_eq_true rfl) (Nat.le_of_ble_eq_true rfl) (Nat.le_of_ble_eq_true rfl) (Nat.le_of_ble_eq_true rfl)) ?_
  refine e_aloadn (pc := 4) dX2_init_4 rfl ?_
  refine e_new (pc := 5) dX2_init_5 mcf0 nX2_7 insX0 iniX0 rfl (Nat.le_of_ble_eq_true rfl) (Nat.le_of_ble_eq_true rfl) (Nat.le_of_ble_eq_true rfl) ?_
  refine e_w (w2 := [.inl (6, [.int 10, .int 1, .int 0, .ref 1, .ref 2, .ref 3, .ref 5, .int 1, .int 0, .ref 6, .ref 9, .ref 10, .null, .null]), .inr (.inl (List.replicate 5 0)), .inr (.inl (List.replicate 5 0)), .inl (5, [.ref 4, .int 1, .int 2]), .inr (.inl ([1, 3, -4])), .inr (.inr (1, [none, none, none, none, none, none])), .inl (4, [.ref 7, .int 0, .int 0, .int 0, .int 0, .ref 8, .int 0, .int 0, .int 0]), .inr (.inl (List.replicate 160 0)), .inr (.inl (List.replicate 160 0)), .inr (.inr (2, [none, none, none, none])), .inl (0, [.ref 11, .ref 12]), .inr (.inl (List.replicate 36 0)), .inr (.inl (List.replicate 6 0)), .inl (2, [.int 0, .int 0, .int 0, .int 0, .int 0, .null]), .inl (0, [.null, .null])]) rfl ?_
  refine e_dup (pc := 8) dX2_init_8 rfl ?_
  refine e_ciD (pc := 9) ct_X0_2 dX2_init_9 kX2_9 rfl rfl (mc_CR_of (Nat.le_of_ble_eq_true rfl) (Nat.le_of_ble_eq_true rfl) (Nat.le_of_ble_eq_true rfl) (Nat.le_of_ble_eq_true rfl)) (Nat.le_of_ble_eq_true rfl) ?_
  refine e_putF (pc := 12) dX2_init_12 pX2_10 rfl rfl (Nat.le_of_ble_eq_true rfl) rfl ?_
  refine e_w (w2 := [.inl (6, [.int 10, .int 1, .int 0, .ref 1, .ref 2, .ref 3, .ref 5, .int 1, .int 0, .ref 6, .ref 9, .ref 10, .null, .null]), .inr (.inl (List.replicate 5 0)), .inr (.inl (List.replicate 5 0)), .inl (5, [.ref 4, .int 1, .int 2]), .inr (.inl ([1, 3, -4])), .inr (.inr (1, [none, none, none, none, none, none])), .inl (4, [.ref 7, .int 0, .int 0, .int 0, .int 0, .ref 8, .int 0, .int 0, .int 0]), .inr (.inl (List.replicate 160 0)), .inr (.inl (List.replicate 160 0)), .inr (.inr (2, [none, none, none, none])), .inl (0, [.ref 11, .ref 12]), .inr (.inl (List.replicate 36 0)), .inr (.inl (List.replicate 6 0)), .inl (2, [.int 0, .int 0, .int 0, .int 0, .int 0, .ref 14]), .inl (0, [.ref 15, .ref 16]), .inr (.inl (List.replicate 36 0)), .inr (.inl (List.replicate 6 0))]) rfl ?_
  exact e_vret (pc := 15) dX2_init_15 rfl (Nat.le_refl _) (Nat.le_refl _) ⟨rfl, rfl⟩
theorem ct_X1_1 : mc_S yX1_init cX1_init 2 none 2 3 94 [.ref 17, .ref 3] [.inl (6, [.int 10, .int 1, .int 0, .ref 1, .ref 2, .ref 3, .ref 5, .int 1, .int 0, .ref 6, .ref 9, .ref 10, .ref 13, .null]), .inr (.inl (List.replicate 5 0)), .inr (.inl (List.replicate 5 0)), .inl (5, [.ref 4, .int 1, .int 2]), .inr (.inl ([1, 3, -4])), .inr (.inr (1, [none, none, none, none, none, none])), .inl (4, [.ref 7, .int 0, .int 0, .int 0, .int 0, .ref 8, .int 0, .int 0, .int 0]), .inr (.inl (List.replicate 160 0)), .inr (.inl (List.replicate 160 0)), .inr (.inr (2, [none, none, none, none])), .inl (0, [.ref 11, .ref 12]), .inr (.inl (List.replicate 36 0)), .inr (.inl (List.replicate 6 0)), .inl (2, [.int 0, .int 0, .int 0, .int 0, .int 0, .ref 14]), .inl (0, [.ref 15, .ref 16]), .inr (.inl (List.replicate 36 0)), .inr (.inl (List.replicate 6 0)), .inl (1, [.int 0, .null, .null, .null, .null, .int 0])] (fun r w => r = none ∧ w = [.inl (6, [.int 10, .int 1, .int 0, .ref 1, .ref 2, .ref 3, .ref 5, .int 1, .int 0, .ref 6, .ref 9, .ref 10, .ref 13, .null]), .inr (.inl (List.replicate 5 0)), .inr (.inl (List.replicate 5 0)), .inl (5, [.ref 4, .int 1, .int 2]), .inr (.inl ([1, 3, -4])), .inr (.inr (1, [none, none, none, none, none, none])), .inl (4, [.ref 7, .int 0, .int 0, .int 0, .int 0, .ref 8, .int 0, .int 0, .int 0]), .inr (.inl (List.replicate 160 0)), .inr (.inl (List.replicate 160 0)), .inr (.inr (2, [none, none, none, none])), .inl (0, [.ref 11, .ref 12]), .inr (.inl (List.replicate 36 0)), .inr (.inl (List.replicate 6 0)), .inl (2, [.int 0, .int 0, .int 0, .int 0, .int 0, .ref 14]), .inl (0, [.ref 15, .ref 16]), .inr (.inl (List.replicate 36 0)), .inr (.inl (List.replicate 6 0)), .inl (1, [.int 0, .ref 3, .ref 18, .ref 19, .ref 20, .int 0]), .inr (.inl (List.replicate 6 0)), .inr (.inl (List.replicate 48 0)), .inr (.inl (List.replicate 40 0))]) := by
  refine mc_start (own := RX1) (ini := true) rfl (by decide +kernel) (fun _ => rfl) (Nat.le_of_ble_eq_true rfl) ?_
  show mc_E _ _ _ _ _ [some (.ref 17), some (.ref 3)] [] _ _ _
  refine e_aloadn (pc := 0) dX1_init_0 rfl ?_
  refine e_objInit (pc := 1) dX1_init_1 oX1_3 obj_inst obj_code (mc_JR_of (Nat.le_of_ble_eq_true rfl) (Nat.le_of_ble_eq_true rfl) (Nat.le_of_ble_eq_true rfl) (Nat.le_of_ble_eq_true rfl)) ?_
  refine e_aloadn (pc := 4) dX1_init_4 rfl ?_
  refine e_bipush (v := 6) (pc := 5) dX1_init_5 (by decide) ?_
  refine e_newa (N := 6) (pc := 7) dX1_init_7 arr_int (by decide) rfl (Nat.le_of_ble_eq_true rfl) (Nat.le_of_ble_eq_true rfl) (Nat.le_of_ble_eq_true rfl) (Nat.le_of_ble_eq_true rfl) ?_
  refine e_w (w2 := [.inl (6, [.int 10, .int 1, .int 0, .ref 1, .ref 2, .ref 3, .ref 5, .int 1, .int 0, .ref 6, .ref 9, .ref 10, .ref 13, .null]), .inr (.inl (List.replicate 5 0)), .inr (.inl (List.replicate 5 0)), .inl (5, [.ref 4, .int 1, .int 2]), .inr (.inl ([1, 3, -4])), .inr (.inr (1, [none, none, none, none, none, none])), .inl (4, [.ref 7, .int 0, .int 0, .int 0, .int 0, .ref 8, .int 0, .int 0, .int 0]), .inr (.inl (List.replicate 160 0)), .inr (.inl (List.replicate 160 0)), .inr (.inr (2, [none, none, none, none])), .inl (0, [.ref 11, .ref 12]), .inr (.inl (List.replicate 36 0)), .inr (.inl (List.replicate 6 0)), .inl (2, [.int 0, .int 0, .int 0, .int 0, .int 0, .ref 14]), .inl (0, [.ref 15, .ref 16]), .inr (.inl (List.replicate 36 0)), .inr (.inl (List.replicate 6 0)), .inl (1, [.int 0, .null, .null, .null, .null, .int 0]), .inr (.inl (List.replicate 6 0))]) rfl ?_
  refine e_putF (pc := 9) dX1_init_9 pX1_11 rfl rfl (Nat.le_of_ble_eq_true rfl) rfl ?_
  refine e_w (w2 := [.inl (6, [.int 10, .int 1, .int 0, .ref 1, .ref 2, .ref 3, .ref 5, .int 1, .int 0, .ref 6, .ref 9, .ref 10, .ref 13, .null]), .inr (.inl (List.replicate 5 0)), .inr (.inl (List.replicate 5 0)), .inl (5, [.ref 4, .int 1, .int 2]), .inr (.inl ([1, 3, -4])), .inr (.inr (1, [none, none, none, none, none, none])), .inl (4, [.ref 7, .int 0, .int 0, .int 0, .int 0, .ref 8, .int 0, .int 0, .int 0]), .inr (.inl (List.replicate 160 0)), .inr (.inl (List.replicate 160 0)), .inr (.inr (2, [none, none, none, none])), .inl (0, [.ref 11, .ref 12]), .inr (.inl (List.replicate 36 0)), .inr (.inl (List.replicate 6 0)), .inl (2, [.int 0, .int 0, .int 0, .int 0, .int 0, .ref 14]), .inl (0, [.ref 15, .ref 16]), .inr (.inl (List.replicate 36 0)), .inr (.inl (List.replicate 6 0)), .inl (1, [.int 0, .null, .ref 18, .null, .null, .int 0]), .inr (.inl (List.replicate 6 0))]) rfl ?_
  refine e_aloadn (pc := 12) dX1_init_12 rfl ?_
  refine e_bipush (v := 48) (pc := 13) dX1_init_13 (by decide) ?_
  refine e_newa (N := 48) (pc := 15) dX1_init_15 arr_int (by decide) rfl (Nat.le_of_ble_eq_true rfl) (Nat.le_of_ble_eq_true rfl) (Nat.le_of_ble_eq_true rfl) (Nat.le_of_ble_eq_true rfl) ?_
  refine e_w (w2 := [.inl (6, [.int 10, .int 1, .int 0, .ref 1, .ref 2, .ref 3, .ref 5, .int 1, .int 0, .ref 6, .ref 9, .ref 10, .ref 13, .null]), .inr (.inl (List.replicate 5 0)), .inr (.inl (List.replicate 5 0)), .inl (5, [.ref 4, .int 1, .int 2]), .inr (.inl ([1, 3, -4])), .inr (.inr (1, [none, none, none, none, none, none])), .inl (4, [.ref 7, .int 0, .int 0, .int 0, .int 0, .ref 8, .int 0, .int 0, .int 0]), .inr (.inl (List.replicate 160 0)), .inr (.inl (List.replicate 160 0)), .inr (.inr (2, [none, none, none, none])), .inl (0, [.ref 11, .ref 12]), .inr (.inl (List.replicate 36 0)), .inr (.inl (List.replicate 6 0)), .inl (2, [.int 0, .int 0, .int 0, .int 0, .int 0, .ref 14]), .inl (0, [.ref 15, .ref 16]), .inr (.inl (List.replicate 36 0)), .inr (.inl (List.replicate 6 0)), .inl (1, [.int 0, .null, .ref 18, .null, .null, .int 0]), .inr (.inl (List.replicate 6 0)), .inr (.inl (List.replicate 48 0))]) rfl ?_
  refine e_putF (pc := 17) dX1_init_17 pX1_15 rfl rfl (Nat.le_of_ble_eq_true rfl) rfl ?_
  refine e_w (w2 := [.inl (6, [.int 10, .int 1, .int 0, .ref 1, .ref 2, .ref 3, .ref 5, .int 1, .int 0, .ref 6, .ref 9, .ref 10, .ref 13, .null]), .inr (.inl (List.replicate 5 0)), .inr (.inl (List.replicate 5 0)), .inl (5, [.ref 4, .int 1, .int 2]), .inr (.inl ([1, 3, -4])), .inr (.inr (1, [none, none, none, none, none, none])), .inl (4, [.ref 7, .int 0, .int 0, .int 0, .int 0, .ref 8, .int 0, .int 0, .int 0]), .inr (.inl (List.replicate 160 0)), .inr (.inl (List.replicate 160 0)), .inr (.inr (2, [none, none, none, none])), .inl (0, [.ref 11, .ref 12]), .inr (.inl (List.replicate 36 0)), .inr (.inl (List.replicate 6 0)), .inl (2, [.int 0, .int 0, .int 0, .int 0, .int 0, .ref 14]), .inl (0, [.ref 15, .ref 16]), .inr (.inl (List.replicate 36 0)), .inr (.inl (List.replicate 6 0)), .inl (1, [.int 0, .null, .ref 18, .ref 19, .null, .int 0]), .inr (.inl (List.replicate 6 0)), .inr (.inl (List.replicate 48 0))]) rfl ?_
  refine e_aloadn (pc := 20) dX1_init_20 rfl ?_
  refine e_bipush (v := 40) (pc := 21) dX1_init_21 (by decide) ?_
  refine e_newa (N := 40) (pc := 23) dX1_init_23 arr_int (by decide) rfl (Nat.le_of_ble_eq_true rfl) (Nat.le_of_ble_eq_true rfl) (Nat.le_of_ble_eq_true rfl) (Nat.le_of_ble_eq_true rfl) ?_
  refine e_w (w2 := [.inl (6, [.int 10, .int 1, .int 0, .ref 1, .ref 2, .ref 3, .ref 5, .int 1, .int 0, .ref 6, .ref 9, .ref 10, .ref 13, .null]), .inr (.inl (List.replicate 5 0)), .inr (.inl (List.replicate 5 0)), .inl (5, [.ref 4, .int 1, .int 2]), .inr (.inl ([1, 3, -4])), .inr (.inr (1, [none, none, none, none, none, none])), .inl (4, [.ref 7, .int 0, .int 0, .int 0, .int 0, .ref 8, .int 0, .int 0, .int 0]), .inr (.inl (List.replicate 160 0)), .inr (.inl (List.replicate 160 0)), .inr (.inr (2, [none, none, none, none])), .inl (0, [.ref 11, .ref 12]), .inr (.inl (List.replicate 36 0)), .inr (.inl (List.replicate 6 0)), .inl (2, [.int 0, .int 0, .int 0, .int 0, .int 0, .ref 14]), .inl (0, [.ref 15, .ref 16]), .inr (.inl (List.replicate 36 0)), .inr (.inl (List.replicate 6 0)), .inl (1, [.int 0, .null, .ref 18, .ref 19, .null, .int 0]), .inr (.inl (List.replicate 6 0)), .inr (.inl (List.replicate 48 0)), .inr (.inl (List.replicate 40 0))]) rfl ?_
  refine e_putF (pc := 25) dX1_init_25 pX1_18 rfl rfl (Nat.le_of_ble_eq_true rfl) rfl ?_
  refine e_w (w2 := [.inl (6, [.int 10, .int 1, .int 0, .ref 1, .ref 2, .ref 3, .ref 5, .int 1, .int 0, .ref 6, .ref 9, .ref 10, .ref 13, .null]), .inr (.inl (List.replicate 5 0)), .inr (.inl (List.replicate 5 0)), .inl (5, [.ref 4, .int 1, .int 2]), .inr (.inl ([1, 3, -4])), .inr (.inr (1, [none, none, none, none, none, none])), .inl (4, [.ref 7, .int 0, .int 0, .int 0, .int 0, .ref 8, .int 0, .int 0, .int 0]), .inr (.inl (List.replicate 160 0)), .inr (.inl (List.replicate 160 0)), .inr (.inr (2, [none, none, none, none])), .inl (0, [.ref 11, .ref 12]), .inr (.inl (List.replicate 36 0)), .inr (.inl (List.replicate 6 0)), .inl (2, [.int 0, .int 0, .int 0, .int 0, .int 0, .ref 14]), .inl (0, [.ref 15, .ref 16]), .inr (.inl (List.replicate 36 0)), .inr (.inl (List.replicate 6 0)), .inl (1, [.int 0, .null, .ref 18, .ref 19, .ref 20, .int 0]), .inr (.inl (List.replicate 6 0)), .inr (.inl (List.replicate 48 0)), .inr (.inl (List.replicate 40 0))]) rfl ?_
  refine e_aloadn (pc := 28) dX1_init_28 rfl ?_
  refine e_aloadn (pc := 29) dX1_init_29 rfl ?_
  refine e_put (pc := 30) dX1_init_30 pX1_21 rfl (Nat.le_of_ble_eq_true rfl) rfl ?_
  refine e_w (w2 := [.inl (6, [.int 10, .int 1, .int 0, .ref 1, .ref 2, .ref 3, .ref 5, .int 1, .int 0, .ref 6, .ref 9, .ref 10, .ref 13, .null]), .inr (.inl (List.replicate 5 0)), .inr (.inl (List.replicate 5 0)), .inl (5, [.ref 4, .int 1, .int 2]), .inr (.inl ([1, 3, -4])), .inr (.inr (1, [none, none, none, none, none, none])), .inl (4, [.ref 7, .int 0, .int 0, .int 0, .int 0, .ref 8, .int 0, .int 0, .int 0]), .inr (.inl (List.replicate 160 0)), .inr (.inl (List.replicate 160 0)), .inr (.inr (2, [none, none, none, none])), .inl (0, [.ref 11, .ref 12]), .inr (.inl (List.replicate 36 0)), .inr (.inl (List.replicate 6 0)), .inl (2, [.int 0, .int 0, .int 0, .int 0, .int 0, .ref 14]), .inl (0, [.ref 15, .ref 16]), .inr (.inl (List.replicate 36 0)), .inr (.inl (List.replicate 6 0)), .inl (1, [.int 0, .ref 3, .ref 18, .ref 19, .ref 20, .int 0]), .inr (.inl (List.replicate 6 0)), .inr (.inl (List.replicate 48 0)), .inr (.inl (List.replicate 40 0))]) rfl ?_
  exact e_vret (pc := 33) dX1_init_33 rfl (Nat.le_refl _) (Nat.le_refl _) ⟨rfl, rfl⟩
theorem ct_X3_1 : mc_S yX3_init cX3_init 1 none 2 1 40 [.ref 21] [.inl (6, [.int 10, .int 1, .int 0, .ref 1, .ref 2, .ref 3, .ref 5, .int 1, .int 0, .ref 6, .ref 9, .ref 10, .ref 13, .ref 17]), .inr (.inl (List.replicate 5 0)), .inr (.inl (List.replicate 5 0)), .inl (5, [.ref 4, .int 1, .int 2]), .inr (.inl ([1, 3, -4])), .inr (.inr (1, [some 3, none, none, none, none, none])), .inl (4, [.ref 7, .int 0, .int 0, .int 0, .int 0, .ref 8, .int 0, .int 0, .int 0]), .inr (.inl (List.replicate 160 0)), .inr (.inl (List.replicate 160 0)), .inr (.inr (2, [none, none, none, none])), .inl (0, [.ref 11, .ref 12]), .inr (.inl (List.replicate 36 0)), .inr (.inl (List.replicate 6 0)), .inl (2, [.int 0, .int 0, .int 0, .int 0, .int 0, .ref 14]), .inl (0, [.ref 15, .ref 16]), .inr (.inl (List.replicate 36 0)), .inr (.inl (List.replicate 6 0)), .inl (1, [.int 0, .ref 3, .ref 18, .ref 19, .ref 20, .int 0]), .inr (.inl (List.replicate 6 0)), .inr (.inl (List.replicate 48 0)), .inr (.inl (List.replicate 40 0)), .inl (3, [.null, .int 0, .int 0])] (fun r w => r = none ∧ w = [.inl (6, [.int 10, .int 1, .int 0, .ref 1, .ref 2, .ref 3, .ref 5, .int 1, .int 0, .ref 6, .ref 9, .ref 10, .ref 13, .ref 17]), .inr (.inl (List.replicate 5 0)), .inr (.inl (List.replicate 5 0)), .inl (5, [.ref 4, .int 1, .int 2]), .inr (.inl ([1, 3, -4])), .inr (.inr (1, [some 3, none, none, none, none, none])), .inl (4, [.ref 7, .int 0, .int 0, .int 0, .int 0, .ref 8, .int 0, .int 0, .int 0]), .inr (.inl (List.replicate 160 0)), .inr (.inl (List.replicate 160 0)), .inr (.inr (2, [none, none, none, none])), .inl (0, [.ref 11, .ref 12]), .inr (.inl (List.replicate 36 0)), .inr (.inl (List.replicate 6 0)), .inl (2, [.int 0, .int 0, .int 0, .int 0, .int 0, .ref 14]), .inl (0, [.ref 15, .ref 16]), .inr (.inl (List.replicate 36 0)), .inr (.inl (List.replicate 6 0)), .inl (1, [.int 0, .ref 3, .ref 18, .ref 19, .ref 20, .int 0]), .inr (.inl (List.replicate 6 0)), .inr (.inl (List.replicate 48 0)), .inr (.inl (List.replicate 40 0)), .inl (3, [.ref 22, .int (-1), .int 0]), .inr (.inl (List.replicate 40 0))]) := by
  refine mc_start (own := RX3) (ini := true) rfl (by decide +kernel) (fun _ => rfl) (Nat.le_of_ble_eq_true rfl) ?_
  show mc_E _ _ _ _ _ [some (.ref 21)] [] _ _ _
  refine e_aloadn (pc := 0) dX3_init_0 rfl ?_
  refine e_objInit (pc := 1) dX3_init_1 oX3_3 obj_inst obj_code (mc_JR_of (Nat.le_of_ble_eq_true rfl) (Nat.le_of_ble_eq_true rfl) (Nat.le_of_ble_eq_true rfl) (Nat.le_of_ble_eq_true rfl)) ?_
  refine e_aloadn (pc := 4) dX3_init_4 rfl ?_
  refine e_bipush (v := 40) (pc := 5) dX3_init_5 (by decide) ?_
  refine e_newa (N := 40) (pc := 7) dX3_init_7 arr_int (by decide) rfl (Nat.le_of_ble_eq_true rfl) (Nat.le_of_ble_eq_true rfl) (Nat.le_of_ble_eq_true rfl) (Nat.le_of_ble_eq_true rfl) ?_
  refine e_w (w2 := [.inl (6, [.int 10, .int 1, .int 0, .ref 1, .ref 2, .ref 3, .ref 5, .int 1, .int 0, .ref 6, .ref 9, .ref 10, .ref 13, .ref 17]), .inr (.inl (List.replicate 5 0)), .inr (.inl (List.replicate 5 0)), .inl (5, [.ref 4, .int 1, .int 2]), .inr (.inl ([1, 3, -4])), .inr (.inr (1, [some 3, none, none, none, none, none])), .inl (4, [.ref 7, .int 0, .int 0, .int 0, .int 0, .ref 8, .int 0, .int 0, .int 0]), .inr (.inl (List.replicate 160 0)), .inr (.inl (List.replicate 160 0)), .inr (.inr (2, [none, none, none, none])), .inl (0, [.ref 11, .ref 12]), .inr (.inl (List.replicate 36 0)), .inr (.inl (List.replicate 6 0)), .inl (2, [.int 0, .int 0, .int 0, .int 0, .int 0, .ref 14]), .inl (0, [.ref 15, .ref 16]), .inr (.inl (List.replicate 36 0)), .inr (.inl (List.replicate 6 0)), .inl (1, [.int 0, .ref 3, .ref 18, .ref 19, .ref 20, .int 0]), .inr (.inl (List.replicate 6 0)), .inr (.inl (List.replicate 48 0)), .inr (.inl (List.replicate 40 0)), .inl (3, [.null, .int 0, .int 0]), .inr (.inl (List.replicate 40 0))]) rfl ?_
  refine e_putF (pc := 9) dX3_init_9 pX3_9 rfl rfl (Nat.le_of_ble_eq_true rfl) rfl ?_
  refine e_w (w2 := [.inl (6, [.int 10, .int 1, .int 0, .ref 1, .ref 2, .ref 3, .ref 5, .int 1, .int 0, .ref 6, .ref 9, .ref 10, .ref 13, .ref 17]), .inr (.inl (List.replicate 5 0)), .inr (.inl (List.replicate 5 0)), .inl (5, [.ref 4, .int 1, .int 2]), .inr (.inl ([1, 3, -4])), .inr (.inr (1, [some 3, none, none, none, none, none])), .inl (4, [.ref 7, .int 0, .int 0, .int 0, .int 0, .ref 8, .int 0, .int 0, .int 0]), .inr (.inl (List.replicate 160 0)), .inr (.inl (List.replicate 160 0)), .inr (.inr (2, [none, none, none, none])), .inl (0, [.ref 11, .ref 12]), .inr (.inl (List.replicate 36 0)), .inr (.inl (List.replicate 6 0)), .inl (2, [.int 0, .int 0, .int 0, .int 0, .int 0, .ref 14]), .inl (0, [.ref 15, .ref 16]), .inr (.inl (List.replicate 36 0)), .inr (.inl (List.replicate 6 0)), .inl (1, [.int 0, .ref 3, .ref 18, .ref 19, .ref 20, .int 0]), .inr (.inl (List.replicate 6 0)), .inr (.inl (List.replicate 48 0)), .inr (.inl (List.replicate 40 0)), .inl (3, [.ref 22, .int 0, .int 0]), .inr (.inl (List.replicate 40 0))]) rfl ?_
  refine e_aloadn (pc := 12) dX3_init_12 rfl ?_
  refine e_iconst (v := (-1)) (pc := 13) dX3_init_13 (by decide) ?_
  refine e_put (pc := 14) dX3_init_14 pX3_15 rfl (Nat.le_of_ble_eq_true rfl) rfl ?_
  refine e_w (w2 := [.inl (6, [.int 10, .int 1, .int 0, .ref 1, .ref 2, .ref 3, .ref 5, .int 1, .int 0, .ref 6, .ref 9, .ref 10, .ref 13, .ref 17]), .inr (.inl (List.replicate 5 0)), .inr (.inl (List.replicate 5 0)), .inl (5, [.ref 4, .int 1, .int 2]), .inr (.inl ([1, 3, -4])), .inr (.inr (1, [some 3, none, none, none, none, none])), .inl (4, [.ref 7, .int 0, .int 0, .int 0, .int 0, .ref 8, .int 0, .int 0, .int 0]), .inr (.inl (List.replicate 160 0)), .inr (.inl (List.replicate 160 0)), .inr (.inr (2, [none, none, none, none])), .inl (0, [.ref 11, .ref 12]), .inr (.inl (List.replicate 36 0)), .inr (.inl (List.replicate 6 0)), .inl (2, [.int 0, .int 0, .int 0, .int 0, .int 0, .ref 14]), .inl (0, [.ref 15, .ref 16]), .inr (.inl (List.replicate 36 0)), .inr (.inl (List.replicate 6 0)), .inl (1, [.int 0, .ref 3, .ref 18, .ref 19, .ref 20, .int 0]), .inr (.inl (List.replicate 6 0)), .inr (.inl (List.replicate 48 0)), .inr (.inl (List.replicate 40 0)), .inl (3, [.ref 22, .int (-1), .int 0]), .inr (.inl (List.replicate 40 0))]) rfl ?_
  exact e_vret (pc := 17) dX3_init_17 rfl (Nat.le_refl _) (Nat.le_refl _) ⟨rfl, rfl⟩
theorem ct_X3_2 : mc_S yX3_init cX3_init 1 none 2 1 40 [.ref 23] [.inl (6, [.int 10, .int 1, .int 0, .ref 1, .ref 2, .ref 3, .ref 5, .int 1, .int 0, .ref 6, .ref 9, .ref 10, .ref 13, .ref 17]), .inr (.inl (List.replicate 5 0)), .inr (.inl (List.replicate 5 0)), .inl (5, [.ref 4, .int 1, .int 2]), .inr (.inl ([1, 3, -4])), .inr (.inr (1, [some 3, none, none, none, none, none])), .inl (4, [.ref 7, .int 0, .int 0, .int 0, .int 0, .ref 8, .int 0, .int 0, .int 0]), .inr (.inl (List.replicate 160 0)), .inr (.inl (List.replicate 160 0)), .inr (.inr (2, [some 21, none, none, none])), .inl (0, [.ref 11, .ref 12]), .inr (.inl (List.replicate 36 0)), .inr (.inl (List.replicate 6 0)), .inl (2, [.int 0, .int 0, .int 0, .int 0, .int 0, .ref 14]), .inl (0, [.ref 15, .ref 16]), .inr (.inl (List.replicate 36 0)), .inr (.inl (List.replicate 6 0)), .inl (1, [.int 0, .ref 3, .ref 18, .ref 19, .ref 20, .int 0]), .inr (.inl (List.replicate 6 0)), .inr (.inl (List.replicate 48 0)), .inr (.inl (List.replicate 40 0)), .inl (3, [.ref 22, .int (-1), .int 0]), .inr (.inl (List.replicate 40 0)), .inl (3, [.null, .int 0, .int 0])] (fun r w => r = none ∧ w = [.inl (6, [.int 10, .int 1, .int 0, .ref 1, .ref 2, .ref 3, .ref 5, .int 1, .int 0, .ref 6, .ref 9, .ref 10, .ref 13, .ref 17]), .inr (.inl (List.replicate 5 0)), .inr (.inl (List.replicate 5 0)), .inl (5, [.ref 4, .int 1, .int 2]), .inr (.inl ([1, 3, -4])), .inr (.inr (1, [some 3, none, none, none, none, none])), .inl (4, [.ref 7, .int 0, .int 0, .int 0, .int 0, .ref 8, .int 0, .int 0, .int 0]), .inr (.inl (List.replicate 160 0)), .inr (.inl (List.replicate 160 0)), .inr (.inr (2, [some 21, none, none, none])), .inl (0, [.ref 11, .ref 12]), .inr (.inl (List.replicate 36 0)), .inr (.inl (List.replicate 6 0)), .inl (2, [.int 0, .int 0, .int 0, .int 0, .int 0, .ref 14]), .inl (0, [.ref 15, .ref 16]), .inr (.inl (List.replicate 36 0)), .inr (.inl (List.replicate 6 0)), .inl (1, [.int 0, .ref 3, .ref 18, .ref 19, .ref 20, .int 0]), .inr (.inl (List.replicate 6 0)), .inr (.inl (List.replicate 48 0)), .inr (.inl (List.replicate 40 0)), .inl (3, [.ref 22, .int (-1), .int 0]), .inr (.inl (List.replicate 40 0)), .inl (3, [.ref 24, .int (-1), .int 0]), .inr (.inl (List.replicate 40 0))]) := by
  refine mc_start (own := RX3) (ini := true) rfl (by decide +kernel) (fun _ => rfl) (Nat.le_of_ble_eq_true rfl) ?_
  show mc_E _ _ _ _ _ [some (.ref 23)] [] _ _ _
  refine e_aloadn (pc := 0) dX3_init_0 rfl ?_
  refine e_objInit (pc := 1) dX3_init_1 oX3_3 obj_inst obj_code (mc_JR_of (Nat.le_of_ble_eq_true rfl) (Nat.le_of_ble_eq_true rfl) (Nat.le_of_ble_eq_true rfl) (Nat.le_of_ble_eq_true rfl)) ?_
  refine e_aloadn (pc := 4) dX3_init_4 rfl ?_
  refine e_bipush (v := 40) (pc := 5) dX3_init_5 (by decide) ?_
  refine e_newa (N := 40) (pc := 7) dX3_init_7 arr_int (by decide) rfl (Nat.le_of_ble_eq_true rfl) (Nat.le_of_ble_eq_true rfl) (Nat.le_of_ble_eq_true rfl) (Nat.le_of_ble_eq_true rfl) ?_
  refine e_w (w2 := [.inl (6, [.int 10, .int 1, .int 0, .ref 1, .ref 2, .ref 3, .ref 5, .int 1, .int 0, .ref 6, .ref 9, .ref 10, .ref 13, .ref 17]), .inr (.inl (List.replicate 5 0)), .inr (.inl (List.replicate 5 0)), .inl (5, [.ref 4, .int 1, .int 2]), .inr (.inl ([1, 3, -4])), .inr (.inr (1, [some 3, none, none, none, none, none])), .inl (4, [.ref 7, .int 0, .int 0, .int 0, .int 0, .ref 8, .int 0, .int 0, .int 0]), .inr (.inl (List.replicate 160 0)), .inr (.inl (List.replicate 160 0)), .inr (.inr (2, [some 21, none, none, none])), .inl (0, [.ref 11, .ref 12]), .inr (.inl (List.replicate 36 0)), .inr (.inl (List.replicate 6 0)), .inl (2, [.int 0, .int 0, .int 0, .int 0, .int 0, .ref 14]), .inl (0, [.ref 15, .ref 16]), .inr (.inl (List.replicate 36 0)), .inr (.inl (List.replicate 6 0)), .inl (1, [.int 0, .ref 3, .ref 18, .ref 19, .ref 20, .int 0]), .inr (.inl (List.replicate 6 0)), .inr (.inl (List.replicate 48 0)), .inr (.inl (List.replicate 40 0)), .inl (3, [.ref 22, .int (-1), .int 0]), .inr (.inl (List.replicate 40 0)), .inl (3, [.null, .int 0, .int 0]), .inr (.inl (List.replicate 40 0))]) rfl ?_
  refine e_putF (pc := 9) dX3_init_9 pX3_9 rfl rfl (Nat.le_of_ble_eq_true rfl) rfl ?_
  refine e_w (w2 := [.inl (6, [.int 10, .int 1, .int 0, .ref 1, .ref 2, .ref 3, .ref 5, .int 1, .int 0, .ref 6, .ref 9, .ref 10, .ref 13, .ref 17]), .inr (.inl (List.replicate 5 0)), .inr (.inl (List.replicate 5 0)), .inl (5, [.ref 4, .int 1, .int 2]), .inr (.inl ([1, 3, -4])), .inr (.inr (1, [some 3, none, none, none, none, none])), .inl (4, [.ref 7, .int 0, .int 0, .int 0, .int 0, .ref 8, .int 0, .int 0, .int 0]), .inr (.inl (List.replicate 160 0)), .inr (.inl (List.replicate 160 0)), .inr (.inr (2, [some 21, none, none, none])), .inl (0, [.ref 11, .ref 12]), .inr (.inl (List.replicate 36 0)), .inr (.inl (List.replicate 6 0)), .inl (2, [.int 0, .int 0, .int 0, .int 0, .int 0, .ref 14]), .inl (0, [.ref 15, .ref 16]), .inr (.inl (List.replicate 36 0)), .inr (.inl (List.replicate 6 0)), .inl (1, [.int 0, .ref 3, .ref 18, .ref 19, .ref 20, .int 0]), .inr (.inl (List.replicate 6 0)), .inr (.inl (List.replicate 48 0)), .inr (.inl (List.replicate 40 0)), .inl (3, [.ref 22, .int (-1), .int 0]), .inr (.inl (List.replicate 40 0)), .inl (3, [.ref 24, .int 0, .int 0]), .inr (.inl (List.replicate 40 0))]) rfl ?_
  refine e_aloadn (pc := 12) dX3_init_12 rfl ?_
  refine e_iconst (v := (-1)) (pc := 13) dX3_init_13 (by decide) ?_
  refine e_put (pc := 14) dX3_init_14 pX3_15 rfl (Nat.le_of_ble_eq_true rfl) rfl ?_
  refine e_w (w2 := [.inl (6, [.int 10, .int 1, .int 0, .ref 1, .ref 2, .ref 3, .ref 5, .int 1, .int 0, .ref 6, .ref 9, .ref 10, .ref 13, .ref 17]), .inr (.inl (List.replicate 5 0)), .inr (.inl (List.replicate 5 0)), .inl (5, [.ref 4, .int 1, .int 2]), .inr (.inl ([1, 3, -4])), .inr (.inr (1, [some 3, none, none, none, none, none])), .inl (4, [.ref 7, .int 0, .int 0, .int 0, .int 0, .ref 8, .int 0, .int 0, .int 0]), .inr (.inl (List.replicate 160 0)), .inr (.inl (List.replicate 160 0)), .inr (.inr (2, [some 21, none, none, none])), .inl (0, [.ref 11, .ref 12]), .inr (.inl (List.replicate 36 0)), .inr (.inl (List.replicate 6 0)), .inl (2, [.int 0, .int 0, .int 0, .int 0, .int 0, .ref 14]), .inl (0, [.ref 15, .ref 16]), .inr (.inl (List.replicate 36 0)), .inr (.inl (List.replicate 6 0)), .inl (1, [.int 0, .ref 3, .ref 18, .ref 19, .ref 20, .int 0]), .inr (.inl (List.replicate 6 0)), .inr (.inl (List.replicate 48 0)), .inr (.inl (List.replicate 40 0)), .inl (3, [.ref 22, .int (-1), .int 0]), .inr (.inl (List.replicate 40 0)), .inl (3, [.ref 24, .int (-1), .int 0]), .inr (.inl (List.replicate 40 0))]) rfl ?_
  exact e_vret (pc := 17) dX3_init_17 rfl (Nat.le_refl _) (Nat.le_refl _) ⟨rfl, rfl⟩
theorem ct_X3_3 : mc_S yX3_init cX3_init 1 none 2 1 40 [.ref 25] [.inl (6, [.int 10, .int 1, .int 0, .ref 1, .ref 2, .ref 3, .ref 5, .int 1, .int 0, .ref 6, .ref 9, .ref 10, .ref 13, .ref 17]), .inr (.inl (List.replicate 5 0)), .inr (.inl (List.replicate 5 0)), .inl (5, [.ref 4, .int 1, .int 2]), .inr (.inl ([1, 3, -4])), .inr (.inr (1, [some 3, none, none, none, none, none])), .inl (4, [.ref 7, .int 0, .int 0, .int 0, .int 0, .ref 8, .int 0, .int 0, .int 0]), .inr (.inl (List.replicate 160 0)), .inr (.inl (List.replicate 160 0)), .inr (.inr (2, [some 21, some 23, none, none])), .inl (0, [.ref 11, .ref 12]), .inr (.inl (List.replicate 36 0)), .inr (.inl (List.replicate 6 0)), .inl (2, [.int 0, .int 0, .int 0, .int 0, .int 0, .ref 14]), .inl (0, [.ref 15, .ref 16]), .inr (.inl (List.replicate 36 0)), .inr (.inl (List.replicate 6 0)), .inl (1, [.int 0, .ref 3, .ref 18, .ref 19, .ref 20, .int 0]), .inr (.inl (List.replicate 6 0)), .inr (.inl (List.replicate 48 0)), .inr (.inl (List.replicate 40 0)), .inl (3, [.ref 22, .int (-1), .int 0]), .inr (.inl (List.replicate 40 0)), .inl (3, [.ref 24, .int (-1), .int 0]), .inr (.inl (List.replicate 40 0)), .inl (3, [.null, .int 0, .int 0])] (fun r w => r = none ∧ w = [.inl (6, [.int 10, .int 1, .int 0, .ref 1, .ref 2, .ref 3, .ref 5, .int 1, .int 0, .ref 6, .ref 9, .ref 10, .ref 13, .ref 17]), .inr (.inl (List.replicate 5 0)), .inr (.inl (List.replicate 5 0)), .inl (5, [.ref 4, .int 1, .int 2]), .inr (.inl ([1, 3, -4])), .inr (.inr (1, [some 3, none, none, none, none, none])), .inl (4, [.ref 7, .int 0, .int 0, .int 0, .int 0, .ref 8, .int 0, .int 0, .int 0]), .inr (.inl (List.replicate 160 0)), .inr (.inl (List.replicate 160 0)), .inr (.inr (2, [some 21, some 23, none, none])), .inl (0, [.ref 11, .ref 12]), .inr (.inl (List.replicate 36 0)), .inr (.inl (List.replicate 6 0)), .inl (2, [.int 0, .int 0, .int 0, .int 0, .int 0, .ref 14]), .inl (0, [.ref 15, .ref 16]), .inr (.inl (List.replicate 36 0)), .inr (.inl (List.replicate 6 0)), .inl (1, [.int 0, .ref 3, .ref 18, .ref 19, .ref 20, .int 0]), .inr (.inl (List.replicate 6 0)), .inr (.inl (List.replicate 48 0)), .inr (.inl (List.replicate 40 0)), .inl (3, [.ref 22, .int (-1), .int 0]), .inr (.inl (List.replicate 40 0)), .inl (3, [.ref 24, .int (-1), .int 0]), .inr (.inl (List.replicate 40 0)), .inl (3, [.ref 26, .int (-1), .int 0]), .inr (.inl (List.replicate 40 0))]) := by
  refine mc_start (own := RX3) (ini := true) rfl (by decide +kernel) (fun _ => rfl) (Nat.le_of_ble_eq_true rfl) ?_
  show mc_E _ _ _ _ _ [some (.ref 25)] [] _ _ _
  refine e_aloadn (pc := 0) dX3_init_0 rfl ?_
  refine e_objInit (pc := 1) dX3_init_1 oX3_3 obj_inst obj_code (mc_JR_of (Nat.le_of_ble_eq_true rfl) (Nat.le_of_ble_eq_true rfl) (Nat.le_of_ble_eq_true rfl) (Nat.le_of_ble_eq_true rfl)) ?_
  refine e_aloadn (pc := 4) dX3_init_4 rfl ?_
  refine e_bipush (v := 40) (pc := 5) dX3_init_5 (by decide) ?_
  refine e_newa (N := 40) (pc := 7) dX3_init_7 arr_int (by decide) rfl (Nat.le_of_ble_eq_true rfl) (Nat.le_of_ble_eq_true rfl) (Nat.le_of_ble_eq_true rfl) (Nat.le_of_ble_eq_true rfl) ?_
  refine e_w (w2 := [.inl (6, [.int 10, .int 1, .int 0, .ref 1, .ref 2, .ref 3, .ref 5, .int 1, .int 0, .ref 6, .ref 9, .ref 10, .ref 13, .ref 17]), .inr (.inl (List.replicate 5 0)), .inr (.inl (List.replicate 5 0)), .inl (5, [.ref 4, .int 1, .int 2]), .inr (.inl ([1, 3, -4])), .inr (.inr (1, [some 3, none, none, none, none, none])), .inl (4, [.ref 7, .int 0, .int 0, .int 0, .int 0, .ref 8, .int 0, .int 0, .int 0]), .inr (.inl (List.replicate 160 0)), .inr (.inl (List.replicate 160 0)), .inr (.inr (2, [some 21, some 23, none, none])), .inl (0, [.ref 11, .ref 12]), .inr (.inl (List.replicate 36 0)), .inr (.inl (List.replicate 6 0)), .inl (2, [.int 0, .int 0, .int 0, .int 0, .int 0, .ref 14]), .inl (0, [.ref 15, .ref 16]), .inr (.inl (List.replicate 36 0)), .inr (.inl (List.replicate 6 0)), .inl (1, [.int 0, .ref 3, .ref 18, .ref 19, .ref 20, .int 0]), .inr (.inl (List.replicate 6 0)), .inr (.inl (List.replicate 48 0)), .inr (.inl (List.replicate 40 0)), .inl (3, [.ref 22, .int (-1), .int 0]), .inr (.inl (List.replicate 40 0)), .inl (3, [.ref 24, .int (-1), .int 0]), .inr (.inl (List.replicate 40 0)), .inl (3, [.null, .int 0, .int 0]), .inr (.inl (List.replicate 40 0))]) rfl ?_
  refine e_putF (pc := 9) dX3_init_9 pX3_9 rfl rfl (Nat.le_of_ble_eq_true rfl) rfl ?_
  refine e_w (w2 := [.inl (6, [.int 10, .int 1, .int 0, .ref 1, .ref 2, .ref 3, .ref 5, .int 1, .int 0, .ref 6, .ref 9, .ref 10, .ref 13, .ref 17]), .inr (.inl (List.replicate 5 0)), .inr (.inl (List.replicate 5 0)), .inl (5, [.ref 4, .int 1, .int 2]), .inr (.inl ([1, 3, -4])), .inr (.inr (1, [some 3, none, none, none, none, none])), .inl (4, [.ref 7, .int 0, .int 0, .int 0, .int 0, .ref 8, .int 0, .int 0, .int 0]), .inr (.inl (List.replicate 160 0)), .inr (.inl (List.replicate 160 0)), .inr (.inr (2, [some 21, some 23, none, none])), .inl (0, [.ref 11, .ref 12]), .inr (.inl (List.replicate 36 0)), .inr (.inl (List.replicate 6 0)), .inl (2, [.int 0, .int 0, .int 0, .int 0, .int 0, .ref 14]), .inl (0, [.ref 15, .ref 16]), .inr (.inl (List.replicate 36 0)), .inr (.inl (List.replicate 6 0)), .inl (1, [.int 0, .ref 3, .ref 18, .ref 19, .ref 20, .int 0]), .inr (.inl (List.replicate 6 0)), .inr (.inl (List.replicate 48 0)), .inr (.inl (List.replicate 40 0)), .inl (3, [.ref 22, .int (-1), .int 0]), .inr (.inl (List.replicate 40 0)), .inl (3, [.ref 24, .int (-1), .int 0]), .inr (.inl (List.replicate 40 0)), .inl (3, [.ref 26, .int 0, .int 0]), .inr (.inl (List.replicate 40 0))]) rfl ?_
  refine e_aloadn (pc := 12) dX3_init_12 rfl ?_
  refine e_iconst (v := (-1)) (pc := 13) dX3_init_13 (by decide) ?_
  refine e_put (pc := 14) dX3_init_14 pX3_15 rfl (Nat.le_of_ble_eq_true rfl) rfl ?_
  refine e_w (w2 := [.inl (6, [.int 10, .int 1, .int 0, .ref 1, .ref 2, .ref 3, .ref 5, .int 1, .int 0, .ref 6, .ref 9, .ref 10, .ref 13, .ref 17]), .inr (.inl (List.replicate 5 0)), .inr (.inl (List.replicate 5 0)), .inl (5, [.ref 4, .int 1, .int 2]), .inr (.inl ([1, 3, -4])), .inr (.inr (1, [some 3, none, none, none, none, none])), .inl (4, [.ref 7, .int 0, .int 0, .int 0, .int 0, .ref 8, .int 0, .int 0, .int 0]), .inr (.inl (List.replicate 160 0)), .inr (.inl (List.replicate 160 0)), .inr (.inr (2, [some 21, some 23, none, none])), .inl (0, [.ref 11, .ref 12]), .inr (.inl (List.replicate 36 0)), .inr (.inl (List.replicate 6 0)), .inl (2, [.int 0, .int 0, .int 0, .int 0, .int 0, .ref 14]), .inl (0, [.ref 15, .ref 16]), .inr (.inl (List.replicate 36 0)), .inr (.inl (List.replicate 6 0)), .inl (1, [.int 0, .ref 3, .ref 18, .ref 19, .ref 20, .int 0]), .inr (.inl (List.replicate 6 0)), .inr (.inl (List.replicate 48 0)), .inr (.inl (List.replicate 40 0)), .inl (3, [.ref 22, .int (-1), .int 0]), .inr (.inl (List.replicate 40 0)), .inl (3, [.ref 24, .int (-1), .int 0]), .inr (.inl (List.replicate 40 0)), .inl (3, [.ref 26, .int (-1), .int 0]), .inr (.inl (List.replicate 40 0))]) rfl ?_
  exact e_vret (pc := 17) dX3_init_17 rfl (Nat.le_refl _) (Nat.le_refl _) ⟨rfl, rfl⟩
theorem ct_X3_4 : mc_S yX3_init cX3_init 1 none 2 1 40 [.ref 27] [.inl (6, [.int 10, .int 1, .int 0, .ref 1, .ref 2, .ref 3, .ref 5, .int 1, .int 0, .ref 6, .ref 9, .ref 10, .ref 13, .ref 17]), .inr (.inl (List.replicate 5 0)), .inr (.inl (List.replicate 5 0)), .inl (5, [.ref 4, .int 1, .int 2]), .inr (.inl ([1, 3, -4])), .inr (.inr (1, [some 3, none, none, none, none, none])), .inl (4, [.ref 7, .int 0, .int 0, .int 0, .int 0, .ref 8, .int 0, .int 0, .int 0]), .inr (.inl (List.replicate 160 0)), .inr (.inl (List.replicate 160 0)), .inr (.inr (2, [some 21, some 23, some 25, none])), .inl (0, [.ref 11, .ref 12]), .inr (.inl (List.replicate 36 0)), .inr (.inl (List.replicate 6 0)), .inl (2, [.int 0, .int 0, .int 0, .int 0, .int 0, .ref 14]), .inl (0, [.ref 15, .ref 16]), .inr (.inl (List.replicate 36 0)), .inr (.inl (List.replicate 6 0)), .inl (1, [.int 0, .ref 3, .ref 18, .ref 19, .ref 20, .int 0]), .inr (.inl (List.replicate 6 0)), .inr (.inl (List.replicate 48 0)), .inr (.inl (List.replicate 40 0)), .inl (3, [.ref 22, .int (-1), .int 0]), .inr (.inl (List.replicate 40 0)), .inl (3, [.ref 24, .int (-1), .int 0]), .inr (.inl (List.replicate 40 0)), .inl (3, [.ref 26, .int (-1), .int 0]), .inr (.inl (List.replicate 40 0)), .inl (3, [.null, .int 0, .int 0])] (fun r w => r = none ∧ w = [.inl (6, [.int 10, .int 1, .int 0, .ref 1, .ref 2, .ref 3, .ref 5, .int 1, .int 0, .ref 6, .ref 9, .ref 10, .ref 13, .ref 17]), .inr (.inl (List.replicate 5 0)), .inr (.inl (List.replicate 5 0)), .inl (5, [.ref 4, .int 1, .int 2]), .inr (.inl ([1, 3, -4])), .inr (.inr (1, [some 3, none, none, none, none, none])), .inl (4, [.ref 7, .int 0, .int 0, .int 0, .int 0, .ref 8, .int 0, .int 0, .int 0]), .inr (.inl (List.replicate 160 0)), .inr (.inl (List.replicate 160 0)), .inr (.inr (2, [some 21, some 23, some 25, none])), .inl (0, [.ref 11, .ref 12]), .inr (.inl (List.replicate 36 0)), .inr (.inl (List.replicate 6 0)), .inl (2, [.int 0, .int 0, .int 0, .int 0, .int 0, .ref 14]), .inl (0, [.ref 15, .ref 16]), .inr (.inl (List.replicate 36 0)), .inr (.inl (List.replicate 6 0)), .inl (1, [.int 0, .ref 3, .ref 18, .ref 19, .ref 20, .int 0]), .inr (.inl (List.replicate 6 0)), .inr (.inl (List.replicate 48 0)), .inr (.inl (List.replicate 40 0)), .inl (3, [.ref 22, .int (-1), .int 0]), .inr (.inl (List.replicate 40 0)), .inl (3, [.ref 24, .int (-1), .int 0]), .inr (.inl (List.replicate 40 0)), .inl (3, [.ref 26, .int (-1), .int 0]), .inr (.inl (List.replicate 40 0)), .inl (3, [.ref 28, .int (-1), .int 0]), .inr (.inl (List.replicate 40 0))]) := by
  refine mc_start (own := RX3) (ini := true) rfl (by decide +kernel) (fun _ => rfl) (Nat.le_of_ble_eq_true rfl) ?_
  show mc_E _ _ _ _ _ [some (.ref 27)] [] _ _ _
  refine e_aloadn (pc := 0) dX3_init_0 rfl ?_
  refine e_objInit (pc := 1) dX3_init_1 oX3_3 obj_inst obj_code (mc_JR_of (Nat.le_of_ble_eq_true rfl) (Nat.le_of_ble_eq_true rfl) (Nat.le_of_ble_eq_true rfl) (Nat.le_of_ble_eq_true rfl)) ?_
  refine e_aloadn (pc := 4) dX3_init_4 rfl ?_
  refine e_bipush (v := 40) (pc := 5) dX3_init_5 (by decide) ?_
  refine e_newa (N := 40) (pc := 7) dX3_init_7 arr_int (by decide) rfl (Nat.le_of_ble_eq_true rfl) (Nat.le_of_ble_eq_true rfl) (Nat.le_of_ble_eq_true rfl) (Nat.le_of_ble_eq_true rfl) ?_
  refine e_w (w2 := [.inl (6, [.int 10, .int 1, .int 0, .ref 1, .ref 2, .ref 3, .ref 5, .int 1, .int 0, .ref 6, .ref 9, .ref 10, .ref 13, .ref 17]), .inr (.inl (List.replicate 5 0)), .inr (.inl (List.replicate 5 0)), .inl (5, [.ref 4, .int 1, .int 2]), .inr (.inl ([1, 3, -4])), .inr (.inr (1, [some 3, none, none, none, none, none])), .inl (4, [.ref 7, .int 0, .int 0, .int 0, .int 0, .ref 8, .int 0, .int 0, .int 0]), .inr (.inl (List.replicate 160 0)), .inr (.inl (List.replicate 160 0)), .inr (.inr (2, [some 21, some 23, some 25, none])), .inl (0, [.ref 11, .ref 12]), .inr (.inl (List.replicate 36 0)), .inr (.inl (List.replicate 6 0)), .inl (2, [.int 0, .int 0, .int 0, .int 0, .int 0, .ref 14]), .inl (0, [.ref 15, .ref 16]), .inr (.inl (List.replicate 36 0)), .inr (.inl (List.replicate 6 0)), .inl (1, [.int 0, .ref 3, .ref 18, .ref 19, .ref 20, .int 0]), .inr (.inl (List.replicate 6 0)), .inr (.inl (List.replicate 48 0)), .inr (.inl (List.replicate 40 0)), .inl (3, [.ref 22, .int (-1), .int 0]), .inr (.inl (List.replicate 40 0)), .inl (3, [.ref 24, .int (-1), .int 0]), .inr (.inl (List.replicate 40 0)), .inl (3, [.ref 26, .int (-1), .int 0]), .inr (.inl (List.replicate 40 0)), .inl (3, [.null, .int 0, .int 0]), .inr (.inl (List.replicate 40 0))]) rfl ?_
  refine e_putF (pc := 9) dX3_init_9 pX3_9 rfl rfl (Nat.le_of_ble_eq_true rfl) rfl ?_
  refine e_w (w2 := [.inl (6, [.int 10, .int 1, .int 0, .ref 1, .ref 2, .ref 3, .ref 5, .int 1, .int 0, .ref 6, .ref 9, .ref 10, .ref 13, .ref 17]), .inr (.inl (List.replicate 5 0)), .inr (.inl (List.replicate 5 0)), .inl (5, [.ref 4, .int 1, .int 2]), .inr (.inl ([1, 3, -4])), .inr (.inr (1, [some 3, none, none, none, none, none])), .inl (4, [.ref 7, .int 0, .int 0, .int 0, .int 0, .ref 8, .int 0, .int 0, .int 0]), .inr (.inl (List.replicate 160 0)), .inr (.inl (List.replicate 160 0)), .inr (.inr (2, [some 21, some 23, some 25, none])), .inl (0, [.ref 11, .ref 12]), .inr (.inl (List.replicate 36 0)), .inr (.inl (List.replicate 6 0)), .inl (2, [.int 0, .int 0, .int 0, .int 0, .int 0, .ref 14]), .inl (0, [.ref 15, .ref 16]), .inr (.inl (List.replicate 36 0)), .inr (.inl (List.replicate 6 0)), .inl (1, [.int 0, .ref 3, .ref 18, .ref 19, .ref 20, .int 0]), .inr (.inl (List.replicate 6 0)), .inr (.inl (List.replicate 48 0)), .inr (.inl (List.replicate 40 0)), .inl (3, [.ref 22, .int (-1), .int 0]), .inr (.inl (List.replicate 40 0)), .inl (3, [.ref 24, .int (-1), .int 0]), .inr (.inl (List.replicate 40 0)), .inl (3, [.ref 26, .int (-1), .int 0]), .inr (.inl (List.replicate 40 0)), .inl (3, [.ref 28, .int 0, .int 0]), .inr (.inl (List.replicate 40 0))]) rfl ?_
  refine e_aloadn (pc := 12) dX3_init_12 rfl ?_
  refine e_iconst (v := (-1)) (pc := 13) dX3_init_13 (by decide) ?_
  refine e_put (pc := 14) dX3_init_14 pX3_15 rfl (Nat.le_of_ble_eq_true rfl) rfl ?_
  refine e_w (w2 := [.inl (6, [.int 10, .int 1, .int 0, .ref 1, .ref 2, .ref 3, .ref 5, .int 1, .int 0, .ref 6, .ref 9, .ref 10, .ref 13, .ref 17]), .inr (.inl (List.replicate 5 0)), .inr (.inl (List.replicate 5 0)), .inl (5, [.ref 4, .int 1, .int 2]), .inr (.inl ([1, 3, -4])), .inr (.inr (1, [some 3, none, none, none, none, none])), .inl (4, [.ref 7, .int 0, .int 0, .int 0, .int 0, .ref 8, .int 0, .int 0, .int 0]), .inr (.inl (List.replicate 160 0)), .inr (.inl (List.replicate 160 0)), .inr (.inr (2, [some 21, some 23, some 25, none])), .inl (0, [.ref 11, .ref 12]), .inr (.inl (List.replicate 36 0)), .inr (.inl (List.replicate 6 0)), .inl (2, [.int 0, .int 0, .int 0, .int 0, .int 0, .ref 14]), .inl (0, [.ref 15, .ref 16]), .inr (.inl (List.replicate 36 0)), .inr (.inl (List.replicate 6 0)), .inl (1, [.int 0, .ref 3, .ref 18, .ref 19, .ref 20, .int 0]), .inr (.inl (List.replicate 6 0)), .inr (.inl (List.replicate 48 0)), .inr (.inl (List.replicate 40 0)), .inl (3, [.ref 22, .int (-1), .int 0]), .inr (.inl (List.replicate 40 0)), .inl (3, [.ref 24, .int (-1), .int 0]), .inr (.inl (List.replicate 40 0)), .inl (3, [.ref 26, .int (-1), .int 0]), .inr (.inl (List.replicate 40 0)), .inl (3, [.ref 28, .int (-1), .int 0]), .inr (.inl (List.replicate 40 0))]) rfl ?_
  exact e_vret (pc := 17) dX3_init_17 rfl (Nat.le_refl _) (Nat.le_refl _) ⟨rfl, rfl⟩
theorem ct_X6_1 : mc_S yX6_init cX6_init 2 none 4 28 721 [.ref 0] [.inl (6, [.int 0, .int 0, .int 0, .null, .null, .null, .null, .int 0, .int 0, .null, .null, .null, .null, .null])] (fun r w => r = none ∧ w = [.inl (6, [.int 10, .int 1, .int 0, .ref 1, .ref 2, .ref 3, .ref 5, .int 1, .int 0, .ref 6, .ref 9, .ref 10, .ref 13, .ref 17]), .inr (.inl (List.replicate 5 0)), .inr (.inl (List.replicate 5 0)), .inl (5, [.ref 4, .int 1, .int 2]), .inr (.inl ([1, 3, -4])), .inr (.inr (1, [some 3, none, none, none, none, none])), .inl (4, [.ref 7, .int 0, .int 0, .int 0, .int 0, .ref 8, .int 0, .int 0, .int 0]), .inr (.inl (List.replicate 160 0)), .inr (.inl (List.replicate 160 0)), .inr (.inr (2, [some 21, some 23, some 25, some 27])), .inl (0, [.ref 11, .ref 12]), .inr (.inl (List.replicate 36 0)), .inr (.inl (List.replicate 6 0)), .inl (2, [.int 0, .int 0, .int 0, .int 0, .int 0, .ref 14]), .inl (0, [.ref 15, .ref 16]), .inr (.inl (List.replicate 36 0)), .inr (.inl (List.replicate 6 0)), .inl (1, [.int 0, .ref 3, .ref 18, .ref 19, .ref 20, .int 0]), .inr (.inl (List.replicate 6 0)), .inr (.inl (List.replicate 48 0)), .inr (.inl (List.replicate 40 0)), .inl (3, [.ref 22, .int (-1), .int 0]), .inr (.inl (List.replicate 40 0)), .inl (3, [.ref 24, .int (-1), .int 0]), .inr (.inl (List.replicate 40 0)), .inl (3, [.ref 26, .int (-1), .int 0]), .inr (.inl (List.replicate 40 0)), .inl (3, [.ref 28, .int (-1), .int 0]), .inr (.inl (List.replicate 40 0))]) := by
  refine mc_start (own := RX6) (ini := true) rfl (by decide +kernel) (fun _ => rfl) (Nat.le_of_ble_eq_true rfl) ?_
  show mc_E _ _ _ _ _ [some (.ref 0), none] [] _ _ _
  refine e_aloadn (pc := 0) dX6_init_0 rfl ?_
  refine e_objInit (pc := 1) dX6_init_1 oX6_1 obj_inst obj_code (mc_JR_of (Nat.le_of_ble_eq_true rfl) (Nat.le_of_ble_eq_true rfl) (Nat.le_of_ble_eq_true rfl) (Nat.le_of_ble_eq_true rfl)) ?_
  refine e_aloadn (pc := 4) dX6_init_4 rfl ?_
  refine e_bipush (v := 10) (pc := 5) dX6_init_5 (by decide) ?_
  refine e_put (pc := 7) dX6_init_7 pX6_7 rfl (Nat.le_of_ble_eq_true rfl) rfl ?_
  refine e_w (w2 := [.inl (6, [.int 10, .int 0, .int 0, .null, .null, .null, .null, .int 0, .int 0, .null, .null, .null, .null, .null])]) rfl ?_
  refine e_aloadn (pc := 10) dX6_init_10 rfl ?_
  refine e_iconst (v := 1) (pc := 11) dX6_init_11 (by decide) ?_
  refine e_put (pc := 12) dX6_init_12 pX6_13 rfl (Nat.le_of_ble_eq_true rfl) rfl ?_
  refine e_w (w2 := [.inl (6, [.int 10, .int 1, .int 0, .null, .null, .null, .null, .int 0, .int 0, .null, .null, .null, .null, .null])]) rfl ?_
  refine e_aloadn (pc := 15) dX6_init_15 rfl ?_
  refine e_iconst (v := 5) (pc := 16) dX6_init_16 (by decide) ?_
  refine e_newa (N := 5) (pc := 17) dX6_init_17 arr_int (by decide) rfl (Nat.le_of_ble_eq_true rfl) (Nat.le_of_ble_eq_true rfl) (Nat.le_of_ble_eq_true rfl) (Nat.le_of_ble_eq_true rfl) ?_
  refine e_w (w2 := [.inl (6, [.int 10, .int 1, .int 0, .null, .null, .null, .null, .int 0, .int 0, .null, .null, .null, .null, .null]), .inr (.inl (List.replicate 5 0))]) rfl ?_
  refine e_putF (pc := 19) dX6_init_19 pX6_16 rfl rfl (Nat.le_of_ble_eq_true rfl) rfl ?_
  refine e_w (w2 := [.inl (6, [.int 10, .int 1, .int 0, .ref 1, .null, .null, .null, .int 0, .int 0, .null, .null, .null, .null, .null]), .inr (.inl (List.replicate 5 0))]) rfl ?_
  refine e_aloadn (pc := 22) dX6_init_22 rfl ?_
  refine e_iconst (v := 5) (pc := 23) dX6_init_23 (by decide) ?_
  refine e_newa (N := 5) (pc := 24) dX6_init_24 arr_int (by decide) rfl (Nat.le_of_ble_eq_true rfl) (Nat.le_of_ble_eq_true rfl) (Nat.le_of_ble_eq_true rfl) (Nat.le_of_ble_eq_true rfl) ?_
  refine e_w (w2 := [.inl (6, [.int 10, .int 1, .int 0, .ref 1, .null, .null, .null, .int 0, .int 0, .null, .null, .null, .null, .null]), .inr (.inl (List.replicate 5 0)), .inr (.inl (List.replicate 5 0))]) rfl ?_
  refine e_putF (pc := 26) dX6_init_26 pX6_20 rfl rfl (Nat.le_of_ble_eq_true rfl) rfl ?_
  refine e_w (w2 := [.inl (6, [.int 10, .int 1, .int 0, .ref 1, .ref 2, .null, .null, .int 0, .int 0, .null, .null, .null, .null, .null]), .inr (.inl (List.replicate 5 0)), .inr (.inl (List.replicate 5 0))]) rfl ?_
  refine e_aloadn (pc := 29) dX6_init_29 rfl ?_
  refine e_new (pc := 30) dX6_init_30 mcf5 nX6_23 insX5 iniX5 rfl (Nat.le_of_ble_eq_true rfl) (Nat.le_of_ble_eq_true rfl) (Nat.le_of_ble_eq_true rfl) ?_
  refine e_w (w2 := [.inl (6, [.int 10, .int 1, .int 0, .ref 1, .ref 2, .null, .null, .int 0, .int 0, .null, .null, .null, .null, .null]), .inr (.inl (List.replicate 5 0)), .inr (.inl (List.replicate 5 0)), .inl (5, [.null, .int 0, .int 0])]) rfl ?_
  refine e_dup (pc := 33) dX6_init_33 rfl ?_
  refine e_iconst (v := 3) (pc := 34) dX6_init_34 (by decide) ?_
  refine e_newa (N := 3) (pc := 35) dX6_init_35 arr_int (by decide) rfl (Nat.le_of_ble_eq_true rfl) (Nat.le_of_ble_eq_true rfl) (Nat.le_of_ble_eq_true rfl) (Nat.le_of_ble_eq_true rfl) ?_
  refine e_w (w2 := [.inl (6, [.int 10, .int 1, .int 0, .ref 1, .ref 2, .null, .null, .int 0, .int 0, .null, .null, .null, .null, .null]), .inr (.inl (List.replicate 5 0)), .inr (.inl (List.replicate 5 0)), .inl (5, [.null, .int 0, .int 0]), .inr (.inl (List.replicate 3 0))]) rfl ?_
  refine e_dup (pc := 37) dX6_init_37 rfl ?_
  refine e_iconst (v := 0) (pc := 38) dX6_init_38 (by decide) ?_
  refine e_iconst (v := 1) (pc := 39) dX6_init_39 (by decide) ?_
  refine e_iast (pc := 40) dX6_init_40 rfl (vi_of (by decide +kernel)) ?_
  refine e_w (w2 := [.inl (6, [.int 10, .int 1, .int 0, .ref 1, .ref 2, .null, .null, .int 0, .int 0, .null, .null, .null, .null, .null]), .inr (.inl (List.replicate 5 0)), .inr (.inl (List.replicate 5 0)), .inl (5, [.null, .int 0, .int 0]), .inr (.inl ([1, 0, 0]))]) rfl ?_
  refine e_dup (pc := 41) dX6_init_41 rfl ?_
  refine e_iconst (v := 1) (pc := 42) dX6_init_42 (by decide) ?_
  refine e_iconst (v := 3) (pc := 43) dX6_init_43 (by decide) ?_
  refine e_iast (pc := 44) dX6_init_44 rfl (vi_of (by decide +kernel)) ?_
  refine e_w (w2 := [.inl (6, [.int 10, .int 1, .int 0, .ref 1, .ref 2, .null, .null, .int 0, .int 0, .null, .null, .null, .null, .null]), .inr (.inl (List.replicate 5 0)), .inr (.inl (List.replicate 5 0)), .inl (5, [.null, .int 0, .int 0]), .inr (.inl ([1, 3, 0]))]) rfl ?_
  refine e_dup (pc := 45) dX6_init_45 rfl ?_
  refine e_iconst (v := 2) (pc := 46) dX6_init_46 (by decide) ?_
  refine e_bipush (v := (-4)) (pc := 47) dX6_init_47 (by decide) ?_
  refine e_iast (pc := 49) dX6_init_49 rfl (vi_of (by decide +kernel)) ?_
  refine e_w (w2 := [.inl (6, [.int 10, .int 1, .int 0, .ref 1, .ref 2, .null, .null, .int 0, .int 0, .null, .null, .null, .null, .null]), .inr (.inl (List.replicate 5 0)), .inr (.inl (List.replicate 5 0)), .inl (5, [.null, .int 0, .int 0]), .inr (.inl ([1, 3, -4]))]) rfl ?_
  refine e_iconst (v := 1) (pc := 50) dX6_init_50 (by decide) ?_
  refine e_iconst (v := 2) (pc := 51) dX6_init_51 (by decide) ?_
  refine e_ciD (pc := 52) ct_X5_1 dX6_init_52 kX6_25 rfl rfl (mc_CR_of (Nat.le_of_ble_eq_true rfl) (Nat.le_of_ble_eq_true rfl) (Nat.le_of_ble_eq_true rfl) (Nat.le_of_ble_eq_true rfl)) (Nat.le_of_ble_eq_true rfl) ?_
  refine e_putF (pc := 55) dX6_init_55 pX6_28 rfl rfl (Nat.le_of_ble_eq_true rfl) rfl ?_
  refine e_w (w2 := [.inl (6, [.int 10, .int 1, .int 0, .ref 1, .ref 2, .ref 3, .null, .int 0, .int 0, .null, .null, .null, .null, .null]), .inr (.inl (List.replicate 5 0)), .inr (.inl (List.replicate 5 0)), .inl (5, [.ref 4, .int 1, .int 2]), .inr (.inl ([1, 3, -4]))]) rfl ?_
  refine e_aloadn (pc := 58) dX6_init_58 rfl ?_
  refine e_bipush (v := 6) (pc := 59) dX6_init_59 (by decide) ?_
  refine e_newq (N := 6) (pc := 61) dX6_init_61 (Or.inl rfl) nX6_23 (by decide) rfl (Nat.le_of_ble_eq_true rfl) (Nat.le_of_ble_eq_true rfl) (Nat.le_of_ble_eq_true rfl) (Nat.le_of_ble_eq_true rfl) ?_
  refine e_w (w2 := [.inl (6, [.int 10, .int 1, .int 0, .ref 1, .ref 2, .ref 3, .null, .int 0, .int 0, .null, .null, .null, .null, .null]), .inr (.inl (List.replicate 5 0)), .inr (.inl (List.replicate 5 0)), .inl (5, [.ref 4, .int 1, .int 2]), .inr (.inl ([1, 3, -4])), .inr (.inr (1, [none, none, none, none, none, none]))]) rfl ?_
  refine e_putF (pc := 64) dX6_init_64 pX6_32 rfl rfl (Nat.le_of_ble_eq_true rfl) rfl ?_
  refine e_w (w2 := [.inl (6, [.int 10, .int 1, .int 0, .ref 1, .ref 2, .ref 3, .ref 5, .int 0, .int 0, .null, .null, .null, .null, .null]), .inr (.inl (List.replicate 5 0)), .inr (.inl (List.replicate 5 0)), .inl (5, [.ref 4, .int 1, .int 2]), .inr (.inl ([1, 3, -4])), .inr (.inr (1, [none, none, none, none, none, none]))]) rfl ?_
  refine e_aloadn (pc := 67) dX6_init_67 rfl ?_
  refine e_iconst (v := 1) (pc := 68) dX6_init_68 (by decide) ?_
  refine e_put (pc := 69) dX6_init_69 pX6_36 rfl (Nat.le_of_ble_eq_true rfl) rfl ?_
  refine e_w (w2 := [.inl (6, [.int 10, .int 1, .int 0, .ref 1, .ref 2, .ref 3, .ref 5, .int 1, .int 0, .null, .null, .null, .null, .null]), .inr (.inl (List.replicate 5 0)), .inr (.inl (List.replicate 5 0)), .inl (5, [.ref 4, .int 1, .int 2]), .inr (.inl ([1, 3, -4])), .inr (.inr (1, [none, none, none, none, none, none]))]) rfl ?_
  refine e_aloadn (pc := 72) dX6_init_72 rfl ?_
  refine e_new (pc := 73) dX6_init_73 mcf4 nX6_39 insX4 iniX4 rfl (Nat.le_of_ble_eq_true rfl) (Nat.le_of_ble_eq_true rfl) (Nat.le_of_ble_eq_true rfl) ?_
  refine e_w (w2 := [.inl (6, [.int 10, .int 1, .int 0, .ref 1, .ref 2, .ref 3, .ref 5, .int 1, .int 0, .null, .null, .null, .null, .null]), .inr (.inl (List.replicate 5 0)), .inr (.inl (List.replicate 5 0)), .inl (5, [.ref 4, .int 1, .int 2]), .inr (.inl ([1, 3, -4])), .inr (.inr (1, [none, none, none, none, none, none])), .inl (4, [.null, .int 0, .int 0, .int 0, .int 0, .null, .int 0, .int 0, .int 0])]) rfl ?_
  refine e_dup (pc := 76) dX6_init_76 rfl ?_
  refine e_ciD (pc := 77) ct_X4_1 dX6_init_77 kX6_41 rfl rfl (mc_CR_of (Nat.le_of_ble_eq_true rfl) (Nat.le_of_ble_eq_true rfl) (Nat.le_of_ble_eq_true rfl) (Nat.le_of_ble_eq_true rfl)) (Nat.le_of_ble_eq_true rfl) ?_
  refine e_putF (pc := 80) dX6_init_80 pX6_42 rfl rfl (Nat.le_of_ble_eq_true rfl) rfl ?_
  refine e_w (w2 := [.inl (6, [.int 10, .int 1, .int 0, .ref 1, .ref 2, .ref 3, .ref 5, .int 1, .int 0, .ref 6, .null, .null, .null, .null]), .inr (.inl (List.replicate 5 0)), .inr (.inl (List.replicate 5 0)), .inl (5, [.ref 4, .int 1, .int 2]), .inr (.inl ([1, 3, -4])), .inr (.inr (1, [none, none, none, none, none, none])), .inl (4, [.ref 7, .int 0, .int 0, .int 0, .int 0, .ref 8, .int 0, .int 0, .int 0]), .inr (.inl (List.replicate 160 0)), .inr (.inl (List.replicate 160 0))]) rfl ?_
  refine e_aloadn (pc := 83) dX6_init_83 rfl ?_
  refine e_iconst (v := 4) (pc := 84) dX6_init_84 (by decide) ?_
  refine e_newq (N := 4) (pc := 85) dX6_init_85 (Or.inr rfl) nX6_46 (by decide) rfl (Nat.le_of_ble_eq_true rfl) (Nat.le_of_ble_eq_true rfl) (Nat.le_of_ble_eq_true rfl) (Nat.le_of_ble_eq_true rfl) ?_
  refine e_w (w2 := [.inl (6, [.int 10, .int 1, .int 0, .ref 1, .ref 2, .ref 3, .ref 5, .int 1, .int 0, .ref 6, .null, .null, .null, .null]), .inr (.inl (List.replicate 5 0)), .inr (.inl (List.replicate 5 0)), .inl (5, [.ref 4, .int 1, .int 2]), .inr (.inl ([1, 3, -4])), .inr (.inr (1, [none, none, none, none, none, none])), .inl (4, [.ref 7, .int 0, .int 0, .int 0, .int 0, .ref 8, .int 0, .int 0, .int 0]), .inr (.inl (List.replicate 160 0)), .inr (.inl (List.replicate 160 0)), .inr (.inr (2, [none, none, none, none]))]) rfl ?_
  refine e_putF (pc := 88) dX6_init_88 pX6_48 rfl rfl (Nat.le_of_ble_eq_true rfl) rfl ?_
  refine e_w (w2 := [.inl (6, [.int 10, .int 1, .int 0, .ref 1, .ref 2, .ref 3, .ref 5, .int 1, .int 0, .ref 6, .ref 9, .null, .null, .null]), .inr (.inl (List.replicate 5 0)), .inr (.inl (List.replicate 5 0)), .inl (5, [.ref 4, .int 1, .int 2]), .inr (.inl ([1, 3, -4])), .inr (.inr (1, [none, none, none, none, none, none])), .inl (4, [.ref 7, .int 0, .int 0, .int 0, .int 0, .ref 8, .int 0, .int 0, .int 0]), .inr (.inl (List.replicate 160 0)), .inr (.inl (List.replicate 160 0)), .inr (.inr (2, [none, none, none, none]))]) rfl ?_
  refine e_aloadn (pc := 91) dX6_init_91 rfl ?_
  refine e_new (pc := 92) dX6_init_92 mcf0 nX6_52 insX0 iniX0 rfl (Nat.le_of_ble_eq_true rfl) (Nat.le_of_ble_eq_true rfl) (Nat.le_of_ble_eq_true rfl) ?_
  refine e_w (w2 := [.inl (6, [.int 10, .int 1, .int 0, .ref 1, .ref 2, .ref 3, .ref 5, .int 1, .int 0, .ref 6, .ref 9, .null, .null, .null]), .inr (.inl (List.replicate 5 0)), .inr (.inl (List.replicate 5 0)), .inl (5, [.ref 4, .int 1, .int 2]), .inr (.inl ([1, 3, -4])), .inr (.inr (1, [none, none, none, none, none, none])), .inl (4, [.ref 7, .int 0, .int 0, .int 0, .int 0, .ref 8, .int 0, .int 0, .int 0]), .inr (.inl (List.replicate 160 0)), .inr (.inl (List.replicate 160 0)), .inr (.inr (2, [none, none, none, none])), .inl (0, [.null, .null])]) rfl ?_
  refine e_dup (pc := 95) dX6_init_95 rfl ?_
  refine e_ciD (pc := 96) ct_X0_1 dX6_init_96 kX6_54 rfl rfl (mc_CR_of (Nat.le_of_ble_eq_true rfl) (Nat.le_of_ble_eq_true rfl) (Nat.le_of_ble_eq_true rfl) (Nat.le_of_ble_eq_true rfl)) (Nat.le_of_ble_eq_true rfl) ?_
  refine e_putF (pc := 99) dX6_init_99 pX6_55 rfl rfl (Nat.le_of_ble_eq_true rfl) rfl ?_
  refine e_w (w2 := [.inl (6, [.int 10, .int 1, .int 0, .ref 1, .ref 2, .ref 3, .ref 5, .int 1, .int 0, .ref 6, .ref 9, .ref 10, .null, .null]), .inr (.inl (List.replicate 5 0)), .inr (.inl (List.replicate 5 0)), .inl (5, [.ref 4, .int 1, .int 2]), .inr (.inl ([1, 3, -4])), .inr (.inr (1, [none, none, none, none, none, none])), .inl (4, [.ref 7, .int 0, .int 0, .int 0, .int 0, .ref 8, .int 0, .int 0, .int 0]), .inr (.inl (List.replicate 160 0)), .inr (.inl (List.replicate 160 0)), .inr (.inr (2, [none, none, none, none])), .inl (0, [.ref 11, .ref 12]), .inr (.inl (List.replicate 36 0)), .inr (.inl (List.replicate 6 0))]) rfl ?_
  refine e_aloadn (pc := 102) dX6_init_102 rfl ?_
  refine e_new (pc := 103) dX6_init_103 mcf2 nX6_59 insX2 iniX2 rfl (Nat.le_of_ble_eq_true rfl) (Nat.le_of_ble_eq_true rfl) (Nat.le_of_ble_eq_true rfl) ?_
  refine e_w (w2 := [.inl (6, [.int 10, .int 1, .int 0, .ref 1, .ref 2, .ref 3, .ref 5, .int 1, .int 0, .ref 6, .ref 9, .ref 10, .null, .null]), .inr (.inl (List.replicate 5 0)), .inr (.inl (List.replicate 5 0)), .inl (5, [.ref 4, .int 1, .int 2]), .inr (.inl ([1, 3, -4])), .inr (.inr (1, [none, none, none, none, none, none])), .inl (4, [.ref 7, .int 0, .int 0, .int 0, .int 0, .ref 8, .int 0, .int 0, .int 0]), .inr (.inl (List.replicate 160 0)), .inr (.inl (List.replicate 160 0)), .inr (.inr (2, [none, none, none, none])), .inl (0, [.ref 11, .ref 12]), .inr (.inl (List.replicate 36 0)), .inr (.inl (List.replicate 6 0)), .inl (2, [.int 0, .int 0, .int 0, .int 0, .int 0, .null])]) rfl ?_
  refine e_dup (pc := 106) dX6_init_106 rfl ?_
  refine e_ciD (pc := 107) ct_X2_1 dX6_init_107 kX6_61 rfl rfl (mc_CR_of (Nat.le_of_ble_eq_true rfl) (Nat.le_of_ble_eq_true rfl) (Nat.le_of_ble_eq_true rfl) (Nat.le_of_ble_eq_true rfl)) (Nat.le_of_ble_eq_true rfl) ?_
  refine e_putF (pc := 110) dX6_init_110 pX6_62 rfl rfl (Nat.le_of_ble_eq_true rfl) rfl ?_
  refine e_w (w2 := [.inl (6, [.int 10, .int 1, .int 0, .ref 1, .ref 2, .ref 3, .ref 5, .int 1, .int 0, .ref 6, .ref 9, .ref 10, .ref 13, .null]), .inr (.inl (List.replicate 5 0)), .inr (.inl (List.replicate 5 0)), .inl (5, [.ref 4, .int 1, .int 2]), .inr (.inl ([1, 3, -4])), .inr (.inr (1, [none, none, none, none, none, none])), .inl (4, [.ref 7, .int 0, .int 0, .int 0, .int 0, .ref 8, .int 0, .int 0, .int 0]), .inr (.inl (List.replicate 160 0)), .inr (.inl (List.replicate 160 0)), .inr (.inr (2, [none, none, none, none])), .inl (0, [.ref 11, .ref 12]), .inr (.inl (List.replicate 36 0)), .inr (.inl (List.replicate 6 0)), .inl (2, [.int 0, .int 0, .int 0, .int 0, .int 0, .ref 14]), .inl (0, [.ref 15, .ref 16]), .inr (.inl (List.replicate 36 0)), .inr (.inl (List.replicate 6 0))]) rfl ?_
  refine e_aloadn (pc := 113) dX6_init_113 rfl ?_
  refine e_new (pc := 114) dX6_init_114 mcf1 nX6_66 insX1 iniX1 rfl (Nat.le_of_ble_eq_true rfl) (Nat.le_of_ble_eq_true rfl) (Nat.le_of_ble_eq_true rfl) ?_
  refine e_w (w2 := [.inl (6, [.int 10, .int 1, .int 0, .ref 1, .ref 2, .ref 3, .ref 5, .int 1, .int 0, .ref 6, .ref 9, .ref 10, .ref 13, .null]), .inr (.inl (List.replicate 5 0)), .inr (.inl (List.replicate 5 0)), .inl (5, [.ref 4, .int 1, .int 2]), .inr (.inl ([1, 3, -4])), .inr (.inr (1, [none, none, none, none, none, none])), .inl (4, [.ref 7, .int 0, .int 0, .int 0, .int 0, .ref 8, .int 0, .int 0, .int 0]), .inr (.inl (List.replicate 160 0)), .inr (.inl (List.replicate 160 0)), .inr (.inr (2, [none, none, none, none])), .inl (0, [.ref 11, .ref 12]), .inr (.inl (List.replicate 36 0)), .inr (.inl (List.replicate 6 0)), .inl (2, [.int 0, .int 0, .int 0, .int 0, .int 0, .ref 14]), .inl (0, [.ref 15, .ref 16]), .inr (.inl (List.replicate 36 0)), .inr (.inl (List.replicate 6 0)), .inl (1, [.int 0, .null, .null, .null, .null, .int 0])]) rfl ?_
  refine e_dup (pc := 117) dX6_init_117 rfl ?_
  refine e_aloadn (pc := 118) dX6_init_118 rfl ?_
  refine e_get (pc := 119) dX6_init_119 fX6_28 rfl rfl ?_
  refine e_ciD (pc := 122) ct_X1_1 dX6_init_122 kX6_68 rfl rfl (mc_CR_of (Nat.le_of_ble_eq_true rfl) (Nat.le_of_ble_eq_true rfl) (Nat.le_of_ble_eq_true rfl) (Nat.le_of_ble_eq_true rfl)) (Nat.le_of_ble_eq_true rfl) ?_
  refine e_putF (pc := 125) dX6_init_125 pX6_71 rfl rfl (Nat.le_of_ble_eq_true rfl) rfl ?_
  refine e_w (w2 := [.inl (6, [.int 10, .int 1, .int 0, .ref 1, .ref 2, .ref 3, .ref 5, .int 1, .int 0, .ref 6, .ref 9, .ref 10, .ref 13, .ref 17]), .inr (.inl (List.replicate 5 0)), .inr (.inl (List.replicate 5 0)), .inl (5, [.ref 4, .int 1, .int 2]), .inr (.inl ([1, 3, -4])), .inr (.inr (1, [none, none, none, none, none, none])), .inl (4, [.ref 7, .int 0, .int 0, .int 0, .int 0, .ref 8, .int 0, .int 0, .int 0]), .inr (.inl (List.replicate 160 0)), .inr (.inl (List.replicate 160 0)), .inr (.inr (2, [none, none, none, none])), .inl (0, [.ref 11, .ref 12]), .inr (.inl (List.replicate 36 0)), .inr (.inl (List.replicate 6 0)), .inl (2, [.int 0, .int 0, .int 0, .int 0, .int 0, .ref 14]), .inl (0, [.ref 15, .ref 16]), .inr (.inl (List.replicate 36 0)), .inr (.inl (List.replicate 6 0)), .inl (1, [.int 0, .ref 3, .ref 18, .ref 19, .ref 20, .int 0]), .inr (.inl (List.replicate 6 0)), .inr (.inl (List.replicate 48 0)), .inr (.inl (List.replicate 40 0))]) rfl ?_
  refine e_aloadn (pc := 128) dX6_init_128 rfl ?_
  refine e_get (pc := 129) dX6_init_129 fX6_32 rfl rfl ?_
  refine e_iconst (v := 0) (pc := 132) dX6_init_132 (by decide) ?_
  refine e_aloadn (pc := 133) dX6_init_133 rfl ?_
  refine e_get (pc := 134) dX6_init_134 fX6_28 rfl rfl ?_
  refine e_aast (pc := 137) dX6_init_137 (by decide) rfl rfl (vi_of (by decide +kernel)) ?_
  refine e_w (w2 := [.inl (6, [.int 10, .int 1, .int 0, .ref 1, .ref 2, .ref 3, .ref 5, .int 1, .int 0, .ref 6, .ref 9, .ref 10, .ref 13, .ref 17]), .inr (.inl (List.replicate 5 0)), .inr (.inl (List.replicate 5 0)), .inl (5, [.ref 4, .int 1, .int 2]), .inr (.inl ([1, 3, -4])), .inr (.inr (1, [some 3, none, none, none, none, none])), .inl (4, [.ref 7, .int 0, .int 0, .int 0, .int 0, .ref 8, .int 0, .int 0, .int 0]), .inr (.inl (List.replicate 160 0)), .inr (.inl (List.replicate 160 0)), .inr (.inr (2, [none, none, none, none])), .inl (0, [.ref 11, .ref 12]), .inr (.inl (List.replicate 36 0)), .inr (.inl (List.replicate 6 0)), .inl (2, [.int 0, .int 0, .int 0, .int 0, .int 0, .ref 14]), .inl (0, [.ref 15, .ref 16]), .inr (.inl (List.replicate 36 0)), .inr (.inl (List.replicate 6 0)), .inl (1, [.int 0, .ref 3, .ref 18, .ref 19, .ref 20, .int 0]), .inr (.inl (List.replicate 6 0)), .inr (.inl (List.replicate 48 0)), .inr (.inl (List.replicate 40 0))]) rfl ?_
  refine e_iconst (v := 0) (pc := 138) dX6_init_138 (by decide) ?_
  refine e_isn1 (pc := 139) dX6_init_139 (Nat.le_of_ble_eq_true rfl) rfl ?_
  refine e_iloadn (pc := 140) dX6_init_140 rfl ?_
  refine e_aloadn (pc := 141) dX6_init_141 rfl ?_
  refine e_get (pc := 142) dX6_init_142 fX6_48 rfl rfl ?_
  refine e_alenq (pc := 145) dX6_init_145 rfl (by decide) rfl ?_
  refine e_icmp_ge (pc := 146) dX6_init_146 (t := 168) (by decide) (fun c_ => absurd c_ (by decide)) (fun _ => ?_)
  refine e_aloadn (pc := 149) dX6_init_149 rfl ?_
  refine e_get (pc := 150) dX6_init_150 fX6_48 rfl rfl ?_
  refine e_iloadn (pc := 153) dX6_init_153 rfl ?_
  refine e_new (pc := 154) dX6_init_154 mcf3 nX6_46 insX3 iniX3 rfl (Nat.le_of_ble_eq_true rfl) (Nat.le_of_ble_eq_true rfl) (Nat.le_of_ble_eq_true rfl) ?_
  refine e_w (w2 := [.inl (6, [.int 10, .int 1, .int 0, .ref 1, .ref 2, .ref 3, .ref 5, .int 1, .int 0, .ref 6, .ref 9, .ref 10, .ref 13, .ref 17]), .inr (.inl (List.replicate 5 0)), .inr (.inl (List.replicate 5 0)), .inl (5, [.ref 4, .int 1, .int 2]), .inr (.inl ([1, 3, -4])), .inr (.inr (1, [some 3, none, none, none, none, none])), .inl (4, [.ref 7, .int 0, .int 0, .int 0, .int 0, .ref 8, .int 0, .int 0, .int 0]), .inr (.inl (List.replicate 160 0)), .inr (.inl (List.replicate 160 0)), .inr (.inr (2, [none, none, none, none])), .inl (0, [.ref 11, .ref 12]), .inr (.inl (List.replicate 36 0)), .inr (.inl (List.replicate 6 0)), .inl (2, [.int 0, .int 0, .int 0, .int 0, .int 0, .ref 14]), .inl (0, [.ref 15, .ref 16]), .inr (.inl (List.replicate 36 0)), .inr (.inl (List.replicate 6 0)), .inl (1, [.int 0, .ref 3, .ref 18, .ref 19, .ref 20, .int 0]), .inr (.inl (List.replicate 6 0)), .inr (.inl (List.replicate 48 0)), .inr (.inl (List.replicate 40 0)), .inl (3, [.null, .int 0, .int 0])]) rfl ?_
  refine e_dup (pc := 157) dX6_init_157 rfl ?_
  refine e_ciD (pc := 158) ct_X3_1 dX6_init_158 kX6_75 rfl rfl (mc_CR_of (Nat.le_of_ble_eq_true rfl) (Nat.le_of_ble_eq_true rfl) (Nat.le_of_ble_eq_true rfl) (Nat.le_of_ble_eq_true rfl)) (Nat.le_of_ble_eq_true rfl) ?_
  refine e_aast (pc := 161) dX6_init_161 (by decide) rfl rfl (vi_of (by decide +kernel)) ?_
  refine e_w (w2 := [.inl (6, [.int 10, .int 1, .int 0, .ref 1, .ref 2, .ref 3, .ref 5, .int 1, .int 0, .ref 6, .ref 9, .ref 10, .ref 13, .ref 17]), .inr (.inl (List.replicate 5 0)), .inr (.inl (List.replicate 5 0)), .inl (5, [.ref 4, .int 1, .int 2]), .inr (.inl ([1, 3, -4])), .inr (.inr (1, [some 3, none, none, none, none, none])), .inl (4, [.ref 7, .int 0, .int 0, .int 0, .int 0, .ref 8, .int 0, .int 0, .int 0]), .inr (.inl (List.replicate 160 0)), .inr (.inl (List.replicate 160 0)), .inr (.inr (2, [some 21, none, none, none])), .inl (0, [.ref 11, .ref 12]), .inr (.inl (List.replicate 36 0)), .inr (.inl (List.replicate 6 0)), .inl (2, [.int 0, .int 0, .int 0, .int 0, .int 0, .ref 14]), .inl (0, [.ref 15, .ref 16]), .inr (.inl (List.replicate 36 0)), .inr (.inl (List.replicate 6 0)), .inl (1, [.int 0, .ref 3, .ref 18, .ref 19, .ref 20, .int 0]), .inr (.inl (List.replicate 6 0)), .inr (.inl (List.replicate 48 0)), .inr (.inl (List.replicate 40 0)), .inl (3, [.ref 22, .int (-1), .int 0]), .inr (.inl (List.replicate 40 0))]) rfl ?_
  refine e_incC1 (pc := 162) (v := 1) dX6_init_162 (by decide) (Nat.le_of_ble_eq_true rfl) rfl ?_
  refine e_goto (pc := 165) dX6_init_165 (t := 140) (by decide) ?_
  refine e_iloadn (pc := 140) dX6_init_140 rfl ?_
  refine e_aloadn (pc := 141) dX6_init_141 rfl ?_
  refine e_get (pc := 142) dX6_init_142 fX6_48 rfl rfl ?_
  refine e_alenq (pc := 145) dX6_init_145 rfl (by decide) rfl ?_
  refine e_icmp_ge (pc := 146) dX6_init_146 (t := 168) (by decide) (fun c_ => absurd c_ (by decide)) (fun _ => ?_)
  refine e_aloadn (pc := 149) dX6_init_149 rfl ?_
  refine e_get (pc := 150) dX6_init_150 fX6_48 rfl rfl ?_
  refine e_iloadn (pc := 153) dX6_init_153 rfl ?_
  refine e_new (pc := 154) dX6_init_154 mcf3 nX6_46 insX3 iniX3 rfl (Nat.le_of_ble_eq_true rfl) (Nat.le_of_ble_eq_true rfl) (Nat.le_of_ble_eq_true rfl) ?_
  refine e_w (w2 := [.inl (6, [.int 10, .int 1, .int 0, .ref 1, .ref 2, .ref 3, .ref 5, .int 1, .int 0, .ref 6, .ref 9, .ref 10, .ref 13, .ref 17]), .inr (.inl (List.replicate 5 0)), .inr (.inl (List.replicate 5 0)), .inl (5, [.ref 4, .int 1, .int 2]), .inr (.inl ([1, 3, -4])), .inr (.inr (1, [some 3, none, none, none, none, none])), .inl (4, [.ref 7, .int 0, .int 0, .int 0, .int 0, .ref 8, .int 0, .int 0, .int 0]), .inr (.inl (List.replicate 160 0)), .inr (.inl (List.replicate 160 0)), .inr (.inr (2, [some 21, none, none, none])), .inl (0, [.ref 11, .ref 12]), .inr (.inl (List.replicate 36 0)), .inr (.inl (List.replicate 6 0)), .inl (2, [.int 0, .int 0, .int 0, .int 0, .int 0, .ref 14]), .inl (0, [.ref 15, .ref 16]), .inr (.inl (List.replicate 36 0)), .inr (.inl (List.replicate 6 0)), .inl (1, [.int 0, .ref 3, .ref 18, .ref 19, .ref 20, .int 0]), .inr (.inl (List.replicate 6 0)), .inr (.inl (List.replicate 48 0)), .inr (.inl (List.replicate 40 0)), .inl (3, [.ref 22, .int (-1), .int 0]), .inr (.inl (List.replicate 40 0)), .inl (3, [.null, .int 0, .int 0])]) rfl ?_
  refine e_dup (pc := 157) dX6_init_157 rfl ?_
  refine e_ciD (pc := 158) ct_X3_2 dX6_init_158 kX6_75 rfl rfl (mc_CR_of (Nat.le_of_ble_eq_true rfl) (Nat.le_of_ble_eq_true rfl) (Nat.le_of_ble_eq_true rfl) (Nat.le_of_ble_eq_true rfl)) (Nat.le_of_ble_eq_true rfl) ?_
  refine e_aast (pc := 161) dX6_init_161 (by decide) rfl rfl (vi_of (by decide +kernel)) ?_
  refine e_w (w2 := [.inl (6, [.int 10, .int 1, .int 0, .ref 1, .ref 2, .ref 3, .ref 5, .int 1, .int 0, .ref 6, .ref 9, .ref 10, .ref 13, .ref 17]), .inr (.inl (List.replicate 5 0)), .inr (.inl (List.replicate 5 0)), .inl (5, [.ref 4, .int 1, .int 2]), .inr (.inl ([1, 3, -4])), .inr (.inr (1, [some 3, none, none, none, none, none])), .inl (4, [.ref 7, .int 0, .int 0, .int 0, .int 0, .ref 8, .int 0, .int 0, .int 0]), .inr (.inl (List.replicate 160 0)), .inr (.inl (List.replicate 160 0)), .inr (.inr (2, [some 21, some 23, none, none])), .inl (0, [.ref 11, .ref 12]), .inr (.inl (List.replicate 36 0)), .inr (.inl (List.replicate 6 0)), .inl (2, [.int 0, .int 0, .int 0, .int 0, .int 0, .ref 14]), .inl (0, [.ref 15, .ref 16]), .inr (.inl (List.replicate 36 0)), .inr (.inl (List.replicate 6 0)), .inl (1, [.int 0, .ref 3, .ref 18, .ref 19, .ref 20, .int 0]), .inr (.inl (List.replicate 6 0)), .inr (.inl (List.replicate 48 0)), .inr (.inl (List.replicate 40 0)), .inl (3, [.ref 22, .int (-1), .int 0]), .inr (.inl (List.replicate 40 0)), .inl (3, [.ref 24, .int (-1), .int 0]), .inr (.inl (List.replicate 40 0))]) rfl ?_
  refine e_incC1 (pc := 162) (v := 2) dX6_init_162 (by decide) (Nat.le_of_ble_eq_true rfl) rfl ?_
  refine e_goto (pc := 165) dX6_init_165 (t := 140) (by decide) ?_
  refine e_iloadn (pc := 140) dX6_init_140 rfl ?_
  refine e_aloadn (pc := 141) dX6_init_141 rfl ?_
  refine e_get (pc := 142) dX6_init_142 fX6_48 rfl rfl ?_
  refine e_alenq (pc := 145) dX6_init_145 rfl (by decide) rfl ?_
  refine e_icmp_ge (pc := 146) dX6_init_146 (t := 168) (by decide) (fun c_ => absurd c_ (by decide)) (fun _ => ?_)
  refine e_aloadn (pc := 149) dX6_init_149 rfl ?_
  refine e_get (pc := 150) dX6_init_150 fX6_48 rfl rfl ?_
  refine e_iloadn (pc := 153) dX6_init_153 rfl ?_
  refine e_new (pc := 154) dX6_init_154 mcf3 nX6_46 insX3 iniX3 rfl (Nat.le_of_ble_eq_true rfl) (Nat.le_of_ble_eq_true rfl) (Nat.le_of_ble_eq_true rfl) ?_
  refine e_w (w2 := [.inl (6, [.int 10, .int 1, .int 0, .ref 1, .ref 2, .ref 3, .ref 5, .int 1, .int 0, .ref 6, .ref 9, .ref 10, .ref 13, .ref 17]), .inr (.inl (List.replicate 5 0)), .inr (.inl (List.replicate 5 0)), .inl (5, [.ref 4, .int 1, .int 2]), .inr (.inl ([1, 3, -4])), .inr (.inr (1, [some 3, none, none, none, none, none])), .inl (4, [.ref 7, .int 0, .int 0, .int 0, .int 0, .ref 8, .int 0, .int 0, .int 0]), .inr (.inl (List.replicate 160 0)), .inr (.inl (List.replicate 160 0)), .inr (.inr (2, [some 21, some 23, none, none])), .inl (0, [.ref 11, .ref 12]), .inr (.inl (List.replicate 36 0)), .inr (.inl (List.replicate 6 0)), .inl (2, [.int 0, .int 0, .int 0, .int 0, .int 0, .ref 14]), .inl (0, [.ref 15, .ref 16]), .inr (.inl (List.replicate 36 0)), .inr (.inl (List.replicate 6 0)), .inl (1, [.int 0, .ref 3, .ref 18, .ref 19, .ref 20, .int 0]), .inr (.inl (List.replicate 6 0)), .inr (.inl (List.replicate 48 0)), .inr (.inl (List.replicate 40 0)), .inl (3, [.ref 22, .int (-1), .int 0]), .inr (.inl (List.replicate 40 0)), .inl (3, [.ref 24, .int (-1), .int 0]), .inr (.inl (List.replicate 40 0)), .inl (3, [.null, .int 0, .int 0])]) rfl ?_
  refine e_dup (pc := 157) dX6_init_157 rfl ?_
  refine e_ciD (pc := 158) ct_X3_3 dX6_init_158 kX6_75 rfl rfl (mc_CR_of (Nat.le_of_ble_eq_true rfl) (Nat.le_of_ble_eq_true rfl) (Nat.le_of_ble_eq_true rfl) (Nat.le_of_ble_eq_true rfl)) (Nat.le_of_ble_eq_true rfl) ?_
  refine e_aast (pc := 161) dX6_init_161 (by decide) rfl rfl (vi_of (by decide +kernel)) ?_
  refine e_w (w2 := [.inl (6, [.int 10, .int 1, .int 0, .ref 1, .ref 2, .ref 3, .ref 5, .int 1, .int 0, .ref 6, .ref 9, .ref 10, .ref 13, .ref 17]), .inr (.inl (List.replicate 5 0)), .inr (.inl (List.replicate 5 0)), .inl (5, [.ref 4, .int 1, .int 2]), .inr (.inl ([1, 3, -4])), .inr (.inr (1, [some 3, none, none, none, none, none])), .inl (4, [.ref 7, .int 0, .int 0, .int 0, .int 0, .ref 8, .int 0, .int 0, .int 0]), .inr (.inl (List.replicate 160 0)), .inr (.inl (List.replicate 160 0)), .inr (.inr (2, [some 21, some 23, some 25, none])), .inl (0, [.ref 11, .ref 12]), .inr (.inl (List.replicate 36 0)), .inr (.inl (List.replicate 6 0)), .inl (2, [.int 0, .int 0, .int 0, .int 0, .int 0, .ref 14]), .inl (0, [.ref 15, .ref 16]), .inr (.inl (List.replicate 36 0)), .inr (.inl (List.replicate 6 0)), .inl (1, [.int 0, .ref 3, .ref 18, .ref 19, .ref 20, .int 0]), .inr (.inl (List.replicate 6 0)), .inr (.inl (List.replicate 48 0)), .inr (.inl (List.replicate 40 0)), .inl (3, [.ref 22, .int (-1), .int 0]), .inr (.inl (List.replicate 40 0)), .inl (3, [.ref 24, .int (-1), .int 0]), .inr (.inl (List.replicate 40 0)), .inl (3, [.ref 26, .int (-1), .int 0]), .inr (.inl (List.replicate 40 0))]) rfl ?_
  refine e_incC1 (pc := 162) (v := 3) dX6_init_162 (by decide) (Nat.le_of_ble_eq_true rfl) rfl ?_
  refine e_goto (pc := 165) dX6_init_165 (t := 140) (by decide) ?_
  refine e_iloadn (pc := 140) dX6_init_140 rfl ?_
  refine e_aloadn (pc := 141) dX6_init_141 rfl ?_
  refine e_get (pc := 142) dX6_init_142 fX6_48 rfl rfl ?_
  refine e_alenq (pc := 145) dX6_init_145 rfl (by decide) rfl ?_
  refine e_icmp_ge (pc := 146) dX6_init_146 (t := 168) (by decide) (fun c_ => absurd c_ (by decide)) (fun _ => ?_)
  refine e_aloadn (pc := 149) dX6_init_149 rfl ?_
  refine e_get (pc := 150) dX6_init_150 fX6_48 rfl rfl ?_
  refine e_iloadn (pc := 153) dX6_init_153 rfl ?_
  refine e_new (pc := 154) dX6_init_154 mcf3 nX6_46 insX3 iniX3 rfl (Nat.le_of_ble_eq_true rfl) (Nat.le_of_ble_eq_true rfl) (Nat.le_of_ble_eq_true rfl) ?_
  refine e_w (w2 := [.inl (6, [.int 10, .int 1, .int 0, .ref 1, .ref 2, .ref 3, .ref 5, .int 1, .int 0, .ref 6, .ref 9, .ref 10, .ref 13, .ref 17]), .inr (.inl (List.replicate 5 0)), .inr (.inl (List.replicate 5 0)), .inl (5, [.ref 4, .int 1, .int 2]), .inr (.inl ([1, 3, -4])), .inr (.inr (1, [some 3, none, none, none, none, none])), .inl (4, [.ref 7, .int 0, .int 0, .int 0, .int 0, .ref 8, .int 0, .int 0, .int 0]), .inr (.inl (List.replicate 160 0)), .inr (.inl (List.replicate 160 0)), .inr (.inr (2, [some 21, some 23, some 25, none])), .inl (0, [.ref 11, .ref 12]), .inr (.inl (List.replicate 36 0)), .inr (.inl (List.replicate 6 0)), .inl (2, [.int 0, .int 0, .int 0, .int 0, .int 0, .ref 14]), .inl (0, [.ref 15, .ref 16]), .inr (.inl (List.replicate 36 0)), .inr (.inl (List.replicate 6 0)), .inl (1, [.int 0, .ref 3, .ref 18, .ref 19, .ref 20, .int 0]), .inr (.inl (List.replicate 6 0)), .inr (.inl (List.replicate 48 0)), .inr (.inl (List.replicate 40 0)), .inl (3, [.ref 22, .int (-1), .int 0]), .inr (.inl (List.replicate 40 0)), .inl (3, [.ref 24, .int (-1), .int 0]), .inr (.inl (List.replicate 40 0)), .inl (3, [.ref 26, .int (-1), .int 0]), .inr (.inl (List.replicate 40 0)), .inl (3, [.null, .int 0, .int 0])]) rfl ?_
  refine e_dup (pc := 157) dX6_init_157 rfl ?_
  refine e_ciD (pc := 158) ct_X3_4 dX6_init_158 kX6_75 rfl rfl (mc_CR_of (Nat.le_of_ble_eq_true rfl) (Nat.le_of_ble_eq_true rfl) (Nat.le_of_ble_eq_true rfl) (Nat.le_of_ble_eq_true rfl)) (Nat.le_of_ble_eq_true rfl) ?_
  refine e_aast (pc := 161) dX6_init_161 (by decide) rfl rfl (vi_of (by decide +kernel)) ?_
  refine e_w (w2 := [.inl (6, [.int 10, .int 1, .int 0, .ref 1, .ref 2, .ref 3, .ref 5, .int 1, .int 0, .ref 6, .ref 9, .ref 10, .ref 13, .ref 17]), .inr (.inl (List.replicate 5 0)), .inr (.inl (List.replicate 5 0)), .inl (5, [.ref 4, .int 1, .int 2]), .inr (.inl ([1, 3, -4])), .inr (.inr (1, [some 3, none, none, none, none, none])), .inl (4, [.ref 7, .int 0, .int 0, .int 0, .int 0, .ref 8, .int 0, .int 0, .int 0]), .inr (.inl (List.replicate 160 0)), .inr (.inl (List.replicate 160 0)), .inr (.inr (2, [some 21, some 23, some 25, some 27])), .inl (0, [.ref 11, .ref 12]), .inr (.inl (List.replicate 36 0)), .inr (.inl (List.replicate 6 0)), .inl (2, [.int 0, .int 0, .int 0, .int 0, .int 0, .ref 14]), .inl (0, [.ref 15, .ref 16]), .inr (.inl (List.replicate 36 0)), .inr (.inl (List.replicate 6 0)), .inl (1, [.int 0, .ref 3, .ref 18, .ref 19, .ref 20, .int 0]), .inr (.inl (List.replicate 6 0)), .inr (.inl (List.replicate 48 0)), .inr (.inl (List.replicate 40 0)), .inl (3, [.ref 22, .int (-1), .int 0]), .inr (.inl (List.replicate 40 0)), .inl (3, [.ref 24, .int (-1), .int 0]), .inr (.inl (List.replicate 40 0)), .inl (3, [.ref 26, .int (-1), .int 0]), .inr (.inl (List.replicate 40 0)), .inl (3, [.ref 28, .int (-1), .int 0]), .inr (.inl (List.replicate 40 0))]) rfl ?_
  refine e_incC1 (pc := 162) (v := 4) dX6_init_162 (by decide) (Nat.le_of_ble_eq_true rfl) rfl ?_
  refine e_goto (pc := 165) dX6_init_165 (t := 140) (by decide) ?_
  refine e_iloadn (pc := 140) dX6_init_140 rfl ?_
  refine e_aloadn (pc := 141) dX6_init_141 rfl ?_
  refine e_get (pc := 142) dX6_init_142 fX6_48 rfl rfl ?_
  refine e_alenq (pc := 145) dX6_init_145 rfl (by decide) rfl ?_
  refine e_icmp_ge (pc := 146) dX6_init_146 (t := 168) (by decide) (fun _ => ?_) (fun c_ => absurd (by decide) c_)
  exact e_vret (pc := 168) dX6_init_168 rfl (Nat.le_refl _) (Nat.le_refl _) ⟨rfl, rfl⟩
end Zj_51_ct0
