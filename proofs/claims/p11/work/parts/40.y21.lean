/-! clerks out of a sheet -/
theorem ckb_8 {m : Nat → Int32} {b : Nat → List Int32} {k mo : Int32} : (yy_ckb m b k mo) 7 = b 7 ∧ (yy_ckb m b k mo) 8 = b 8 ∧ (yy_ckb m b k mo) 9 = b 9 := by
  unfold yy_ckb
  split <;> exact ⟨rfl, rfl, rfl⟩
theorem yL_ck {m : Nat → Int32} {b : Nat → List Int32} {k mo : Int32} (h : yL b) : yL (yy_ckb m b k mo) := by
  unfold yy_ckb
  split
  · exact ⟨by show ((b 0).set _ _).length = 5; rw [List.length_set]; exact h.1, by show ((b 1).set _ _).length = 5; rw [List.length_set]; exact h.2.1, h.2.2.1, h.2.2.2.1, h.2.2.2.2.1, h.2.2.2.2.2.1, h.2.2.2.2.2.2.1, h.2.2.2.2.2.2.2.1, h.2.2.2.2.2.2.2.2.1, h.2.2.2.2.2.2.2.2.2⟩
  · exact h
theorem yC_ck {m : Nat → Int32} {k mo : Int32} (h : yC m) : yC (yy_ckm m k mo) := by
  unfold yy_ckm
  split
  · rename_i g
    have h5 : ¬ (m 2).toInt = 5 := fun q => g.2 (Int32.toInt_inj.mp q)
    have h1 : (1 : Int32).toInt = 1 := rfl
    obtain ⟨ha, hb⟩ := h
    show 0 ≤ (m 2 + 1).toInt ∧ (m 2 + 1).toInt ≤ 5
    rw [pk_addT (by omega) (by omega)]
    omega
  · exact h
theorem ySh_ck {m : Nat → Int32} {b : Nat → List Int32} {k mo : Int32} (h : ySh b) : ySh (yy_ckb m b k mo) := by
  unfold ySh
  rw [ckb_8.1, ckb_8.2.1]
  exact h
def ycw (b : Nat → List Int32) (s fr : Int32) (k : Nat) : Prop := fr < 0 ∨ fr + 2 * nI k < fr ∨ gt (b 8) s - 2 < fr + 2 * nI k
def ycb (s fr : Int32) : Nat → Nat → Int32 → (Nat → Int32) → (Nat → List Int32) → Int32 × (Nat → Int32) × (Nat → List Int32)
  | 0, _, S, m, b => (S, m, b)
  | g + 1, k, S, m, b => if fr < 0 ∨ fr + 2 * nI k < fr ∨ gt (b 8) s - 2 < fr + 2 * nI k then (-12, m, b)
      else ycb s fr g (k + 1) (S + (if yy_ck1 m (gt (b 9) (40 * s + (fr + 2 * nI k))) (gt (b 9) (40 * s + (fr + 2 * nI k) + 1)) < 0 then 0 else 1))
        (yy_ckm m (gt (b 9) (40 * s + (fr + 2 * nI k))) (gt (b 9) (40 * s + (fr + 2 * nI k) + 1))) (yy_ckb m b (gt (b 9) (40 * s + (fr + 2 * nI k))) (gt (b 9) (40 * s + (fr + 2 * nI k) + 1)))
def ycby (m : Nat → Int32) (b : Nat → List Int32) (s so fr k : Int32) : Int32 × (Nat → Int32) × (Nat → List Int32) :=
  if (mc_wi s 0 3 && mc_wi so 0 2 && mc_wi k 0 5) = false then (-2, m, b) else if gt (b 7) s = -1 then (-11, m, b) else if ¬ gt (b 7) s = so then (-13, m, b)
  else ycb s fr k.toNatClampNeg 0 0 m b
theorem cw_in {b : Nat → List Int32} (hL : yL b) (hS : ySh b) {s fr : Int32} (h : mc_wi s 0 3 = true) {k : Nat} (h1 : ¬ fr < 0) (h2 : ¬ fr + 2 * nI k < fr) (h3 : ¬ gt (b 8) s - 2 < fr + 2 * nI k) : vp_in (40 * s + (fr + 2 * nI k)) (b 9).length ∧ vp_in (40 * s + (fr + 2 * nI k) + 1) (b 9).length := by
  obtain ⟨σ, sz, h4, rfl, hz, e⟩ := sh_size hS h
  generalize fr + 2 * nI k = t at h2 h3
  have z0 : (0 : Int32).toInt = 0 := rfl
  have z2 : (2 : Int32).toInt = 2 := rfl
  have ts := nI_toInt (n := sz) (by omega)
  rw [e, Int32.lt_iff_toInt_lt, pk_subT (by omega) (by omega), ts, z2] at h3
  rw [Int32.lt_iff_toInt_lt] at h2
  rw [Int32.lt_iff_toInt_lt, z0] at h1
  have et := nI_back (x := t) (by omega)
  have tt := tnc (x := t) (by omega)
  rw [et]
  generalize t.toNatClampNeg = T at et tt
  have ea : 40 * nI σ + nI T = nI (40 * σ + T) := by rw [show (40 : Int32) * nI σ = nI (40 * σ) from pk_mul 40 σ, nI_add]
  rw [ea, nI_1, hL.2.2.2.2.2.2.2.2.2]
  exact ⟨vp_in_nI (by omega) (by decide), vp_in_nI (by omega) (by decide)⟩
theorem lp_y_cb {s u n : Nat → Int32} {a c d : Nat → List Int32} {q : List (Option Nat)} {h : Nat} {z : mc_W} {s0 so fr : Int32} {N : Nat} {V : Int32 × (Nat → Int32) × (Nat → List Int32)} (hs : mc_wi s0 0 3 = true) (hN : N ≤ 5) :
    ∀ (g k : Nat) (S : Int32) (m : Nat → Int32) (b : Nat → List Int32) (x7 x8 : Option Value), k + g = N → yL b → yC m → ySh b → ycb s0 fr g k S m b = V →
      mc_E RX7 cX7_clerksBy 9 (mc_JM (some .int) false 3 0 0 (fun r' w' => r' = some (.int V.1) ∧ w' = WW s a q u c h V.2.1 V.2.2 n d z)) 63 [some (.ref 29), some (.int s0), some (.int so), some (.int fr), some (.int (nI N)), some (.int S), some (.int (nI k)), x7, x8] [] (WW s a q u c h m b n d z) 0 0 := by
  intro g
  induction g with
  | zero =>
    intro k S m b x7 x8 hk hL hC hS hV
    have e : k = N := by omega
    subst e
    have hV : (S, m, b) = V := hV
    subst hV
    refine e_iload (pc := 63) dX7_clerksBy_63 rfl ?_
    refine e_iload (pc := 65) dX7_clerksBy_65 rfl ?_
    refine e_icmp_ge (pc := 67) dX7_clerksBy_67 (t := 152) (by decide) (fun _ => ?_) (fun c_67 => absurd (Int32.le_refl _) c_67)
    refine e_iload (pc := 152) dX7_clerksBy_152 rfl ?_
    exact e_iret (pc := 154) dX7_clerksBy_154 rfl (Nat.le_refl _) (Nat.le_refl _) ⟨rfl, rfl⟩
  | succ g ih =>
    intro k S m b x7 x8 hk hL hC hS hV
    simp only [ycb] at hV
    have h8 : vp_in s0 (b 8).length := sh8 hL hs
    refine e_iload (pc := 63) dX7_clerksBy_63 rfl ?_
    refine e_iload (pc := 65) dX7_clerksBy_65 rfl ?_
    refine e_icmp_ge (pc := 67) dX7_clerksBy_67 (t := 152) (by decide) (fun c_67 => absurd c_67 (nI_ge (by omega : k < N) (by omega))) (fun _ => ?_)
    refine e_iloadn (pc := 70) dX7_clerksBy_70 rfl ?_
    refine e_iconst (v := 2) (pc := 71) dX7_clerksBy_71 (by decide) ?_
    refine e_iload (pc := 72) dX7_clerksBy_72 rfl ?_
    refine e_imul (pc := 74) dX7_clerksBy_74 ?_
    refine e_iadd (pc := 75) dX7_clerksBy_75 ?_
    refine e_isw7 (pc := 76) dX7_clerksBy_76 (Nat.le_of_ble_eq_true rfl) rfl ?_
    refine e_iloadn (pc := 78) dX7_clerksBy_78 rfl ?_
    refine e_if_lt (pc := 79) dX7_clerksBy_79 (t := 101) (by decide) (fun c_79 => ?_) (fun c_79 => ?_)
    · skip
      refine e_bipush (v := -12) (pc := 101) dX7_clerksBy_101 (by decide) ?_
      exact e_iret (pc := 103) dX7_clerksBy_103 rfl (Nat.le_refl _) (Nat.le_refl _) (by rw [if_pos (c := fr < 0 ∨ fr + 2 * nI k < fr ∨ gt (b 8) s0 - 2 < fr + 2 * nI k) (Or.inl c_79)] at hV; subst hV; exact ⟨rfl, rfl⟩)
    · skip
      refine e_iload (pc := 82) dX7_clerksBy_82 rfl ?_
      refine e_iloadn (pc := 84) dX7_clerksBy_84 rfl ?_
      refine e_icmp_lt (pc := 85) dX7_clerksBy_85 (t := 101) (by decide) (fun c_85 => ?_) (fun c_85 => ?_)
      · skip
        refine e_bipush (v := -12) (pc := 101) dX7_clerksBy_101 (by decide) ?_
        exact e_iret (pc := 103) dX7_clerksBy_103 rfl (Nat.le_refl _) (Nat.le_refl _) (by rw [if_pos (c := fr < 0 ∨ fr + 2 * nI k < fr ∨ gt (b 8) s0 - 2 < fr + 2 * nI k) (Or.inr (Or.inl c_85))] at hV; subst hV; exact ⟨rfl, rfl⟩)
      · skip
        refine e_iload (pc := 88) dX7_clerksBy_88 rfl ?_
        refine e_aloadn (pc := 90) dX7_clerksBy_90 rfl ?_
        refine e_get (pc := 91) dX7_clerksBy_91 fX7_41 rfl rfl ?_
        refine e_iloadn (pc := 94) dX7_clerksBy_94 rfl ?_
        refine ald_sheetSize (pc := 95) dX7_clerksBy_95 h8 ?_
        refine e_iconst (v := 2) (pc := 96) dX7_clerksBy_96 (by decide) ?_
        refine e_isub (pc := 97) dX7_clerksBy_97 ?_
        refine e_icmp_le (pc := 98) dX7_clerksBy_98 (t := 104) (by decide) (fun c_98 => ?_) (fun c_98 => ?_)
        · skip
          refine e_bipush (v := 40) (pc := 104) dX7_clerksBy_104 (by decide) ?_
          refine e_iloadn (pc := 106) dX7_clerksBy_106 rfl ?_
          refine e_imul (pc := 107) dX7_clerksBy_107 ?_
          refine e_iload (pc := 108) dX7_clerksBy_108 rfl ?_
          refine e_iadd (pc := 110) dX7_clerksBy_110 ?_
          refine e_isw8 (pc := 111) dX7_clerksBy_111 (Nat.le_of_ble_eq_true rfl) rfl ?_
          refine e_iload (pc := 113) dX7_clerksBy_113 rfl ?_
          refine e_aloadn (pc := 115) dX7_clerksBy_115 rfl ?_
          refine e_aloadn (pc := 116) dX7_clerksBy_116 rfl ?_
          refine e_get (pc := 117) dX7_clerksBy_117 fX7_44 rfl rfl ?_
          refine e_iload (pc := 120) dX7_clerksBy_120 rfl ?_
          refine ald_ycells (pc := 122) dX7_clerksBy_122 (cw_in hL hS hs c_79 c_85 (Int32.not_lt.mpr c_98)).1 ?_
          refine e_aloadn (pc := 123) dX7_clerksBy_123 rfl ?_
          refine e_get (pc := 124) dX7_clerksBy_124 fX7_44 rfl rfl ?_
          refine e_iload (pc := 127) dX7_clerksBy_127 rfl ?_
          refine e_iconst (v := 1) (pc := 129) dX7_clerksBy_129 (by decide) ?_
          refine e_iadd (pc := 130) dX7_clerksBy_130 ?_
          refine ald_ycells (pc := 131) dX7_clerksBy_131 (cw_in hL hS hs c_79 c_85 (Int32.not_lt.mpr c_98)).2 ?_
          refine e_cvD (pc := 132) (sp_y_clerk hL hC) dX7_clerksBy_132 kX7_308 rfl rfl rfl rfl rfl (mc_CR_of (Nat.le_of_ble_eq_true rfl) (Nat.le_of_ble_eq_true rfl) (Nat.le_refl _) (Nat.le_refl _)) (Nat.le_of_ble_eq_true rfl) ?_
          refine e_if_lt (pc := 135) dX7_clerksBy_135 (t := 142) (by decide) (fun c_135 => ?_) (fun c_135 => ?_)
          · skip
            refine e_iconst (v := 0) (pc := 142) dX7_clerksBy_142 (by decide) ?_
            refine e_iadd (pc := 143) dX7_clerksBy_143 ?_
            refine e_isw5 (pc := 144) dX7_clerksBy_144 (Nat.le_of_ble_eq_true rfl) rfl ?_
            refine e_incC6 (pc := 146) dX7_clerksBy_146 (nI_1 k) (Nat.le_of_ble_eq_true rfl) rfl ?_
            refine e_goto (pc := 149) dX7_clerksBy_149 (t := 63) (by decide) ?_
            rw [if_neg (c := fr < 0 ∨ fr + 2 * nI k < fr ∨ gt (b 8) s0 - 2 < fr + 2 * nI k) (fun q => q.elim c_79 (fun q => q.elim c_85 (Int32.not_lt.mpr c_98))), if_pos (c := yy_ck1 m (gt (b 9) (40 * s0 + (fr + 2 * nI k))) (gt (b 9) (40 * s0 + (fr + 2 * nI k) + 1)) < 0) c_135] at hV
            exact ih (k + 1) _ _ _ _ _ (by omega) (yL_ck hL) (yC_ck hC) (ySh_ck hS) hV
          · skip
            refine e_iconst (v := 1) (pc := 138) dX7_clerksBy_138 (by decide) ?_
            refine e_goto (pc := 139) dX7_clerksBy_139 (t := 143) (by decide) ?_
            refine e_iadd (pc := 143) dX7_clerksBy_143 ?_
            refine e_isw5 (pc := 144) dX7_clerksBy_144 (Nat.le_of_ble_eq_true rfl) rfl ?_
            refine e_incC6 (pc := 146) dX7_clerksBy_146 (nI_1 k) (Nat.le_of_ble_eq_true rfl) rfl ?_
            refine e_goto (pc := 149) dX7_clerksBy_149 (t := 63) (by decide) ?_
            rw [if_neg (c := fr < 0 ∨ fr + 2 * nI k < fr ∨ gt (b 8) s0 - 2 < fr + 2 * nI k) (fun q => q.elim c_79 (fun q => q.elim c_85 (Int32.not_lt.mpr c_98))), if_neg (c := yy_ck1 m (gt (b 9) (40 * s0 + (fr + 2 * nI k))) (gt (b 9) (40 * s0 + (fr + 2 * nI k) + 1)) < 0) c_135] at hV
            exact ih (k + 1) _ _ _ _ _ (by omega) (yL_ck hL) (yC_ck hC) (ySh_ck hS) hV
        · skip
          refine e_bipush (v := -12) (pc := 101) dX7_clerksBy_101 (by decide) ?_
          exact e_iret (pc := 103) dX7_clerksBy_103 rfl (Nat.le_refl _) (Nat.le_refl _) (by rw [if_pos (c := fr < 0 ∨ fr + 2 * nI k < fr ∨ gt (b 8) s0 - 2 < fr + 2 * nI k) (Or.inr (Or.inr (Int32.not_le.mp c_98)))] at hV; subst hV; exact ⟨rfl, rfl⟩)
theorem sp_y_clerksBy {s u m n : Nat → Int32} {a c b d : Nat → List Int32} {q : List (Option Nat)} {h : Nat} {z : mc_W} {s0 so fr k : Int32} (hL : yL b) (hC : yC m) (hS : ySh b) : mc_D yX7_clerksBy cX7_clerksBy 9 (some .int) 3 [.ref 29, .int s0, .int so, .int fr, .int k] (WW s a q u c h m b n d z) (some (.int (ycby m b s0 so fr k).1)) (WW s a q u c h (ycby m b s0 so fr k).2.1 (ycby m b s0 so fr k).2.2 n d z) := by
  refine mc_start (own := RX7) (ini := false) rfl (by decide +kernel) (fun h => by cases h) (Nat.le_of_ble_eq_true rfl) ?_
  show mc_E _ _ _ _ _ [some (.ref 29), some (.int s0), some (.int so), some (.int fr), some (.int k), none, none, none, none] [] _ _ _
  refine e_iloadn (pc := 0) dX7_clerksBy_0 rfl ?_
  refine e_iconst (v := 0) (pc := 1) dX7_clerksBy_1 (by decide) ?_
  refine e_iconst (v := 3) (pc := 2) dX7_clerksBy_2 (by decide) ?_
  refine e_csD (pc := 3) (sp_y_in) dX7_clerksBy_3 kX7_75 rfl rfl (mc_CR_of (Nat.le_of_ble_eq_true rfl) (Nat.le_of_ble_eq_true rfl) (Nat.le_refl _) (Nat.le_refl _)) (Nat.le_of_ble_eq_true rfl) ?_
  refine e_if_eq (pc := 6) dX7_clerksBy_6 (t := 28) (by decide) (fun c_6 => ?_) (fun c_6 => ?_)
  · skip
    refine e_bipush (v := -2) (pc := 28) dX7_clerksBy_28 (by decide) ?_
    exact e_iret (pc := 30) dX7_clerksBy_30 rfl (Nat.le_refl _) (Nat.le_refl _) (have e0 : ycby m b s0 so fr k = (-2, m, b) := (by unfold ycby; rw [if_pos (by rw [mc_b0.mp c_6]; simp)]); by rw [e0]; exact ⟨rfl, rfl⟩)
  · skip
    refine e_iloadn (pc := 9) dX7_clerksBy_9 rfl ?_
    refine e_iconst (v := 0) (pc := 10) dX7_clerksBy_10 (by decide) ?_
    refine e_iconst (v := 2) (pc := 11) dX7_clerksBy_11 (by decide) ?_
    refine e_csD (pc := 12) (sp_y_in) dX7_clerksBy_12 kX7_75 rfl rfl (mc_CR_of (Nat.le_of_ble_eq_true rfl) (Nat.le_of_ble_eq_true rfl) (Nat.le_refl _) (Nat.le_refl _)) (Nat.le_of_ble_eq_true rfl) ?_
    refine e_if_eq (pc := 15) dX7_clerksBy_15 (t := 28) (by decide) (fun c_15 => ?_) (fun c_15 => ?_)
    · skip
      refine e_bipush (v := -2) (pc := 28) dX7_clerksBy_28 (by decide) ?_
      exact e_iret (pc := 30) dX7_clerksBy_30 rfl (Nat.le_refl _) (Nat.le_refl _) (have e0 : ycby m b s0 so fr k = (-2, m, b) := (by unfold ycby; rw [if_pos (by rw [mc_b0.mp c_15]; simp)]); by rw [e0]; exact ⟨rfl, rfl⟩)
    · skip
      refine e_iload (pc := 18) dX7_clerksBy_18 rfl ?_
      refine e_iconst (v := 0) (pc := 20) dX7_clerksBy_20 (by decide) ?_
      refine e_iconst (v := 5) (pc := 21) dX7_clerksBy_21 (by decide) ?_
      refine e_csD (pc := 22) (sp_y_in) dX7_clerksBy_22 kX7_75 rfl rfl (mc_CR_of (Nat.le_of_ble_eq_true rfl) (Nat.le_of_ble_eq_true rfl) (Nat.le_refl _) (Nat.le_refl _)) (Nat.le_of_ble_eq_true rfl) ?_
      refine e_if_ne (pc := 25) dX7_clerksBy_25 (t := 31) (by decide) (fun c_25 => ?_) (fun c_25 => ?_)
      · skip
        refine e_aloadn (pc := 31) dX7_clerksBy_31 rfl ?_
        have q6 : mc_wi s0 0 3 = true := by simpa [mc_b0] using c_6
        have q15 : mc_wi so 0 2 = true := by simpa [mc_b0] using c_15
        refine e_get (pc := 32) dX7_clerksBy_32 fX7_38 rfl rfl ?_
        refine e_iloadn (pc := 35) dX7_clerksBy_35 rfl ?_
        refine ald_sheetSort (pc := 36) dX7_clerksBy_36 (sh7 hL q6) ?_
        refine e_iconst (v := -1) (pc := 37) dX7_clerksBy_37 (by decide) ?_
        refine e_icmp_ne (pc := 38) dX7_clerksBy_38 (t := 44) (by decide) (fun c_38 => ?_) (fun c_38 => ?_)
        · skip
          refine e_aloadn (pc := 44) dX7_clerksBy_44 rfl ?_
          refine e_get (pc := 45) dX7_clerksBy_45 fX7_38 rfl rfl ?_
          refine e_iloadn (pc := 48) dX7_clerksBy_48 rfl ?_
          refine ald_sheetSort (pc := 49) dX7_clerksBy_49 (sh7 hL q6) ?_
          refine e_iloadn (pc := 50) dX7_clerksBy_50 rfl ?_
          refine e_icmp_eq (pc := 51) dX7_clerksBy_51 (t := 57) (by decide) (fun c_51 => ?_) (fun c_51 => ?_)
          · skip
            refine e_iconst (v := 0) (pc := 57) dX7_clerksBy_57 (by decide) ?_
            refine e_isw5 (pc := 58) dX7_clerksBy_58 (Nat.le_of_ble_eq_true rfl) rfl ?_
            refine e_iconst (v := 0) (pc := 60) dX7_clerksBy_60 (by decide) ?_
            refine e_isw6 (pc := 61) dX7_clerksBy_61 (Nat.le_of_ble_eq_true rfl) rfl ?_
            have z0 : (0 : Int32).toInt = 0 := rfl
            have z5 : (5 : Int32).toInt = 5 := rfl
            have hk := mc_wi_iff.mp (mc_b1.mp c_25)
            rw [z0, z5] at hk
            obtain ⟨N, hN, rfl⟩ : ∃ N : Nat, (N : Int) = k.toInt ∧ k = nI N := ⟨_, tnc hk.1, nI_back hk.1⟩
            rw [← hN] at hk
            exact lp_y_cb (s := s) (a := a) (q := q) (u := u) (c := c) (h := h) (z := z) (n := n) (d := d) (so := so) (fr := fr) (N := N) q6 (by omega) N 0 0 m b none none (by omega) hL hC hS (by unfold ycby; rw [if_neg (by simp [q6, q15, mc_b1.mp c_25]), if_neg (c := gt (b 7) s0 = -1) c_38, if_neg (c := ¬ gt (b 7) s0 = so) (fun q => q c_51), nIc (by omega)])
          · skip
            refine e_bipush (v := -13) (pc := 54) dX7_clerksBy_54 (by decide) ?_
            exact e_iret (pc := 56) dX7_clerksBy_56 rfl (Nat.le_refl _) (Nat.le_refl _) (have e0 : ycby m b s0 so fr k = (-13, m, b) := (by unfold ycby; rw [if_neg (by simp [q6, q15, mc_b1.mp c_25]), if_neg (c := gt (b 7) s0 = -1) c_38, if_pos (c := ¬ gt (b 7) s0 = so) c_51]); by rw [e0]; exact ⟨rfl, rfl⟩)
        · skip
          refine e_bipush (v := -11) (pc := 41) dX7_clerksBy_41 (by decide) ?_
          exact e_iret (pc := 43) dX7_clerksBy_43 rfl (Nat.le_refl _) (Nat.le_refl _) (have e0 : ycby m b s0 so fr k = (-11, m, b) := (by unfold ycby; rw [if_neg (by simp [q6, q15, mc_b1.mp c_25]), if_pos (c := gt (b 7) s0 = -1) c_38]); by rw [e0]; exact ⟨rfl, rfl⟩)
      · skip
        refine e_bipush (v := -2) (pc := 28) dX7_clerksBy_28 (by decide) ?_
        exact e_iret (pc := 30) dX7_clerksBy_30 rfl (Nat.le_refl _) (Nat.le_refl _) (have e0 : ycby m b s0 so fr k = (-2, m, b) := (by unfold ycby; rw [if_pos (by rw [mc_b0.mp c_25]; simp)]); by rw [e0]; exact ⟨rfl, rfl⟩)
