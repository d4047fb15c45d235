/-! cells -/
theorem nbt {p : Bool} (h : p = false) : ¬ p = true := by simp [h]
theorem nbf {p : Bool} (h : p = true) : ¬ p = false := by simp [h]
theorem sh7 {b : Nat → List Int32} (hL : yL b) {s : Int32} (h : mc_wi s 0 3 = true) : vp_in s (b 7).length := by rw [hL.2.2.2.2.2.2.2.1]; exact vp_in_w2 h (by decide) (by decide)
theorem sh8 {b : Nat → List Int32} (hL : yL b) {s : Int32} (h : mc_wi s 0 3 = true) : vp_in s (b 8).length := by rw [hL.2.2.2.2.2.2.2.2.1]; exact vp_in_w2 h (by decide) (by decide)
theorem sh_size {b : Nat → List Int32} (hS : ySh b) {s : Int32} (h : mc_wi s 0 3 = true) : ∃ σ sz : Nat, σ < 4 ∧ s = nI σ ∧ sz ≤ 40 ∧ gt (b 8) s = nI sz := by
  have hs4 : vp_in s 4 := vp_in_w2 h (by decide) (by decide)
  obtain ⟨σ, h4, rfl⟩ := vp_in_of hs4 (by decide)
  obtain ⟨-, h1, h2⟩ := hS σ h4
  refine ⟨σ, ((b 8).getD σ 0).toNatClampNeg, h4, rfl, by have := tnc h1; omega, ?_⟩
  unfold gt
  rw [nIc (by omega)]
  exact nI_back h1
theorem cl_in2 {b : Nat → List Int32} (hL : yL b) (hS : ySh b) {s i : Int32} (h : mc_wi s 0 3 = true) (hi : mc_wi i 0 (gt (b 8) s - 1) = true) : vp_in (40 * s + i) (b 9).length := by
  obtain ⟨σ, sz, h4, rfl, hz, e⟩ := sh_size hS h
  rw [e, mc_wi_iff] at hi
  have z0 : (0 : Int32).toInt = 0 := rfl
  have z1 : (1 : Int32).toInt = 1 := rfl
  have t := nI_toInt (n := sz) (by omega)
  rw [pk_subT (by rw [t, z1]; omega) (by rw [t, z1]; omega), t, z0, z1] at hi
  rw [nI_back hi.1]
  have := tnc hi.1
  exact cl_in hL.2.2.2.2.2.2.2.2.2 h4 (by omega)
def ycl1 (b : Nat → List Int32) (s i : Int32) : Int32 := if mc_wi s 0 3 = false then -2 else if gt (b 7) s = -1 then -11 else if mc_wi i 0 (gt (b 8) s - 1) = false then -12 else 1
def yclv (b : Nat → List Int32) (s v : Int32) : Int32 := if gt (b 7) s = 0 then v.toInt8.toInt32 else if gt (b 7) s = 1 then v.toInt16.toInt32 else v
def yclb (b : Nat → List Int32) (s i v : Int32) : Nat → List Int32 := if ycl1 b s i = 1 then mc_up b 9 ((b 9).set (40 * s + i).toNatClampNeg (yclv b s v)) else b
theorem sp_y_cell {s u m n : Nat → Int32} {a c b d : Nat → List Int32} {q : List (Option Nat)} {h : Nat} {z : mc_W} {s0 i v : Int32} (hL : yL b) (hS : ySh b) : mc_D yX7_cell cX7_cell 4 (some .int) 2 [.ref 29, .int s0, .int i, .int v] (WW s a q u c h m b n d z) (some (.int (ycl1 b s0 i))) (WW s a q u c h m (yclb b s0 i v) n d z) := by
  refine mc_start (own := RX7) (ini := false) rfl (by decide +kernel) (fun h => by cases h) (Nat.le_of_ble_eq_true rfl) ?_
  show mc_E _ _ _ _ _ [some (.ref 29), some (.int s0), some (.int i), some (.int v)] [] _ _ _
  refine e_iloadn (pc := 0) dX7_cell_0 rfl ?_
  refine e_iconst (v := 0) (pc := 1) dX7_cell_1 (by decide) ?_
  refine e_iconst (v := 3) (pc := 2) dX7_cell_2 (by decide) ?_
  refine e_csD (pc := 3) (sp_y_in) dX7_cell_3 kX7_75 rfl rfl (mc_CR_of (Nat.le_of_ble_eq_true rfl) (Nat.le_of_ble_eq_true rfl) (Nat.le_refl _) (Nat.le_refl _)) (Nat.le_of_ble_eq_true rfl) ?_
  refine e_if_ne (pc := 6) dX7_cell_6 (t := 12) (by decide) (fun c_6 => ?_) (fun c_6 => ?_)
  · skip
    refine e_aloadn (pc := 12) dX7_cell_12 rfl ?_
    refine e_get (pc := 13) dX7_cell_13 fX7_38 rfl rfl ?_
    refine e_iloadn (pc := 16) dX7_cell_16 rfl ?_
    refine ald_sheetSort (pc := 17) dX7_cell_17 (sh7 hL (mc_b1.mp c_6)) ?_
    refine e_iconst (v := -1) (pc := 18) dX7_cell_18 (by decide) ?_
    refine e_icmp_ne (pc := 19) dX7_cell_19 (t := 25) (by decide) (fun c_19 => ?_) (fun c_19 => ?_)
    · skip
      refine e_iloadn (pc := 25) dX7_cell_25 rfl ?_
      refine e_iconst (v := 0) (pc := 26) dX7_cell_26 (by decide) ?_
      refine e_aloadn (pc := 27) dX7_cell_27 rfl ?_
      refine e_get (pc := 28) dX7_cell_28 fX7_41 rfl rfl ?_
      refine e_iloadn (pc := 31) dX7_cell_31 rfl ?_
      refine ald_sheetSize (pc := 32) dX7_cell_32 (sh8 hL (mc_b1.mp c_6)) ?_
      refine e_iconst (v := 1) (pc := 33) dX7_cell_33 (by decide) ?_
      refine e_isub (pc := 34) dX7_cell_34 ?_
      refine e_csD (pc := 35) (sp_y_in) dX7_cell_35 kX7_75 rfl rfl (mc_CR_of (Nat.le_of_ble_eq_true rfl) (Nat.le_of_ble_eq_true rfl) (Nat.le_refl _) (Nat.le_refl _)) (Nat.le_of_ble_eq_true rfl) ?_
      refine e_if_ne (pc := 38) dX7_cell_38 (t := 44) (by decide) (fun c_38 => ?_) (fun c_38 => ?_)
      · skip
        refine e_aloadn (pc := 44) dX7_cell_44 rfl ?_
        refine e_get (pc := 45) dX7_cell_45 fX7_44 rfl rfl ?_
        refine e_bipush (v := 40) (pc := 48) dX7_cell_48 (by decide) ?_
        refine e_iloadn (pc := 50) dX7_cell_50 rfl ?_
        refine e_imul (pc := 51) dX7_cell_51 ?_
        refine e_iloadn (pc := 52) dX7_cell_52 rfl ?_
        refine e_iadd (pc := 53) dX7_cell_53 ?_
        refine e_aloadn (pc := 54) dX7_cell_54 rfl ?_
        refine e_get (pc := 55) dX7_cell_55 fX7_38 rfl rfl ?_
        refine e_iloadn (pc := 58) dX7_cell_58 rfl ?_
        refine ald_sheetSort (pc := 59) dX7_cell_59 (sh7 hL (mc_b1.mp c_6)) ?_
        refine e_if_ne (pc := 60) dX7_cell_60 (t := 68) (by decide) (fun c_60 => ?_) (fun c_60 => ?_)
        · skip
          refine e_aloadn (pc := 68) dX7_cell_68 rfl ?_
          refine e_get (pc := 69) dX7_cell_69 fX7_38 rfl rfl ?_
          refine e_iloadn (pc := 72) dX7_cell_72 rfl ?_
          refine ald_sheetSort (pc := 73) dX7_cell_73 (sh7 hL (mc_b1.mp c_6)) ?_
          refine e_iconst (v := 1) (pc := 74) dX7_cell_74 (by decide) ?_
          refine e_icmp_ne (pc := 75) dX7_cell_75 (t := 83) (by decide) (fun c_75 => ?_) (fun c_75 => ?_)
          · skip
            refine e_iloadn (pc := 83) dX7_cell_83 rfl ?_
            refine ast_ycells (pc := 84) dX7_cell_84 (cl_in2 hL hS (mc_b1.mp c_6) (mc_b1.mp c_38)) ?_
            refine e_iconst (v := 1) (pc := 85) dX7_cell_85 (by decide) ?_
            exact e_iret (pc := 86) dX7_cell_86 rfl (Nat.le_refl _) (Nat.le_refl _) (have e1 : ycl1 b s0 i = 1 := (by unfold ycl1; rw [if_neg (c := mc_wi s0 0 3 = false) (by simp [mc_b1.mp c_6]), if_neg (c := gt (b 7) s0 = -1) c_19, if_neg (c := mc_wi i 0 (gt (b 8) s0 - 1) = false) (nbf (mc_b1.mp c_38))]); ⟨by rw [e1], by unfold yclb; rw [if_pos e1]; unfold yclv; rw [if_neg (c := gt (b 7) s0 = 0) c_60, if_neg (c := gt (b 7) s0 = 1) c_75]⟩)
          · skip
            refine e_iloadn (pc := 78) dX7_cell_78 rfl ?_
            refine e_i2s (pc := 79) dX7_cell_79 ?_
            refine e_goto (pc := 80) dX7_cell_80 (t := 84) (by decide) ?_
            refine ast_ycells (pc := 84) dX7_cell_84 (cl_in2 hL hS (mc_b1.mp c_6) (mc_b1.mp c_38)) ?_
            refine e_iconst (v := 1) (pc := 85) dX7_cell_85 (by decide) ?_
            exact e_iret (pc := 86) dX7_cell_86 rfl (Nat.le_refl _) (Nat.le_refl _) (have e1 : ycl1 b s0 i = 1 := (by unfold ycl1; rw [if_neg (c := mc_wi s0 0 3 = false) (by simp [mc_b1.mp c_6]), if_neg (c := gt (b 7) s0 = -1) c_19, if_neg (c := mc_wi i 0 (gt (b 8) s0 - 1) = false) (nbf (mc_b1.mp c_38))]); ⟨by rw [e1], by unfold yclb; rw [if_pos e1]; unfold yclv; rw [if_neg (c := gt (b 7) s0 = 0) c_60, if_pos (c := gt (b 7) s0 = 1) c_75]⟩)
        · skip
          refine e_iloadn (pc := 63) dX7_cell_63 rfl ?_
          refine e_i2b (pc := 64) dX7_cell_64 ?_
          refine e_goto (pc := 65) dX7_cell_65 (t := 84) (by decide) ?_
          refine ast_ycells (pc := 84) dX7_cell_84 (cl_in2 hL hS (mc_b1.mp c_6) (mc_b1.mp c_38)) ?_
          refine e_iconst (v := 1) (pc := 85) dX7_cell_85 (by decide) ?_
          exact e_iret (pc := 86) dX7_cell_86 rfl (Nat.le_refl _) (Nat.le_refl _) (have e1 : ycl1 b s0 i = 1 := (by unfold ycl1; rw [if_neg (c := mc_wi s0 0 3 = false) (by simp [mc_b1.mp c_6]), if_neg (c := gt (b 7) s0 = -1) c_19, if_neg (c := mc_wi i 0 (gt (b 8) s0 - 1) = false) (nbf (mc_b1.mp c_38))]); ⟨by rw [e1], by unfold yclb; rw [if_pos e1]; unfold yclv; rw [if_pos (c := gt (b 7) s0 = 0) c_60]⟩)
      · skip
        refine e_bipush (v := -12) (pc := 41) dX7_cell_41 (by decide) ?_
        exact e_iret (pc := 43) dX7_cell_43 rfl (Nat.le_refl _) (Nat.le_refl _) (have e1 : ycl1 b s0 i = -12 := (by unfold ycl1; rw [if_neg (c := mc_wi s0 0 3 = false) (by simp [mc_b1.mp c_6]), if_neg (c := gt (b 7) s0 = -1) c_19, if_pos (c := mc_wi i 0 (gt (b 8) s0 - 1) = false) (mc_b0.mp c_38)]); ⟨by rw [e1], by unfold yclb; rw [e1]; rfl⟩)
    · skip
      refine e_bipush (v := -11) (pc := 22) dX7_cell_22 (by decide) ?_
      exact e_iret (pc := 24) dX7_cell_24 rfl (Nat.le_refl _) (Nat.le_refl _) (have e1 : ycl1 b s0 i = -11 := (by unfold ycl1; rw [if_neg (c := mc_wi s0 0 3 = false) (by simp [mc_b1.mp c_6]), if_pos (c := gt (b 7) s0 = -1) c_19]); ⟨by rw [e1], by unfold yclb; rw [e1]; rfl⟩)
  · skip
    refine e_bipush (v := -2) (pc := 9) dX7_cell_9 (by decide) ?_
    exact e_iret (pc := 11) dX7_cell_11 rfl (Nat.le_refl _) (Nat.le_refl _) (have e1 : ycl1 b s0 i = -2 := (by unfold ycl1; rw [if_pos (c := mc_wi s0 0 3 = false) (mc_b0.mp c_6)]); ⟨by rw [e1], by unfold yclb; rw [e1]; rfl⟩)
/-! what is taken -/
def ytks (b : Nat → List Int32) (i : Int32) : Int32 := 0 + gt (b 2) (6 * (i - 5) + 0) + gt (b 2) (6 * (i - 5) + 1) + gt (b 2) (6 * (i - 5) + 2) + gt (b 2) (6 * (i - 5) + 3) + gt (b 2) (6 * (i - 5) + 4) + gt (b 2) (6 * (i - 5) + 5)
def ytk (m : Nat → Int32) (b : Nat → List Int32) (i k : Int32) : Int32 :=
  if mc_wi k 0 6 = false then -2 else if mc_wi i 0 10 = false then -12
  else if 5 ≤ i then (if ytks b i = 0 then -11 else if k = 6 then ytks b i else -13)
  else if i < m 2 then (if 6 ≤ k then -13 else if yy_un (gt (b 0) i) k = true then i else -13) else -11
theorem tk_in {b : Nat → List Int32} (hL : yL b) {i : Int32} (h : mc_wi i 0 10 = true) (h5 : 5 ≤ i) {g : Int32} (hg : mc_wi g 0 5 = true) : vp_in (6 * (i - 5) + g) (b 2).length := by
  rw [mc_wi_iff] at h hg
  rw [Int32.le_iff_toInt_le] at h5
  have z0 : (0 : Int32).toInt = 0 := rfl
  have z5 : (5 : Int32).toInt = 5 := rfl
  have z10 : (10 : Int32).toInt = 10 := rfl
  rw [z0, z10] at h
  rw [z0, z5] at hg
  rw [z5] at h5
  rw [nI_back (x := i) (by omega), nI_back (x := g) (by omega)]
  have ti := tnc (x := i) (by omega)
  have tg := tnc (x := g) (by omega)
  rw [show nI i.toNatClampNeg - 5 = nI (i.toNatClampNeg - 5) from pk_sub (a := i.toNatClampNeg) (b := 5) (by omega)]
  exact ow_in hL.2.2.1 (by omega) (by omega)
theorem tk_k {b : Nat → List Int32} (hL : yL b) {i : Int32} (h : mc_wi i 0 10 = true) (h5 : ¬ 5 ≤ i) : vp_in i (b 0).length := by
  rw [mc_wi_iff] at h
  rw [Int32.le_iff_toInt_le] at h5
  have z0 : (0 : Int32).toInt = 0 := rfl
  have z5 : (5 : Int32).toInt = 5 := rfl
  rw [z0] at h
  rw [z5] at h5
  rw [vp_in_iff, hL.1]; omega
theorem sp_y_taken {s u m n : Nat → Int32} {a c b d : Nat → List Int32} {q : List (Option Nat)} {h : Nat} {z : mc_W} {i k : Int32} (hL : yL b) : mc_D yX7_taken cX7_taken 5 (some .int) 2 [.ref 29, .int i, .int k] (WW s a q u c h m b n d z) (some (.int (ytk m b i k))) (WW s a q u c h m b n d z) := by
  refine mc_start (own := RX7) (ini := false) rfl (by decide +kernel) (fun h => by cases h) (Nat.le_of_ble_eq_true rfl) ?_
  show mc_E _ _ _ _ _ [some (.ref 29), some (.int i), some (.int k), none, none] [] _ _ _
  refine e_iloadn (pc := 0) dX7_taken_0 rfl ?_
  refine e_iconst (v := 0) (pc := 1) dX7_taken_1 (by decide) ?_
  refine e_bipush (v := 6) (pc := 2) dX7_taken_2 (by decide) ?_
  refine e_csD (pc := 4) (sp_y_in) dX7_taken_4 kX7_75 rfl rfl (mc_CR_of (Nat.le_of_ble_eq_true rfl) (Nat.le_of_ble_eq_true rfl) (Nat.le_refl _) (Nat.le_refl _)) (Nat.le_of_ble_eq_true rfl) ?_
  refine e_if_ne (pc := 7) dX7_taken_7 (t := 13) (by decide) (fun c_7 => ?_) (fun c_7 => ?_)
  · skip
    refine e_iloadn (pc := 13) dX7_taken_13 rfl ?_
    refine e_iconst (v := 0) (pc := 14) dX7_taken_14 (by decide) ?_
    refine e_bipush (v := 10) (pc := 15) dX7_taken_15 (by decide) ?_
    refine e_csD (pc := 17) (sp_y_in) dX7_taken_17 kX7_75 rfl rfl (mc_CR_of (Nat.le_of_ble_eq_true rfl) (Nat.le_of_ble_eq_true rfl) (Nat.le_refl _) (Nat.le_refl _)) (Nat.le_of_ble_eq_true rfl) ?_
    refine e_if_ne (pc := 20) dX7_taken_20 (t := 26) (by decide) (fun c_20 => ?_) (fun c_20 => ?_)
    · skip
      refine e_iloadn (pc := 26) dX7_taken_26 rfl ?_
      refine e_iconst (v := 5) (pc := 27) dX7_taken_27 (by decide) ?_
      refine e_icmp_ge (pc := 28) dX7_taken_28 (t := 70) (by decide) (fun c_28 => ?_) (fun c_28 => ?_)
      · skip
        refine e_iconst (v := 0) (pc := 70) dX7_taken_70 (by decide) ?_
        refine e_isn3 (pc := 71) dX7_taken_71 (Nat.le_of_ble_eq_true rfl) rfl ?_
        refine e_iconst (v := 0) (pc := 72) dX7_taken_72 (by decide) ?_
        refine e_isw4 (pc := 73) dX7_taken_73 (Nat.le_of_ble_eq_true rfl) rfl ?_
        refine e_iload (pc := 75) dX7_taken_75 rfl ?_
        refine e_bipush (v := 6) (pc := 77) dX7_taken_77 (by decide) ?_
        refine e_icmp_ge (pc := 79) dX7_taken_79 (t := 105) (by decide) (fun c_79 => absurd c_79 (by decide)) (fun _ => ?_)
        refine e_iloadn (pc := 82) dX7_taken_82 rfl ?_
        refine e_aloadn (pc := 83) dX7_taken_83 rfl ?_
        refine e_get (pc := 84) dX7_taken_84 fX7_23 rfl rfl ?_
        refine e_bipush (v := 6) (pc := 87) dX7_taken_87 (by decide) ?_
        refine e_iloadn (pc := 89) dX7_taken_89 rfl ?_
        refine e_iconst (v := 5) (pc := 90) dX7_taken_90 (by decide) ?_
        refine e_isub (pc := 91) dX7_taken_91 ?_
        refine e_imul (pc := 92) dX7_taken_92 ?_
        refine e_iload (pc := 93) dX7_taken_93 rfl ?_
        refine e_iadd (pc := 95) dX7_taken_95 ?_
        refine ald_owes (pc := 96) dX7_taken_96 (tk_in hL (mc_b1.mp c_20) c_28 (by decide)) ?_
        refine e_iadd (pc := 97) dX7_taken_97 ?_
        refine e_isn3 (pc := 98) dX7_taken_98 (Nat.le_of_ble_eq_true rfl) rfl ?_
        refine e_incC4 (pc := 99) (v := 1) dX7_taken_99 (by decide) (Nat.le_of_ble_eq_true rfl) rfl ?_
        refine e_goto (pc := 102) dX7_taken_102 (t := 75) (by decide) ?_
        refine e_iload (pc := 75) dX7_taken_75 rfl ?_
        refine e_bipush (v := 6) (pc := 77) dX7_taken_77 (by decide) ?_
        refine e_icmp_ge (pc := 79) dX7_taken_79 (t := 105) (by decide) (fun c_79 => absurd c_79 (by decide)) (fun _ => ?_)
        refine e_iloadn (pc := 82) dX7_taken_82 rfl ?_
        refine e_aloadn (pc := 83) dX7_taken_83 rfl ?_
        refine e_get (pc := 84) dX7_taken_84 fX7_23 rfl rfl ?_
        refine e_bipush (v := 6) (pc := 87) dX7_taken_87 (by decide) ?_
        refine e_iloadn (pc := 89) dX7_taken_89 rfl ?_
        refine e_iconst (v := 5) (pc := 90) dX7_taken_90 (by decide) ?_
        refine e_isub (pc := 91) dX7_taken_91 ?_
        refine e_imul (pc := 92) dX7_taken_92 ?_
        refine e_iload (pc := 93) dX7_taken_93 rfl ?_
        refine e_iadd (pc := 95) dX7_taken_95 ?_
        refine ald_owes (pc := 96) dX7_taken_96 (tk_in hL (mc_b1.mp c_20) c_28 (by decide)) ?_
        refine e_iadd (pc := 97) dX7_taken_97 ?_
        refine e_isn3 (pc := 98) dX7_taken_98 (Nat.le_of_ble_eq_true rfl) rfl ?_
        refine e_incC4 (pc := 99) (v := 2) dX7_taken_99 (by decide) (Nat.le_of_ble_eq_true rfl) rfl ?_
        refine e_goto (pc := 102) dX7_taken_102 (t := 75) (by decide) ?_
        refine e_iload (pc := 75) dX7_taken_75 rfl ?_
        refine e_bipush (v := 6) (pc := 77) dX7_taken_77 (by decide) ?_
        refine e_icmp_ge (pc := 79) dX7_taken_79 (t := 105) (by decide) (fun c_79 => absurd c_79 (by decide)) (fun _ => ?_)
        refine e_iloadn (pc := 82) dX7_taken_82 rfl ?_
        refine e_aloadn (pc := 83) dX7_taken_83 rfl ?_
        refine e_get (pc := 84) dX7_taken_84 fX7_23 rfl rfl ?_
        refine e_bipush (v := 6) (pc := 87) dX7_taken_87 (by decide) ?_
        refine e_iloadn (pc := 89) dX7_taken_89 rfl ?_
        refine e_iconst (v := 5) (pc := 90) dX7_taken_90 (by decide) ?_
        refine e_isub (pc := 91) dX7_taken_91 ?_
        refine e_imul (pc := 92) dX7_taken_92 ?_
        refine e_iload (pc := 93) dX7_taken_93 rfl ?_
        refine e_iadd (pc := 95) dX7_taken_95 ?_
        refine ald_owes (pc := 96) dX7_taken_96 (tk_in hL (mc_b1.mp c_20) c_28 (by decide)) ?_
        refine e_iadd (pc := 97) dX7_taken_97 ?_
        refine e_isn3 (pc := 98) dX7_taken_98 (Nat.le_of_ble_eq_true rfl) rfl ?_
        refine e_incC4 (pc := 99) (v := 3) dX7_taken_99 (by decide) (Nat.le_of_ble_eq_true rfl) rfl ?_
        refine e_goto (pc := 102) dX7_taken_102 (t := 75) (by decide) ?_
        refine e_iload (pc := 75) dX7_taken_75 rfl ?_
        refine e_bipush (v := 6) (pc := 77) dX7_taken_77 (by decide) ?_
        refine e_icmp_ge (pc := 79) dX7_taken_79 (t := 105) (by decide) (fun c_79 => absurd c_79 (by decide)) (fun _ => ?_)
        refine e_iloadn (pc := 82) dX7_taken_82 rfl ?_
        refine e_aloadn (pc := 83) dX7_taken_83 rfl ?_
        refine e_get (pc := 84) dX7_taken_84 fX7_23 rfl rfl ?_
        refine e_bipush (v := 6) (pc := 87) dX7_taken_87 (by decide) ?_
        refine e_iloadn (pc := 89) dX7_taken_89 rfl ?_
        refine e_iconst (v := 5) (pc := 90) dX7_taken_90 (by decide) ?_
        refine e_isub (pc := 91) dX7_taken_91 ?_
        refine e_imul (pc := 92) dX7_taken_92 ?_
        refine e_iload (pc := 93) dX7_taken_93 rfl ?_
        refine e_iadd (pc := 95) dX7_taken_95 ?_
        refine ald_owes (pc := 96) dX7_taken_96 (tk_in hL (mc_b1.mp c_20) c_28 (by decide)) ?_
        refine e_iadd (pc := 97) dX7_taken_97 ?_
        refine e_isn3 (pc := 98) dX7_taken_98 (Nat.le_of_ble_eq_true rfl) rfl ?_
        refine e_incC4 (pc := 99) (v := 4) dX7_taken_99 (by decide) (Nat.le_of_ble_eq_true rfl) rfl ?_
        refine e_goto (pc := 102) dX7_taken_102 (t := 75) (by decide) ?_
        refine e_iload (pc := 75) dX7_taken_75 rfl ?_
        refine e_bipush (v := 6) (pc := 77) dX7_taken_77 (by decide) ?_
        refine e_icmp_ge (pc := 79) dX7_taken_79 (t := 105) (by decide) (fun c_79 => absurd c_79 (by decide)) (fun _ => ?_)
        refine e_iloadn (pc := 82) dX7_taken_82 rfl ?_
        refine e_aloadn (pc := 83) dX7_taken_83 rfl ?_
        refine e_get (pc := 84) dX7_taken_84 fX7_23 rfl rfl ?_
        refine e_bipush (v := 6) (pc := 87) dX7_taken_87 (by decide) ?_
        refine e_iloadn (pc := 89) dX7_taken_89 rfl ?_
        refine e_iconst (v := 5) (pc := 90) dX7_taken_90 (by decide) ?_
        refine e_isub (pc := 91) dX7_taken_91 ?_
        refine e_imul (pc := 92) dX7_taken_92 ?_
        refine e_iload (pc := 93) dX7_taken_93 rfl ?_
        refine e_iadd (pc := 95) dX7_taken_95 ?_
        refine ald_owes (pc := 96) dX7_taken_96 (tk_in hL (mc_b1.mp c_20) c_28 (by decide)) ?_
        refine e_iadd (pc := 97) dX7_taken_97 ?_
        refine e_isn3 (pc := 98) dX7_taken_98 (Nat.le_of_ble_eq_true rfl) rfl ?_
        refine e_incC4 (pc := 99) (v := 5) dX7_taken_99 (by decide) (Nat.le_of_ble_eq_true rfl) rfl ?_
        refine e_goto (pc := 102) dX7_taken_102 (t := 75) (by decide) ?_
        refine e_iload (pc := 75) dX7_taken_75 rfl ?_
        refine e_bipush (v := 6) (pc := 77) dX7_taken_77 (by decide) ?_
        refine e_icmp_ge (pc := 79) dX7_taken_79 (t := 105) (by decide) (fun c_79 => absurd c_79 (by decide)) (fun _ => ?_)
        refine e_iloadn (pc := 82) dX7_taken_82 rfl ?_
        refine e_aloadn (pc := 83) dX7_taken_83 rfl ?_
        refine e_get (pc := 84) dX7_taken_84 fX7_23 rfl rfl ?_
        refine e_bipush (v := 6) (pc := 87) dX7_taken_87 (by decide) ?_
        refine e_iloadn (pc := 89) dX7_taken_89 rfl ?_
        refine e_iconst (v := 5) (pc := 90) dX7_taken_90 (by decide) ?_
        refine e_isub (pc := 91) dX7_taken_91 ?_
        refine e_imul (pc := 92) dX7_taken_92 ?_
        refine e_iload (pc := 93) dX7_taken_93 rfl ?_
        refine e_iadd (pc := 95) dX7_taken_95 ?_
        refine ald_owes (pc := 96) dX7_taken_96 (tk_in hL (mc_b1.mp c_20) c_28 (by decide)) ?_
        refine e_iadd (pc := 97) dX7_taken_97 ?_
        refine e_isn3 (pc := 98) dX7_taken_98 (Nat.le_of_ble_eq_true rfl) rfl ?_
        refine e_incC4 (pc := 99) (v := 6) dX7_taken_99 (by decide) (Nat.le_of_ble_eq_true rfl) rfl ?_
        refine e_goto (pc := 102) dX7_taken_102 (t := 75) (by decide) ?_
        refine e_iload (pc := 75) dX7_taken_75 rfl ?_
        refine e_bipush (v := 6) (pc := 77) dX7_taken_77 (by decide) ?_
        refine e_icmp_ge (pc := 79) dX7_taken_79 (t := 105) (by decide) (fun _ => ?_) (fun c_79 => absurd (by decide) c_79)
        refine e_iloadn (pc := 105) dX7_taken_105 rfl ?_
        refine e_if_ne (pc := 106) dX7_taken_106 (t := 114) (by decide) (fun c_106 => ?_) (fun c_106 => ?_)
        · skip
          refine e_iloadn (pc := 114) dX7_taken_114 rfl ?_
          refine e_bipush (v := 6) (pc := 115) dX7_taken_115 (by decide) ?_
          refine e_icmp_ne (pc := 117) dX7_taken_117 (t := 124) (by decide) (fun c_117 => ?_) (fun c_117 => ?_)
          · skip
            refine e_bipush (v := -13) (pc := 124) dX7_taken_124 (by decide) ?_
            exact e_iret (pc := 126) dX7_taken_126 rfl (Nat.le_refl _) (Nat.le_refl _) ⟨by unfold ytk; rw [if_neg (c := mc_wi k 0 6 = false) (nbf (mc_b1.mp c_7)), if_neg (c := mc_wi i 0 10 = false) (nbf (mc_b1.mp c_20)), if_pos c_28, if_neg (c := ytks b i = 0) c_106, if_neg c_117], rfl⟩
          · skip
            refine e_iloadn (pc := 120) dX7_taken_120 rfl ?_
            refine e_goto (pc := 121) dX7_taken_121 (t := 126) (by decide) ?_
            exact e_iret (pc := 126) dX7_taken_126 rfl (Nat.le_refl _) (Nat.le_refl _) ⟨by unfold ytk; rw [if_neg (c := mc_wi k 0 6 = false) (nbf (mc_b1.mp c_7)), if_neg (c := mc_wi i 0 10 = false) (nbf (mc_b1.mp c_20)), if_pos c_28, if_neg (c := ytks b i = 0) c_106, if_pos c_117]; rfl, rfl⟩
        · skip
          refine e_bipush (v := -11) (pc := 109) dX7_taken_109 (by decide) ?_
          refine e_goto (pc := 111) dX7_taken_111 (t := 126) (by decide) ?_
          exact e_iret (pc := 126) dX7_taken_126 rfl (Nat.le_refl _) (Nat.le_refl _) ⟨by unfold ytk; rw [if_neg (c := mc_wi k 0 6 = false) (nbf (mc_b1.mp c_7)), if_neg (c := mc_wi i 0 10 = false) (nbf (mc_b1.mp c_20)), if_pos c_28, if_pos (c := ytks b i = 0) c_106], rfl⟩
      · skip
        refine e_iloadn (pc := 31) dX7_taken_31 rfl ?_
        refine e_aloadn (pc := 32) dX7_taken_32 rfl ?_
        refine e_get (pc := 33) dX7_taken_33 fX7_72 rfl rfl ?_
        refine e_icmp_lt (pc := 36) dX7_taken_36 (t := 44) (by decide) (fun c_36 => ?_) (fun c_36 => ?_)
        · skip
          refine e_iloadn (pc := 44) dX7_taken_44 rfl ?_
          refine e_bipush (v := 6) (pc := 45) dX7_taken_45 (by decide) ?_
          refine e_icmp_ge (pc := 47) dX7_taken_47 (t := 67) (by decide) (fun c_47 => ?_) (fun c_47 => ?_)
          · skip
            refine e_bipush (v := -13) (pc := 67) dX7_taken_67 (by decide) ?_
            exact e_iret (pc := 69) dX7_taken_69 rfl (Nat.le_refl _) (Nat.le_refl _) ⟨by unfold ytk; rw [if_neg (c := mc_wi k 0 6 = false) (nbf (mc_b1.mp c_7)), if_neg (c := mc_wi i 0 10 = false) (nbf (mc_b1.mp c_20)), if_neg c_28, if_pos c_36, if_pos c_47], rfl⟩
          · skip
            refine e_aloadn (pc := 50) dX7_taken_50 rfl ?_
            refine e_get (pc := 51) dX7_taken_51 fX7_16 rfl rfl ?_
            refine e_iloadn (pc := 54) dX7_taken_54 rfl ?_
            refine ald_kind (pc := 55) dX7_taken_55 (tk_k hL (mc_b1.mp c_20) c_28) ?_
            refine e_iloadn (pc := 56) dX7_taken_56 rfl ?_
            refine e_csD (pc := 57) (sp_y_isUnder) dX7_taken_57 kX7_311 rfl rfl (mc_CR_of (Nat.le_of_ble_eq_true rfl) (Nat.le_of_ble_eq_true rfl) (Nat.le_refl _) (Nat.le_refl _)) (Nat.le_of_ble_eq_true rfl) ?_
            refine e_if_eq (pc := 60) dX7_taken_60 (t := 67) (by decide) (fun c_60 => ?_) (fun c_60 => ?_)
            · skip
              refine e_bipush (v := -13) (pc := 67) dX7_taken_67 (by decide) ?_
              exact e_iret (pc := 69) dX7_taken_69 rfl (Nat.le_refl _) (Nat.le_refl _) ⟨by unfold ytk; rw [if_neg (c := mc_wi k 0 6 = false) (nbf (mc_b1.mp c_7)), if_neg (c := mc_wi i 0 10 = false) (nbf (mc_b1.mp c_20)), if_neg c_28, if_pos c_36, if_neg c_47, if_neg (c := yy_un (gt (b 0) i) k = true) (nbt (mc_b0.mp c_60))], rfl⟩
            · skip
              refine e_iloadn (pc := 63) dX7_taken_63 rfl ?_
              refine e_goto (pc := 64) dX7_taken_64 (t := 69) (by decide) ?_
              exact e_iret (pc := 69) dX7_taken_69 rfl (Nat.le_refl _) (Nat.le_refl _) ⟨by unfold ytk; rw [if_neg (c := mc_wi k 0 6 = false) (nbf (mc_b1.mp c_7)), if_neg (c := mc_wi i 0 10 = false) (nbf (mc_b1.mp c_20)), if_neg c_28, if_pos c_36, if_neg c_47, if_pos (c := yy_un (gt (b 0) i) k = true) (mc_b1.mp c_60)], rfl⟩
        · skip
          refine e_bipush (v := -11) (pc := 39) dX7_taken_39 (by decide) ?_
          refine e_goto (pc := 41) dX7_taken_41 (t := 69) (by decide) ?_
          exact e_iret (pc := 69) dX7_taken_69 rfl (Nat.le_refl _) (Nat.le_refl _) ⟨by unfold ytk; rw [if_neg (c := mc_wi k 0 6 = false) (nbf (mc_b1.mp c_7)), if_neg (c := mc_wi i 0 10 = false) (nbf (mc_b1.mp c_20)), if_neg c_28, if_neg c_36], rfl⟩
    · skip
      refine e_bipush (v := -12) (pc := 23) dX7_taken_23 (by decide) ?_
      exact e_iret (pc := 25) dX7_taken_25 rfl (Nat.le_refl _) (Nat.le_refl _) ⟨by unfold ytk; rw [if_neg (c := mc_wi k 0 6 = false) (nbf (mc_b1.mp c_7)), if_pos (c := mc_wi i 0 10 = false) (mc_b0.mp c_20)], rfl⟩
  · skip
    refine e_bipush (v := -2) (pc := 10) dX7_taken_10 (by decide) ?_
    exact e_iret (pc := 12) dX7_taken_12 rfl (Nat.le_refl _) (Nat.le_refl _) ⟨by unfold ytk; rw [if_pos (c := mc_wi k 0 6 = false) (mc_b0.mp c_7)], rfl⟩
/-! feeding -/
def yfd (x : Nat → Int32) : Nat → Nat → Nat → List Int32 → List Int32
  | 0, _, _, l => l
  | g + 1, i, t, l => yfd x g (i + 1) (t + 1) (l.set t (x i))
theorem yfd_len (x : Nat → Int32) : ∀ g i t l, (yfd x g i t l).length = l.length := by
  intro g
  induction g with
  | zero => intro i t l; rfl
  | succ g ih => intro i t l; unfold yfd; rw [ih, List.length_set]
def yfx (x0 x1 x2 x3 x4 : Int32) (i : Nat) : Int32 := if i = 0 then x0 else if i = 1 then x1 else if i = 2 then x2 else if i = 3 then x3 else x4
def yfe1 (m : Nat → Int32) (k x0 x1 x2 x3 x4 : Int32) : Int32 := if (mc_wi k 1 5 && mc_wi x0 0 255 && mc_wi x1 0 255 && mc_wi x2 0 255 && mc_wi x3 0 255 && mc_wi x4 0 255) = false then -2 else if m 3 + k ≤ 160 then m 3 + k else -4
def yfem (m : Nat → Int32) (k x0 x1 x2 x3 x4 : Int32) : Nat → Int32 := if yfe1 m k x0 x1 x2 x3 x4 < 0 then m else mc_up m 3 (m 3 + k)
def yfeb (m : Nat → Int32) (b : Nat → List Int32) (k x0 x1 x2 x3 x4 : Int32) : Nat → List Int32 := if yfe1 m k x0 x1 x2 x3 x4 < 0 then b else mc_up b 3 (yfd (yfx x0 x1 x2 x3 x4) k.toNatClampNeg 0 (m 3).toNatClampNeg (b 3))
theorem lp_y_feed {s u n : Nat → Int32} {a c d : Nat → List Int32} {q : List (Option Nat)} {h : Nat} {z : mc_W} {M : Nat → Int32} {B : Nat → List Int32} {L : List Int32} {x0 x1 x2 x3 x4 : Int32} {N TT : Nat} (hN : N ≤ 5) (hT : TT ≤ 160) :
    ∀ (g i t : Nat) (l : List Int32) (m : Nat → Int32) (b : Nat → List Int32), m = mc_up M 3 (nI t) → b = mc_up B 3 l → i + g = N → t + g = TT → l.length = 160 → yfd (yfx x0 x1 x2 x3 x4) g i t l = L →
      mc_E RX7 cX7_feed 8 (mc_JM (some .int) false 3 0 0 (fun r' w' => r' = some (.int (nI TT)) ∧ w' = WW s a q u c h (mc_up M 3 (nI TT)) (mc_up B 3 L) n d z)) 68 [some (.ref 29), some (.int (nI N)), some (.int x0), some (.int x1), some (.int x2), some (.int x3), some (.int x4), some (.int (nI i))] [] (WW s a q u c h m b n d z) 0 0 := by
  intro g
  induction g with
  | zero =>
    intro i t l m b hm hb hi ht hl hx
    have e : i = N := by omega
    have e2 : t = TT := by omega
    subst e e2
    have hx : l = L := hx
    subst hx hb hm
    refine e_iload (pc := 68) dX7_feed_68 rfl ?_
    refine e_iloadn (pc := 70) dX7_feed_70 rfl ?_
    refine e_icmp_ge (pc := 71) dX7_feed_71 (t := 142) (by decide) (fun _ => ?_) (fun c_71 => absurd (Int32.le_refl _) c_71)
    refine e_aloadn (pc := 142) dX7_feed_142 rfl ?_
    refine e_get (pc := 143) dX7_feed_143 fX7_65 rfl rfl ?_
    exact e_iret (pc := 146) dX7_feed_146 rfl (Nat.le_refl _) (Nat.le_refl _) ⟨rfl, rfl⟩
  | succ g ih =>
    intro i t l m b hm hb hi ht hl hx
    subst hm hb
    have iv : vp_in (nI t) ((mc_up B 3 l) 3).length := by show vp_in _ l.length; rw [hl]; exact vp_in_nI (by omega) (by decide)
    have tc : (nI t).toNatClampNeg = t := nIc (by omega)
    have et : (mc_up M 3 (nI t)) 3 = nI t := rfl
    simp only [yfd] at hx
    have GO : ∀ v, v = yfx x0 x1 x2 x3 x4 i → mc_E RX7 cX7_feed 8 (mc_JM (some .int) false 3 0 0 (fun r' w' => r' = some (.int (nI TT)) ∧ w' = WW s a q u c h (mc_up M 3 (nI TT)) (mc_up B 3 L) n d z)) 68 [some (.ref 29), some (.int (nI N)), some (.int x0), some (.int x1), some (.int x2), some (.int x3), some (.int x4), some (.int (nI (i + 1)))] [] (WW s a q u c h (mc_up M 3 (nI (t + 1))) (mc_up B 3 (l.set t v)) n d z) 0 0 := by
      intro v hv
      rw [hv]
      exact ih (i + 1) (t + 1) _ _ _ rfl rfl (by omega) (by omega) (by rw [List.length_set]; exact hl) hx
    refine e_iload (pc := 68) dX7_feed_68 rfl ?_
    refine e_iloadn (pc := 70) dX7_feed_70 rfl ?_
    refine e_icmp_ge (pc := 71) dX7_feed_71 (t := 142) (by decide) (fun c_71 => absurd c_71 (nI_ge (by omega : i < N) (by omega))) (fun _ => ?_)
    refine e_aloadn (pc := 74) dX7_feed_74 rfl ?_
    refine e_get (pc := 75) dX7_feed_75 fX7_26 rfl rfl ?_
    refine e_aloadn (pc := 78) dX7_feed_78 rfl ?_
    refine e_get (pc := 79) dX7_feed_79 fX7_65 rfl rfl ?_
    refine e_iload (pc := 82) dX7_feed_82 rfl ?_
    refine e_if_ne (pc := 84) dX7_feed_84 (t := 91) (by decide) (fun c_84 => ?_) (fun c_84 => ?_)
    · skip
      refine e_iload (pc := 91) dX7_feed_91 rfl ?_
      refine e_iconst (v := 1) (pc := 93) dX7_feed_93 (by decide) ?_
      refine e_icmp_ne (pc := 94) dX7_feed_94 (t := 101) (by decide) (fun c_94 => ?_) (fun c_94 => ?_)
      · skip
        refine e_iload (pc := 101) dX7_feed_101 rfl ?_
        refine e_iconst (v := 2) (pc := 103) dX7_feed_103 (by decide) ?_
        refine e_icmp_ne (pc := 104) dX7_feed_104 (t := 112) (by decide) (fun c_104 => ?_) (fun c_104 => ?_)
        · skip
          refine e_iload (pc := 112) dX7_feed_112 rfl ?_
          refine e_iconst (v := 3) (pc := 114) dX7_feed_114 (by decide) ?_
          refine e_icmp_ne (pc := 115) dX7_feed_115 (t := 123) (by decide) (fun c_115 => ?_) (fun c_115 => ?_)
          · skip
            refine e_iload (pc := 123) dX7_feed_123 rfl ?_
            refine ast_ytape (pc := 125) dX7_feed_125 iv ?_
            rw [up_setl, et, tc]
            refine e_aloadn (pc := 126) dX7_feed_126 rfl ?_
            refine e_dup (pc := 127) dX7_feed_127 rfl ?_
            refine e_get (pc := 128) dX7_feed_128 fX7_65 rfl rfl ?_
            refine e_iconst (v := 1) (pc := 131) dX7_feed_131 (by decide) ?_
            refine e_iadd (pc := 132) dX7_feed_132 ?_
            refine e_top ((show (mc_up M 3 (nI t)) 3 + 1 = nI (t + 1) from nI_1 t)) ?_
            refine put_y_taped (pc := 133) dX7_feed_133 pX7_65 ?_
            rw [mc_up_up]
            refine e_incC7 (pc := 136) dX7_feed_136 (nI_1 i) (Nat.le_of_ble_eq_true rfl) rfl ?_
            refine e_goto (pc := 139) dX7_feed_139 (t := 68) (by decide) ?_
            exact GO _ (by unfold yfx; rw [if_neg (fun q => c_84 ((nI_eq (a := i) (b := 0) (by omega) (by decide)).mpr q))]; rw [if_neg (fun q => c_94 ((nI_eq (a := i) (b := 1) (by omega) (by decide)).mpr q))]; rw [if_neg (fun q => c_104 ((nI_eq (a := i) (b := 2) (by omega) (by decide)).mpr q))]; rw [if_neg (fun q => c_115 ((nI_eq (a := i) (b := 3) (by omega) (by decide)).mpr q))])
          · skip
            refine e_iload (pc := 118) dX7_feed_118 rfl ?_
            refine e_goto (pc := 120) dX7_feed_120 (t := 125) (by decide) ?_
            refine ast_ytape (pc := 125) dX7_feed_125 iv ?_
            rw [up_setl, et, tc]
            refine e_aloadn (pc := 126) dX7_feed_126 rfl ?_
            refine e_dup (pc := 127) dX7_feed_127 rfl ?_
            refine e_get (pc := 128) dX7_feed_128 fX7_65 rfl rfl ?_
            refine e_iconst (v := 1) (pc := 131) dX7_feed_131 (by decide) ?_
            refine e_iadd (pc := 132) dX7_feed_132 ?_
            refine e_top ((show (mc_up M 3 (nI t)) 3 + 1 = nI (t + 1) from nI_1 t)) ?_
            refine put_y_taped (pc := 133) dX7_feed_133 pX7_65 ?_
            rw [mc_up_up]
            refine e_incC7 (pc := 136) dX7_feed_136 (nI_1 i) (Nat.le_of_ble_eq_true rfl) rfl ?_
            refine e_goto (pc := 139) dX7_feed_139 (t := 68) (by decide) ?_
            exact GO _ (by unfold yfx; rw [if_neg (fun q => c_84 ((nI_eq (a := i) (b := 0) (by omega) (by decide)).mpr q))]; rw [if_neg (fun q => c_94 ((nI_eq (a := i) (b := 1) (by omega) (by decide)).mpr q))]; rw [if_neg (fun q => c_104 ((nI_eq (a := i) (b := 2) (by omega) (by decide)).mpr q))]; rw [if_pos ((nI_eq (a := i) (b := 3) (by omega) (by decide)).mp c_115)])
        · skip
          refine e_iload (pc := 107) dX7_feed_107 rfl ?_
          refine e_goto (pc := 109) dX7_feed_109 (t := 125) (by decide) ?_
          refine ast_ytape (pc := 125) dX7_feed_125 iv ?_
          rw [up_setl, et, tc]
          refine e_aloadn (pc := 126) dX7_feed_126 rfl ?_
          refine e_dup (pc := 127) dX7_feed_127 rfl ?_
          refine e_get (pc := 128) dX7_feed_128 fX7_65 rfl rfl ?_
          refine e_iconst (v := 1) (pc := 131) dX7_feed_131 (by decide) ?_
          refine e_iadd (pc := 132) dX7_feed_132 ?_
          refine e_top ((show (mc_up M 3 (nI t)) 3 + 1 = nI (t + 1) from nI_1 t)) ?_
          refine put_y_taped (pc := 133) dX7_feed_133 pX7_65 ?_
          rw [mc_up_up]
          refine e_incC7 (pc := 136) dX7_feed_136 (nI_1 i) (Nat.le_of_ble_eq_true rfl) rfl ?_
          refine e_goto (pc := 139) dX7_feed_139 (t := 68) (by decide) ?_
          exact GO _ (by unfold yfx; rw [if_neg (fun q => c_84 ((nI_eq (a := i) (b := 0) (by omega) (by decide)).mpr q))]; rw [if_neg (fun q => c_94 ((nI_eq (a := i) (b := 1) (by omega) (by decide)).mpr q))]; rw [if_pos ((nI_eq (a := i) (b := 2) (by omega) (by decide)).mp c_104)])
      · skip
        refine e_iloadn (pc := 97) dX7_feed_97 rfl ?_
        refine e_goto (pc := 98) dX7_feed_98 (t := 125) (by decide) ?_
        refine ast_ytape (pc := 125) dX7_feed_125 iv ?_
        rw [up_setl, et, tc]
        refine e_aloadn (pc := 126) dX7_feed_126 rfl ?_
        refine e_dup (pc := 127) dX7_feed_127 rfl ?_
        refine e_get (pc := 128) dX7_feed_128 fX7_65 rfl rfl ?_
        refine e_iconst (v := 1) (pc := 131) dX7_feed_131 (by decide) ?_
        refine e_iadd (pc := 132) dX7_feed_132 ?_
        refine e_top ((show (mc_up M 3 (nI t)) 3 + 1 = nI (t + 1) from nI_1 t)) ?_
        refine put_y_taped (pc := 133) dX7_feed_133 pX7_65 ?_
        rw [mc_up_up]
        refine e_incC7 (pc := 136) dX7_feed_136 (nI_1 i) (Nat.le_of_ble_eq_true rfl) rfl ?_
        refine e_goto (pc := 139) dX7_feed_139 (t := 68) (by decide) ?_
        exact GO _ (by unfold yfx; rw [if_neg (fun q => c_84 ((nI_eq (a := i) (b := 0) (by omega) (by decide)).mpr q))]; rw [if_pos ((nI_eq (a := i) (b := 1) (by omega) (by decide)).mp c_94)])
    · skip
      refine e_iloadn (pc := 87) dX7_feed_87 rfl ?_
      refine e_goto (pc := 88) dX7_feed_88 (t := 125) (by decide) ?_
      refine ast_ytape (pc := 125) dX7_feed_125 iv ?_
      rw [up_setl, et, tc]
      refine e_aloadn (pc := 126) dX7_feed_126 rfl ?_
      refine e_dup (pc := 127) dX7_feed_127 rfl ?_
      refine e_get (pc := 128) dX7_feed_128 fX7_65 rfl rfl ?_
      refine e_iconst (v := 1) (pc := 131) dX7_feed_131 (by decide) ?_
      refine e_iadd (pc := 132) dX7_feed_132 ?_
      refine e_top ((show (mc_up M 3 (nI t)) 3 + 1 = nI (t + 1) from nI_1 t)) ?_
      refine put_y_taped (pc := 133) dX7_feed_133 pX7_65 ?_
      rw [mc_up_up]
      refine e_incC7 (pc := 136) dX7_feed_136 (nI_1 i) (Nat.le_of_ble_eq_true rfl) rfl ?_
      refine e_goto (pc := 139) dX7_feed_139 (t := 68) (by decide) ?_
      exact GO _ (by unfold yfx; rw [if_pos ((nI_eq (a := i) (b := 0) (by omega) (by decide)).mp c_84)])
theorem sp_y_feed {s u m n : Nat → Int32} {a c b d : Nat → List Int32} {q : List (Option Nat)} {h : Nat} {z : mc_W} {k x0 x1 x2 x3 x4 : Int32} (hL : yL b) (h3 : 0 ≤ (m 3).toInt) (h3b : (m 3).toInt ≤ 160) : mc_D yX7_feed cX7_feed 8 (some .int) 3 [.ref 29, .int k, .int x0, .int x1, .int x2, .int x3, .int x4] (WW s a q u c h m b n d z) (some (.int (yfe1 m k x0 x1 x2 x3 x4))) (WW s a q u c h (yfem m k x0 x1 x2 x3 x4) (yfeb m b k x0 x1 x2 x3 x4) n d z) := by
  refine mc_start (own := RX7) (ini := false) rfl (by decide +kernel) (fun h => by cases h) (Nat.le_of_ble_eq_true rfl) ?_
  show mc_E _ _ _ _ _ [some (.ref 29), some (.int k), some (.int x0), some (.int x1), some (.int x2), some (.int x3), some (.int x4), none] [] _ _ _
  refine e_iloadn (pc := 0) dX7_feed_0 rfl ?_
  refine e_iconst (v := 1) (pc := 1) dX7_feed_1 (by decide) ?_
  refine e_iconst (v := 5) (pc := 2) dX7_feed_2 (by decide) ?_
  refine e_csD (pc := 3) (sp_y_in) dX7_feed_3 kX7_75 rfl rfl (mc_CR_of (Nat.le_of_ble_eq_true rfl) (Nat.le_of_ble_eq_true rfl) (Nat.le_refl _) (Nat.le_refl _)) (Nat.le_of_ble_eq_true rfl) ?_
  refine e_if_eq (pc := 6) dX7_feed_6 (t := 47) (by decide) (fun c_6 => ?_) (fun c_6 => ?_)
  · skip
    refine e_bipush (v := -2) (pc := 47) dX7_feed_47 (by decide) ?_
    exact e_iret (pc := 49) dX7_feed_49 rfl (Nat.le_refl _) (Nat.le_refl _) (have e0 : yfe1 m k x0 x1 x2 x3 x4 = -2 := (by unfold yfe1; rw [if_pos (by rw [mc_b0.mp c_6]; simp)]); ⟨by rw [e0], by unfold yfem yfeb; rw [e0]; rfl⟩)
  · skip
    refine e_iloadn (pc := 9) dX7_feed_9 rfl ?_
    refine e_csD (pc := 10) (sp_y_isByte) dX7_feed_10 kX7_90 rfl rfl (mc_CR_of (Nat.le_of_ble_eq_true rfl) (Nat.le_of_ble_eq_true rfl) (Nat.le_refl _) (Nat.le_refl _)) (Nat.le_of_ble_eq_true rfl) ?_
    refine e_if_eq (pc := 13) dX7_feed_13 (t := 47) (by decide) (fun c_13 => ?_) (fun c_13 => ?_)
    · skip
      refine e_bipush (v := -2) (pc := 47) dX7_feed_47 (by decide) ?_
      exact e_iret (pc := 49) dX7_feed_49 rfl (Nat.le_refl _) (Nat.le_refl _) (have e0 : yfe1 m k x0 x1 x2 x3 x4 = -2 := (by unfold yfe1; rw [if_pos (by rw [mc_b0.mp c_13]; simp)]); ⟨by rw [e0], by unfold yfem yfeb; rw [e0]; rfl⟩)
    · skip
      refine e_iloadn (pc := 16) dX7_feed_16 rfl ?_
      refine e_csD (pc := 17) (sp_y_isByte) dX7_feed_17 kX7_90 rfl rfl (mc_CR_of (Nat.le_of_ble_eq_true rfl) (Nat.le_of_ble_eq_true rfl) (Nat.le_refl _) (Nat.le_refl _)) (Nat.le_of_ble_eq_true rfl) ?_
      refine e_if_eq (pc := 20) dX7_feed_20 (t := 47) (by decide) (fun c_20 => ?_) (fun c_20 => ?_)
      · skip
        refine e_bipush (v := -2) (pc := 47) dX7_feed_47 (by decide) ?_
        exact e_iret (pc := 49) dX7_feed_49 rfl (Nat.le_refl _) (Nat.le_refl _) (have e0 : yfe1 m k x0 x1 x2 x3 x4 = -2 := (by unfold yfe1; rw [if_pos (by rw [mc_b0.mp c_20]; simp)]); ⟨by rw [e0], by unfold yfem yfeb; rw [e0]; rfl⟩)
      · skip
        refine e_iload (pc := 23) dX7_feed_23 rfl ?_
        refine e_csD (pc := 25) (sp_y_isByte) dX7_feed_25 kX7_90 rfl rfl (mc_CR_of (Nat.le_of_ble_eq_true rfl) (Nat.le_of_ble_eq_true rfl) (Nat.le_refl _) (Nat.le_refl _)) (Nat.le_of_ble_eq_true rfl) ?_
        refine e_if_eq (pc := 28) dX7_feed_28 (t := 47) (by decide) (fun c_28 => ?_) (fun c_28 => ?_)
        · skip
          refine e_bipush (v := -2) (pc := 47) dX7_feed_47 (by decide) ?_
          exact e_iret (pc := 49) dX7_feed_49 rfl (Nat.le_refl _) (Nat.le_refl _) (have e0 : yfe1 m k x0 x1 x2 x3 x4 = -2 := (by unfold yfe1; rw [if_pos (by rw [mc_b0.mp c_28]; simp)]); ⟨by rw [e0], by unfold yfem yfeb; rw [e0]; rfl⟩)
        · skip
          refine e_iload (pc := 31) dX7_feed_31 rfl ?_
          refine e_csD (pc := 33) (sp_y_isByte) dX7_feed_33 kX7_90 rfl rfl (mc_CR_of (Nat.le_of_ble_eq_true rfl) (Nat.le_of_ble_eq_true rfl) (Nat.le_refl _) (Nat.le_refl _)) (Nat.le_of_ble_eq_true rfl) ?_
          refine e_if_eq (pc := 36) dX7_feed_36 (t := 47) (by decide) (fun c_36 => ?_) (fun c_36 => ?_)
          · skip
            refine e_bipush (v := -2) (pc := 47) dX7_feed_47 (by decide) ?_
            exact e_iret (pc := 49) dX7_feed_49 rfl (Nat.le_refl _) (Nat.le_refl _) (have e0 : yfe1 m k x0 x1 x2 x3 x4 = -2 := (by unfold yfe1; rw [if_pos (by rw [mc_b0.mp c_36]; simp)]); ⟨by rw [e0], by unfold yfem yfeb; rw [e0]; rfl⟩)
          · skip
            refine e_iload (pc := 39) dX7_feed_39 rfl ?_
            refine e_csD (pc := 41) (sp_y_isByte) dX7_feed_41 kX7_90 rfl rfl (mc_CR_of (Nat.le_of_ble_eq_true rfl) (Nat.le_of_ble_eq_true rfl) (Nat.le_refl _) (Nat.le_refl _)) (Nat.le_of_ble_eq_true rfl) ?_
            refine e_if_ne (pc := 44) dX7_feed_44 (t := 50) (by decide) (fun c_44 => ?_) (fun c_44 => ?_)
            · skip
              refine e_aloadn (pc := 50) dX7_feed_50 rfl ?_
              refine e_get (pc := 51) dX7_feed_51 fX7_65 rfl rfl ?_
              have q6 : mc_wi k 1 5 = true := by simpa [mc_b0] using c_6
              have q13 : mc_wi x0 0 255 = true := by simpa [mc_b0] using c_13
              have q20 : mc_wi x1 0 255 = true := by simpa [mc_b0] using c_20
              have q28 : mc_wi x2 0 255 = true := by simpa [mc_b0] using c_28
              have q36 : mc_wi x3 0 255 = true := by simpa [mc_b0] using c_36
              have q44 : mc_wi x4 0 255 = true := by simpa [mc_b0] using c_44
              refine e_iloadn (pc := 54) dX7_feed_54 rfl ?_
              refine e_iadd (pc := 55) dX7_feed_55 ?_
              refine e_sipush (v := 160) (pc := 56) dX7_feed_56 (by decide) ?_
              refine e_icmp_le (pc := 59) dX7_feed_59 (t := 65) (by decide) (fun c_59 => ?_) (fun c_59 => ?_)
              · skip
                refine e_iconst (v := 0) (pc := 65) dX7_feed_65 (by decide) ?_
                refine e_isw7 (pc := 66) dX7_feed_66 (Nat.le_of_ble_eq_true rfl) rfl ?_
                have e0 : yfe1 m k x0 x1 x2 x3 x4 = m 3 + k := by unfold yfe1; rw [if_neg (by simp [q6, q13, q20, q28, q36, q44]), if_pos c_59]
                have hk := mc_wi_iff.mp q6
                have z1 : (1 : Int32).toInt = 1 := rfl
                have z5 : (5 : Int32).toInt = 5 := rfl
                have z0 : (0 : Int32).toInt = 0 := rfl
                have z160 : (160 : Int32).toInt = 160 := rfl
                rw [z1, z5] at hk
                have ek := nI_back (x := k) (by omega)
                have tk := tnc (x := k) (by omega)
                have e3 := nI_back h3
                have t3 := tnc h3
                have es : m 3 + k = nI ((m 3).toNatClampNeg + k.toNatClampNeg) := by rw [← nI_add, ← ek, ← e3]
                have c59 := c_59
                rw [Int32.le_iff_toInt_le, es, nI_toInt (by omega), z160] at c59
                have en : ¬ m 3 + k < 0 := by rw [Int32.lt_iff_toInt_lt, es, nI_toInt (by omega), z0]; omega
                have K := lp_y_feed (s := s) (a := a) (q := q) (u := u) (c := c) (h := h) (z := z) (n := n) (d := d) (x0 := x0) (x1 := x1) (x2 := x2) (x3 := x3) (x4 := x4) (N := k.toNatClampNeg) (TT := (m 3).toNatClampNeg + k.toNatClampNeg) (by omega) (by omega) k.toNatClampNeg 0 (m 3).toNatClampNeg (b 3) m b (by rw [← e3, mc_up_self]) (mc_up_self b 3).symm (by omega) rfl hL.2.2.2.1 rfl
                rw [← ek, ← es] at K
                have em : yfem m k x0 x1 x2 x3 x4 = mc_up m 3 (m 3 + k) := by unfold yfem; rw [e0, if_neg en]
                have eb : yfeb m b k x0 x1 x2 x3 x4 = mc_up b 3 (yfd (yfx x0 x1 x2 x3 x4) k.toNatClampNeg 0 (m 3).toNatClampNeg (b 3)) := by unfold yfeb; rw [e0, if_neg en]
                rw [e0, em, eb]
                exact K
              · skip
                refine e_bipush (v := -4) (pc := 62) dX7_feed_62 (by decide) ?_
                exact e_iret (pc := 64) dX7_feed_64 rfl (Nat.le_refl _) (Nat.le_refl _) (have e0 : yfe1 m k x0 x1 x2 x3 x4 = -4 := (by unfold yfe1; rw [if_neg (by simp [q6, q13, q20, q28, q36, mc_b1.mp c_44]), if_neg c_59]); ⟨by rw [e0], by unfold yfem yfeb; rw [e0]; rfl⟩)
            · skip
              refine e_bipush (v := -2) (pc := 47) dX7_feed_47 (by decide) ?_
              exact e_iret (pc := 49) dX7_feed_49 rfl (Nat.le_refl _) (Nat.le_refl _) (have e0 : yfe1 m k x0 x1 x2 x3 x4 = -2 := (by unfold yfe1; rw [if_pos (by rw [mc_b0.mp c_44]; simp)]); ⟨by rw [e0], by unfold yfem yfeb; rw [e0]; rfl⟩)
