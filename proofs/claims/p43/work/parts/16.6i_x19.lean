section Zj_6i_x19
/-! ===== cells, copies, clerks by a sheet ===== -/
def xcl1 (s : Nat → Int32) (k : Nat) (i : Int32) : Int32 := if xmis s k = true then -11 else if xhas i (s (12 + 2 * k)) = false then -12 else 1
def xcla (s : Nat → Int32) (a : Nat → List Int32) (k : Nat) (i v : Int32) : Nat → List Int32 := if xcl1 s k i = 1 then xsto a s k i v else a
theorem sp_x_cell {s u m n : Nat → Int32} {a c b d : Nat → List Int32} {q : List (Option Nat)} {h : Nat} {z : mc_W} {k : Nat} (hk : k < 4) (hL : xL a)  {i v : Int32} : mc_D yX6_cell cX6_cell 6 (some .int) 5 [.ref 0, .int (nI k), .int i, .int v] (WW s a q u c h m b n d z) (some (.int (xcl1 s k i))) (WW s (xcla s a k i v) q u c h m b n d z) := by
  refine mc_start (own := RX6) (ini := false) rfl (by decide +kernel) (fun h => by cases h) (Nat.le_of_ble_eq_true rfl) ?_
  show mc_E _ _ _ _ _ [some (.ref 0), some (.int (nI k)), some (.int i), some (.int v), none, none] [] _ _ _
  refine e_aloadn (pc := 0) dX6_cell_0 rfl ?_
  refine e_iloadn (pc := 1) dX6_cell_1 rfl ?_
  refine e_cvD (pc := 2) (sp_x_refSheet hk) dX6_cell_2 kX6_228 rfl rfl rfl rfl rfl (mc_CR_of (Nat.le_of_ble_eq_true rfl) (Nat.le_of_ble_eq_true rfl) (Nat.le_refl _) (Nat.le_refl _)) (Nat.le_of_ble_eq_true rfl) ?_
  refine e_isw4 (pc := 5) dX6_cell_5 (Nat.le_of_ble_eq_true rfl) rfl ?_
  refine e_iload (pc := 7) dX6_cell_7 rfl ?_
  refine e_if_eq (pc := 9) dX6_cell_9 (t := 15) (by decide) (fun c_9 => ?_) (fun c_9 => ?_)
  · skip
    refine e_aloadn (pc := 15) dX6_cell_15 rfl ?_
    refine e_iloadn (pc := 16) dX6_cell_16 rfl ?_
    refine e_cvD (pc := 17) (sp_x_sheetAt hk) dX6_cell_17 kX6_171 rfl rfl rfl rfl rfl (mc_CR_of (Nat.le_of_ble_eq_true rfl) (Nat.le_of_ble_eq_true rfl) (Nat.le_refl _) (Nat.le_refl _)) (Nat.le_of_ble_eq_true rfl) ?_
    refine e_asw5 (pc := 20) dX6_cell_20 (Nat.le_of_ble_eq_true rfl) rfl ?_
    refine e_aload (pc := 22) dX6_cell_22 rfl ?_
    refine e_iloadn (pc := 24) dX6_cell_24 rfl ?_
    refine e_cvD (pc := 25) (sp_x_has hk hL) dX6_cell_25 kX6_329 (WW_sh hk) rfl rfl rfl rfl (mc_CR_of (Nat.le_of_ble_eq_true rfl) (Nat.le_of_ble_eq_true rfl) (Nat.le_refl _) (Nat.le_refl _)) (Nat.le_of_ble_eq_true rfl) ?_
    refine e_if_ne (pc := 28) dX6_cell_28 (t := 34) (by decide) (fun c_28 => ?_) (fun c_28 => ?_)
    · skip
      refine e_aload (pc := 34) dX6_cell_34 rfl ?_
      refine e_iloadn (pc := 36) dX6_cell_36 rfl ?_
      refine e_iloadn (pc := 37) dX6_cell_37 rfl ?_
      refine e_cvU (pc := 38) (sp_x_store hk hL) dX6_cell_38 kX6_294 (WW_sh hk) rfl rfl rfl rfl (mc_CR_of (Nat.le_of_ble_eq_true rfl) (Nat.le_of_ble_eq_true rfl) (Nat.le_refl _) (Nat.le_refl _)) (Nat.le_of_ble_eq_true rfl) ?_
      refine e_iconst (v := 1) (pc := 41) dX6_cell_41 (by decide) ?_
      exact e_iret (pc := 42) dX6_cell_42 rfl (Nat.le_refl _) (Nat.le_refl _) (have e : xcl1 s k i = 1 := (by unfold xcl1; rw [if_neg (show ¬ xmis s k = true from fun q => by rw [if_pos q] at c_9; exact absurd c_9 (by decide)), if_neg (show ¬ xhas i (s (12 + 2 * k)) = false by rw [mc_b1.mp c_28]; decide)]); ⟨by rw [e], by unfold xcla; rw [if_pos e]⟩)
    · skip
      refine e_bipush (v := -12) (pc := 31) dX6_cell_31 (by decide) ?_
      exact e_iret (pc := 33) dX6_cell_33 rfl (Nat.le_refl _) (Nat.le_refl _) (have e : xcl1 s k i = -12 := (by unfold xcl1; rw [if_neg (show ¬ xmis s k = true from fun q => by rw [if_pos q] at c_9; exact absurd c_9 (by decide)), if_pos (mc_b0.mp c_28)]); ⟨by rw [e], by unfold xcla; rw [e, if_neg (by decide)]⟩)
  · skip
    refine e_iload (pc := 12) dX6_cell_12 rfl ?_
    exact e_iret (pc := 14) dX6_cell_14 rfl (Nat.le_refl _) (Nat.le_refl _) (have e : xcl1 s k i = -11 := (by unfold xcl1; by_cases hm : xmis s k = true <;> simp_all); ⟨by rw [e]; by_cases hm : xmis s k = true <;> simp_all, by unfold xcla; rw [e, if_neg (by decide)]⟩)
theorem sp_x_cell0 {s u m n : Nat → Int32} {a c b d : Nat → List Int32} {q : List (Option Nat)} {h : Nat} {z : mc_W} {x0 i v : Int32} (hv : mc_wi x0 0 3 = false) : mc_D yX6_cell cX6_cell 6 (some .int) 5 [.ref 0, .int x0, .int i, .int v] (WW s a q u c h m b n d z) (some (.int (-2))) (WW s a q u c h m b n d z) := by
  refine mc_start (own := RX6) (ini := false) rfl (by decide +kernel) (fun h => by cases h) (Nat.le_of_ble_eq_true rfl) ?_
  show mc_E _ _ _ _ _ [some (.ref 0), some (.int x0), some (.int i), some (.int v), none, none] [] _ _ _
  refine e_aloadn (pc := 0) dX6_cell_0 rfl ?_
  refine e_iloadn (pc := 1) dX6_cell_1 rfl ?_
  refine e_cvD (pc := 2) (sp_x_refSheet0 hv) dX6_cell_2 kX6_228 rfl rfl rfl rfl rfl (mc_CR_of (Nat.le_of_ble_eq_true rfl) (Nat.le_of_ble_eq_true rfl) (Nat.le_refl _) (Nat.le_refl _)) (Nat.le_of_ble_eq_true rfl) ?_
  refine e_isw4 (pc := 5) dX6_cell_5 (Nat.le_of_ble_eq_true rfl) rfl ?_
  refine e_iload (pc := 7) dX6_cell_7 rfl ?_
  refine e_if_eq (pc := 9) dX6_cell_9 (t := 15) (by decide) (fun c_9 => absurd c_9 (by decide)) (fun _ => ?_)
  refine e_iload (pc := 12) dX6_cell_12 rfl ?_
  exact e_iret (pc := 14) dX6_cell_14 rfl (Nat.le_refl _) (Nat.le_refl _) ⟨rfl, rfl⟩
theorem xrun_in {f g N : Int32} (hN : 0 ≤ N.toInt ∧ N.toInt ≤ 40) (h : xrun f g N = true) : ¬ f < 0 ∧ ¬ g < 0 ∧ f.toNatClampNeg + g.toNatClampNeg ≤ 40 ∧ (f.toInt + g.toInt ≤ N.toInt) := by
  unfold xrun at h
  simp only [Bool.and_eq_true, decide_eq_true_eq, Int32.le_iff_toInt_le, i0] at h
  obtain ⟨h1, h2, h3, h4⟩ := h
  rw [i32_sub (by omega) (by omega)] at h4
  have t1 := tnc h1
  have t2 := tnc h2
  refine ⟨?_, ?_, by omega, by omega⟩
  · rw [Int32.lt_iff_toInt_lt, i0]; omega
  · rw [Int32.lt_iff_toInt_lt, i0]; omega
def xcpa (a : Nat → List Int32) (k p : Nat) (i j n : Int32) : Nat → List Int32 := mc_up a (5 + p) (mc_cpy (a (5 + k)) (a (5 + p)) i.toNatClampNeg j.toNatClampNeg n.toNatClampNeg)
theorem sp_x_copyTo {s u m n : Nat → Int32} {a c b d : Nat → List Int32} {q : List (Option Nat)} {h : Nat} {z : mc_W} {k p : Nat} (hk : k < 4) (hp : p < 4) (hL : xL a) (hS : xS s) {i j g : Int32} (hr1 : xrun i g (s (12 + 2 * k)) = true) (hr2 : xrun j g (s (12 + 2 * p)) = true) : mc_D yX3_copyTo cX3_copyTo 5 none 2 [.ref (21 + 2 * k), .ref (21 + 2 * p), .int i, .int j, .int g] (WW s a q u c h m b n d z) none (WW s (xcpa a k p i j g) q u c h m b n d z) := by
  refine mc_start (own := RX3) (ini := false) rfl (by decide +kernel) (fun h => by cases h) (Nat.le_of_ble_eq_true rfl) ?_
  show mc_E _ _ _ _ _ [some (.ref (21 + 2 * k)), some (.ref (21 + 2 * p)), some (.int i), some (.int j), some (.int g)] [] _ _ _
  refine e_aloadn (pc := 0) dX3_copyTo_0 rfl ?_
  refine e_iloadn (pc := 1) dX3_copyTo_1 rfl ?_
  refine e_iload (pc := 2) dX3_copyTo_2 rfl ?_
  refine e_cvD (pc := 4) (sp_x_hasRun hk) dX3_copyTo_4 kX3_41 (WW_sh hk) rfl rfl rfl rfl (mc_CR_of (Nat.le_of_ble_eq_true rfl) (Nat.le_of_ble_eq_true rfl) (Nat.le_refl _) (Nat.le_refl _)) (Nat.le_of_ble_eq_true rfl) ?_
  refine e_if_eq (pc := 7) dX3_copyTo_7 (t := 35) (by decide) (fun c_7 => absurd c_7 (by rw [hr1]; decide)) (fun _ => ?_)
  refine e_aloadn (pc := 10) dX3_copyTo_10 rfl ?_
  refine e_iloadn (pc := 11) dX3_copyTo_11 rfl ?_
  refine e_iload (pc := 12) dX3_copyTo_12 rfl ?_
  refine e_cvD (pc := 14) (sp_x_hasRun hp) dX3_copyTo_14 kX3_41 (WW_sh hp) rfl rfl rfl rfl (mc_CR_of (Nat.le_of_ble_eq_true rfl) (Nat.le_of_ble_eq_true rfl) (Nat.le_refl _) (Nat.le_refl _)) (Nat.le_of_ble_eq_true rfl) ?_
  refine e_if_eq (pc := 17) dX3_copyTo_17 (t := 35) (by decide) (fun c_17 => absurd c_17 (by rw [hr2]; decide)) (fun _ => ?_)
  refine e_aloadn (pc := 20) dX3_copyTo_20 rfl ?_
  refine e_get (pc := 21) dX3_copyTo_21 fX3_9 (WW_sh (by assumption)) rfl ?_
  refine e_iloadn (pc := 24) dX3_copyTo_24 rfl ?_
  refine e_aloadn (pc := 25) dX3_copyTo_25 rfl ?_
  refine e_get (pc := 26) dX3_copyTo_26 fX3_9 (WW_sh (by assumption)) rfl ?_
  refine e_iloadn (pc := 29) dX3_copyTo_29 rfl ?_
  refine e_iload (pc := 30) dX3_copyTo_30 rfl ?_
  have r1 := xrun_in (hS k hk) hr1
  have r2 := xrun_in (hS p hp) hr2
  refine e_copy (pc := 32) (a0 := 22 + 2 * k) (a := 22 + 2 * p) (xs := a (5 + k)) (ys := a (5 + p)) (sp := i) (dp := j) (n := g) dX3_copyTo_32 oX3_45 nat_cpy sta_cpy ini_Sys (WW_num hk) (WW_num hp) r1.1 r2.1 r1.2.1 (by rw [hL.2.2.2.2.2 k hk]; exact r1.2.2.1) (by rw [hL.2.2.2.2.2 p hp]; exact r2.2.2.1) ⟨Nat.le_of_ble_eq_true rfl, Nat.le_of_ble_eq_true rfl⟩ (Nat.le_of_ble_eq_true rfl) ?_
  exact e_vret (pc := 35) dX3_copyTo_35 rfl (Nat.le_refl _) (Nat.le_refl _) ⟨rfl, WW_numset hp⟩
def xcyr (s : Nat → Int32) (k p : Nat) (i j g : Int32) : Int32 := if xmis s k = true then -11 else if xmis s p = true then -11 else if ¬ s (11 + 2 * k) = s (11 + 2 * p) then -13
  else if xrun i g (s (12 + 2 * k)) = false then -12 else if xrun j g (s (12 + 2 * p)) = false then -12 else 0
def xcy1 (s : Nat → Int32) (k p : Nat) (i j g : Int32) : Int32 := if xcyr s k p i j g = 0 then g else xcyr s k p i j g
def xcya (s : Nat → Int32) (a : Nat → List Int32) (k p : Nat) (i j g : Int32) : Nat → List Int32 := if xcyr s k p i j g = 0 then xcpa a k p i j g else a
theorem xcy_no {s : Nat → Int32} {a : Nat → List Int32} {k p : Nat} {i j g v : Int32} (e : xcyr s k p i j g = v) (hv : ¬ v = 0) : xcy1 s k p i j g = v ∧ xcya s a k p i j g = a := by
  unfold xcy1 xcya
  rw [e, if_neg hv, if_neg hv]
  exact ⟨rfl, rfl⟩
theorem sp_x_copy {s u m n : Nat → Int32} {a c b d : Nat → List Int32} {q : List (Option Nat)} {h : Nat} {z : mc_W} {k p : Nat} (hk : k < 4) (hp : p < 4) (hL : xL a) (hS : xS s) {i j g : Int32} : mc_D yX6_copy cX6_copy 8 (some .int) 4 [.ref 0, .int (nI k), .int i, .int (nI p), .int j, .int g] (WW s a q u c h m b n d z) (some (.int (xcy1 s k p i j g))) (WW s (xcya s a k p i j g) q u c h m b n d z) := by
  refine mc_start (own := RX6) (ini := false) rfl (by decide +kernel) (fun h => by cases h) (Nat.le_of_ble_eq_true rfl) ?_
  show mc_E _ _ _ _ _ [some (.ref 0), some (.int (nI k)), some (.int i), some (.int (nI p)), some (.int j), some (.int g), none, none] [] _ _ _
  refine e_iloadn (pc := 0) dX6_copy_0 rfl ?_
  refine e_csD (pc := 1) (sp_isSheet) dX6_copy_1 kX6_289 rfl rfl (mc_CR_of (Nat.le_of_ble_eq_true rfl) (Nat.le_of_ble_eq_true rfl) (Nat.le_refl _) (Nat.le_refl _)) (Nat.le_of_ble_eq_true rfl) ?_
  refine e_if_eq (pc := 4) dX6_copy_4 (t := 14) (by decide) (fun c_4 => absurd c_4 (mc_b1.mpr (wi_nk hk))) (fun _ => ?_)
  refine e_iloadn (pc := 7) dX6_copy_7 rfl ?_
  refine e_csD (pc := 8) (sp_isSheet) dX6_copy_8 kX6_289 rfl rfl (mc_CR_of (Nat.le_of_ble_eq_true rfl) (Nat.le_of_ble_eq_true rfl) (Nat.le_refl _) (Nat.le_refl _)) (Nat.le_of_ble_eq_true rfl) ?_
  refine e_if_ne (pc := 11) dX6_copy_11 (t := 17) (by decide) (fun _ => ?_) (fun c_11 => absurd c_11 (mc_b1.mpr (wi_nk hp)))
  refine e_aloadn (pc := 17) dX6_copy_17 rfl ?_
  refine e_iloadn (pc := 18) dX6_copy_18 rfl ?_
  refine e_cvD (pc := 19) (sp_x_sheetAt hk) dX6_copy_19 kX6_171 rfl rfl rfl rfl rfl (mc_CR_of (Nat.le_of_ble_eq_true rfl) (Nat.le_of_ble_eq_true rfl) (Nat.le_refl _) (Nat.le_refl _)) (Nat.le_of_ble_eq_true rfl) ?_
  refine e_asw6 (pc := 22) dX6_copy_22 (Nat.le_of_ble_eq_true rfl) rfl ?_
  refine e_aloadn (pc := 24) dX6_copy_24 rfl ?_
  refine e_iloadn (pc := 25) dX6_copy_25 rfl ?_
  refine e_cvD (pc := 26) (sp_x_sheetAt hp) dX6_copy_26 kX6_171 rfl rfl rfl rfl rfl (mc_CR_of (Nat.le_of_ble_eq_true rfl) (Nat.le_of_ble_eq_true rfl) (Nat.le_refl _) (Nat.le_refl _)) (Nat.le_of_ble_eq_true rfl) ?_
  refine e_asw7 (pc := 29) dX6_copy_29 (Nat.le_of_ble_eq_true rfl) rfl ?_
  refine e_aload (pc := 31) dX6_copy_31 rfl ?_
  refine e_cvD (pc := 33) (sp_x_missing hk) dX6_copy_33 kX6_332 (WW_sh hk) rfl rfl rfl rfl (mc_CR_of (Nat.le_of_ble_eq_true rfl) (Nat.le_of_ble_eq_true rfl) (Nat.le_refl _) (Nat.le_refl _)) (Nat.le_of_ble_eq_true rfl) ?_
  refine e_if_ne (pc := 36) dX6_copy_36 (t := 47) (by decide) (fun c_36 => ?_) (fun c_36 => ?_)
  · skip
    refine e_bipush (v := -11) (pc := 47) dX6_copy_47 (by decide) ?_
    exact e_iret (pc := 49) dX6_copy_49 rfl (Nat.le_refl _) (Nat.le_refl _) (have e : xcyr s k p i j g = -11 := (by unfold xcyr; rw [if_pos (show xmis s k = true from mc_b1.mp c_36)]); ⟨by rw [(xcy_no (a := a) e (by decide)).1], by rw [(xcy_no (a := a) e (by decide)).2]⟩)
  · skip
    refine e_aload (pc := 39) dX6_copy_39 rfl ?_
    refine e_cvD (pc := 41) (sp_x_missing hp) dX6_copy_41 kX6_332 (WW_sh hp) rfl rfl rfl rfl (mc_CR_of (Nat.le_of_ble_eq_true rfl) (Nat.le_of_ble_eq_true rfl) (Nat.le_refl _) (Nat.le_refl _)) (Nat.le_of_ble_eq_true rfl) ?_
    refine e_if_eq (pc := 44) dX6_copy_44 (t := 50) (by decide) (fun c_44 => ?_) (fun c_44 => ?_)
    · skip
      refine e_aload (pc := 50) dX6_copy_50 rfl ?_
      refine e_cvD (pc := 52) (sp_x_sort hk) dX6_copy_52 kX6_335 (WW_sh hk) rfl rfl rfl rfl (mc_CR_of (Nat.le_of_ble_eq_true rfl) (Nat.le_of_ble_eq_true rfl) (Nat.le_refl _) (Nat.le_refl _)) (Nat.le_of_ble_eq_true rfl) ?_
      refine e_aload (pc := 55) dX6_copy_55 rfl ?_
      refine e_cvD (pc := 57) (sp_x_sort hp) dX6_copy_57 kX6_335 (WW_sh hp) rfl rfl rfl rfl (mc_CR_of (Nat.le_of_ble_eq_true rfl) (Nat.le_of_ble_eq_true rfl) (Nat.le_refl _) (Nat.le_refl _)) (Nat.le_of_ble_eq_true rfl) ?_
      refine e_icmp_eq (pc := 60) dX6_copy_60 (t := 66) (by decide) (fun c_60 => ?_) (fun c_60 => ?_)
      · skip
        refine e_aload (pc := 66) dX6_copy_66 rfl ?_
        refine e_iloadn (pc := 68) dX6_copy_68 rfl ?_
        refine e_iload (pc := 69) dX6_copy_69 rfl ?_
        refine e_cvD (pc := 71) (sp_x_hasRun hk) dX6_copy_71 kX6_338 (WW_sh hk) rfl rfl rfl rfl (mc_CR_of (Nat.le_of_ble_eq_true rfl) (Nat.le_of_ble_eq_true rfl) (Nat.le_refl _) (Nat.le_refl _)) (Nat.le_of_ble_eq_true rfl) ?_
        refine e_if_eq (pc := 74) dX6_copy_74 (t := 89) (by decide) (fun c_74 => ?_) (fun c_74 => ?_)
        · skip
          refine e_bipush (v := -12) (pc := 89) dX6_copy_89 (by decide) ?_
          exact e_iret (pc := 91) dX6_copy_91 rfl (Nat.le_refl _) (Nat.le_refl _) (have e : xcyr s k p i j g = -12 := (by unfold xcyr; rw [if_neg (show ¬ xmis s k = true by rw [show xmis s k = false from mc_b0.mp c_36]; decide), if_neg (show ¬ xmis s p = true by rw [show xmis s p = false from mc_b0.mp c_44]; decide), if_neg (show ¬ ¬ s (11 + 2 * k) = s (11 + 2 * p) from fun q => q c_60), if_pos (mc_b0.mp c_74)]); ⟨by rw [(xcy_no (a := a) e (by decide)).1], by rw [(xcy_no (a := a) e (by decide)).2]⟩)
        · skip
          refine e_aload (pc := 77) dX6_copy_77 rfl ?_
          refine e_iload (pc := 79) dX6_copy_79 rfl ?_
          refine e_iload (pc := 81) dX6_copy_81 rfl ?_
          refine e_cvD (pc := 83) (sp_x_hasRun hp) dX6_copy_83 kX6_338 (WW_sh hp) rfl rfl rfl rfl (mc_CR_of (Nat.le_of_ble_eq_true rfl) (Nat.le_of_ble_eq_true rfl) (Nat.le_refl _) (Nat.le_refl _)) (Nat.le_of_ble_eq_true rfl) ?_
          refine e_if_ne (pc := 86) dX6_copy_86 (t := 92) (by decide) (fun c_86 => ?_) (fun c_86 => ?_)
          · skip
            refine e_aload (pc := 92) dX6_copy_92 rfl ?_
            refine e_aload (pc := 94) dX6_copy_94 rfl ?_
            refine e_iloadn (pc := 96) dX6_copy_96 rfl ?_
            refine e_iload (pc := 97) dX6_copy_97 rfl ?_
            refine e_iload (pc := 99) dX6_copy_99 rfl ?_
            refine e_cvU (pc := 101) (sp_x_copyTo hk hp hL hS (mc_b1.mp c_74) (mc_b1.mp c_86)) dX6_copy_101 kX6_341 (WW_sh hk) rfl rfl rfl rfl (mc_CR_of (Nat.le_of_ble_eq_true rfl) (Nat.le_of_ble_eq_true rfl) (Nat.le_refl _) (Nat.le_refl _)) (Nat.le_of_ble_eq_true rfl) ?_
            refine e_iload (pc := 104) dX6_copy_104 rfl ?_
            exact e_iret (pc := 106) dX6_copy_106 rfl (Nat.le_refl _) (Nat.le_refl _) (have e : xcyr s k p i j g = 0 := (by unfold xcyr; rw [if_neg (show ¬ xmis s k = true by rw [show xmis s k = false from mc_b0.mp c_36]; decide), if_neg (show ¬ xmis s p = true by rw [show xmis s p = false from mc_b0.mp c_44]; decide), if_neg (show ¬ ¬ s (11 + 2 * k) = s (11 + 2 * p) from fun q => q c_60), if_neg (show ¬ xrun i g (s (12 + 2 * k)) = false by rw [mc_b1.mp c_74]; decide), if_neg (show ¬ xrun j g (s (12 + 2 * p)) = false by rw [mc_b1.mp c_86]; decide)]); ⟨by unfold xcy1; rw [if_pos e], by unfold xcya; rw [if_pos e]⟩)
          · skip
            refine e_bipush (v := -12) (pc := 89) dX6_copy_89 (by decide) ?_
            exact e_iret (pc := 91) dX6_copy_91 rfl (Nat.le_refl _) (Nat.le_refl _) (have e : xcyr s k p i j g = -12 := (by unfold xcyr; rw [if_neg (show ¬ xmis s k = true by rw [show xmis s k = false from mc_b0.mp c_36]; decide), if_neg (show ¬ xmis s p = true by rw [show xmis s p = false from mc_b0.mp c_44]; decide), if_neg (show ¬ ¬ s (11 + 2 * k) = s (11 + 2 * p) from fun q => q c_60), if_neg (show ¬ xrun i g (s (12 + 2 * k)) = false by rw [mc_b1.mp c_74]; decide), if_pos (mc_b0.mp c_86)]); ⟨by rw [(xcy_no (a := a) e (by decide)).1], by rw [(xcy_no (a := a) e (by decide)).2]⟩)
      · skip
        refine e_bipush (v := -13) (pc := 63) dX6_copy_63 (by decide) ?_
        exact e_iret (pc := 65) dX6_copy_65 rfl (Nat.le_refl _) (Nat.le_refl _) (have e : xcyr s k p i j g = -13 := (by unfold xcyr; rw [if_neg (show ¬ xmis s k = true by rw [show xmis s k = false from mc_b0.mp c_36]; decide), if_neg (show ¬ xmis s p = true by rw [show xmis s p = false from mc_b0.mp c_44]; decide), if_pos (show ¬ s (11 + 2 * k) = s (11 + 2 * p) from c_60)]); ⟨by rw [(xcy_no (a := a) e (by decide)).1], by rw [(xcy_no (a := a) e (by decide)).2]⟩)
    · skip
      refine e_bipush (v := -11) (pc := 47) dX6_copy_47 (by decide) ?_
      exact e_iret (pc := 49) dX6_copy_49 rfl (Nat.le_refl _) (Nat.le_refl _) (have e : xcyr s k p i j g = -11 := (by unfold xcyr; rw [if_neg (show ¬ xmis s k = true by rw [show xmis s k = false from mc_b0.mp c_36]; decide), if_pos (show xmis s p = true from mc_b1.mp c_44)]); ⟨by rw [(xcy_no (a := a) e (by decide)).1], by rw [(xcy_no (a := a) e (by decide)).2]⟩)
theorem sp_x_copy0 {s u m n : Nat → Int32} {a c b d : Nat → List Int32} {q : List (Option Nat)} {h : Nat} {z : mc_W} {x0 x1 i j g : Int32} (hv : (mc_wi x0 0 3 && mc_wi x1 0 3) = false) : mc_D yX6_copy cX6_copy 8 (some .int) 3 [.ref 0, .int x0, .int i, .int x1, .int j, .int g] (WW s a q u c h m b n d z) (some (.int (-2))) (WW s a q u c h m b n d z) := by
  refine mc_start (own := RX6) (ini := false) rfl (by decide +kernel) (fun h => by cases h) (Nat.le_of_ble_eq_true rfl) ?_
  show mc_E _ _ _ _ _ [some (.ref 0), some (.int x0), some (.int i), some (.int x1), some (.int j), some (.int g), none, none] [] _ _ _
  refine e_iloadn (pc := 0) dX6_copy_0 rfl ?_
  refine e_csD (pc := 1) (sp_isSheet) dX6_copy_1 kX6_289 rfl rfl (mc_CR_of (Nat.le_of_ble_eq_true rfl) (Nat.le_of_ble_eq_true rfl) (Nat.le_refl _) (Nat.le_refl _)) (Nat.le_of_ble_eq_true rfl) ?_
  refine e_if_eq (pc := 4) dX6_copy_4 (t := 14) (by decide) (fun c_4 => ?_) (fun c_4 => ?_)
  · skip
    refine e_bipush (v := -2) (pc := 14) dX6_copy_14 (by decide) ?_
    exact e_iret (pc := 16) dX6_copy_16 rfl (Nat.le_refl _) (Nat.le_refl _) ⟨rfl, rfl⟩
  · skip
    refine e_iloadn (pc := 7) dX6_copy_7 rfl ?_
    refine e_csD (pc := 8) (sp_isSheet) dX6_copy_8 kX6_289 rfl rfl (mc_CR_of (Nat.le_of_ble_eq_true rfl) (Nat.le_of_ble_eq_true rfl) (Nat.le_refl _) (Nat.le_refl _)) (Nat.le_of_ble_eq_true rfl) ?_
    refine e_if_ne (pc := 11) dX6_copy_11 (t := 17) (by decide) (fun c_11 => ?_) (fun c_11 => ?_)
    · skip
      simp only [mc_b0, mc_b1, Bool.not_eq_false] at *
      simp_all
    · skip
      refine e_bipush (v := -2) (pc := 14) dX6_copy_14 (by decide) ?_
      exact e_iret (pc := 16) dX6_copy_16 rfl (Nat.le_refl _) (Nat.le_refl _) ⟨rfl, rfl⟩
theorem ckm_o {s : Nat → Int32} {k mo : Int32} {i : Nat} (h : i ≠ 2) : yy_ckm s k mo i = s i := by
  unfold yy_ckm
  split
  · exact upn h
  · rfl
theorem ckb_o {s : Nat → Int32} {a : Nat → List Int32} {k mo : Int32} {i : Nat} (h0 : i ≠ 0) (h1 : i ≠ 1) : yy_ckb s a k mo i = a i := by
  unfold yy_ckb
  split
  · rw [upn h1, upn h0]
  · rfl
theorem ckb_len {s : Nat → Int32} {a : Nat → List Int32} {k mo : Int32} (h : xL a) : xL (yy_ckb s a k mo) := by
  obtain ⟨l0, l1, l2, l3, l4, l5⟩ := h
  refine ⟨?_, ?_, ?_, ?_, ?_, fun p hp => ?_⟩
  · unfold yy_ckb; split
    · show ((a 0).set _ _).length = 5; rw [List.length_set]; exact l0
    · exact l0
  · unfold yy_ckb; split
    · show ((a 1).set _ _).length = 5; rw [List.length_set]; exact l1
    · exact l1
  · rw [ckb_o (by omega) (by omega)]; exact l2
  · rw [ckb_o (by omega) (by omega)]; exact l3
  · rw [ckb_o (by omega) (by omega)]; exact l4
  · rw [ckb_o (by omega) (by omega)]; exact l5 p hp
def xpl (fr : Int32) (i : Nat) : Int32 := fr + 2 * nI i
def xcb (k : Nat) (fr : Int32) : Nat → Nat → Int32 → (Nat → Int32) → (Nat → List Int32) → Int32 × (Nat → Int32) × (Nat → List Int32)
  | 0, _, S, s, a => (S, s, a)
  | g + 1, i, S, s, a => if xhas (fr + 2 * nI i) (s (12 + 2 * k)) = false ∨ xhas (fr + 2 * nI i + 1) (s (12 + 2 * k)) = false then (-12, s, a)
      else xcb k fr g (i + 1) (S + (if yy_ck1 s (xat a s k (fr + 2 * nI i)) (xat a s k (fr + 2 * nI i + 1)) < 0 then 0 else 1)) (yy_ckm s (xat a s k (fr + 2 * nI i)) (xat a s k (fr + 2 * nI i + 1))) (yy_ckb s a (xat a s k (fr + 2 * nI i)) (xat a s k (fr + 2 * nI i + 1)))
def xcby (s : Nat → Int32) (a : Nat → List Int32) (k : Nat) (so fr n : Int32) : Int32 × (Nat → Int32) × (Nat → List Int32) :=
  if (mc_wi so 0 2 && mc_wi n 0 5) = false then (-2, s, a) else if xmis s k = true then (-11, s, a) else if ¬ s (11 + 2 * k) = so then (-13, s, a) else xcb k fr n.toNatClampNeg 0 0 s a
theorem lp_x_cb {u m n : Nat → Int32} {c b d : Nat → List Int32} {q : List (Option Nat)} {h : Nat} {z : mc_W} {k N : Nat} {so fr : Int32} {V : Int32 × (Nat → Int32) × (Nat → List Int32)} (hk : k < 4) (hN : N ≤ 5) :
    ∀ (f i : Nat) (S : Int32) (s : Nat → Int32) (a : Nat → List Int32) (x8 : Option Value), xL a → yC s → i + f = N → xcb k fr f i S s a = V →
      mc_E RX6 cX6_clerksBy 9 (mc_JM (some .int) false 5 0 0 (fun r' w' => r' = some (.int V.1) ∧ w' = (WW V.2.1 V.2.2 q u c h m b n d z))) 65 [some (.ref 0), some (.int (nI k)), some (.int so), some (.int fr), some (.int (nI N)), some (.ref (21 + 2 * k)), some (.int S), some (.int (nI i)), x8] [] (WW s a q u c h m b n d z) 0 0 := by
  intro f
  induction f with
  | zero =>
    intro i S s a x8 hL hC hi hV
    have e : i = N := by omega
    subst e
    simp only [xcb] at hV
    subst hV
    refine e_iload (pc := 65) dX6_clerksBy_65 rfl ?_
    refine e_iload (pc := 67) dX6_clerksBy_67 rfl ?_
    refine e_icmp_ge (pc := 69) dX6_clerksBy_69 (t := 137) (by decide) (fun _ => ?_) (fun c_69 => absurd (nI_le (Nat.le_refl _) (by omega)) c_69)
    refine e_iload (pc := 137) dX6_clerksBy_137 rfl ?_
    exact e_iret (pc := 139) dX6_clerksBy_139 rfl (Nat.le_refl _) (Nat.le_refl _) ⟨rfl, rfl⟩
  | succ f ih =>
    intro i S s a x8 hL hC hi hV
    simp only [xcb] at hV
    refine e_iload (pc := 65) dX6_clerksBy_65 rfl ?_
    refine e_iload (pc := 67) dX6_clerksBy_67 rfl ?_
    refine e_icmp_ge (pc := 69) dX6_clerksBy_69 (t := 137) (by decide) (fun c_69 => absurd c_69 (nI_ge (by omega) (by omega))) (fun _ => ?_)
    refine e_iloadn (pc := 72) dX6_clerksBy_72 rfl ?_
    refine e_iconst (v := 2) (pc := 73) dX6_clerksBy_73 (by decide) ?_
    refine e_iload (pc := 74) dX6_clerksBy_74 rfl ?_
    refine e_imul (pc := 76) dX6_clerksBy_76 ?_
    refine e_iadd (pc := 77) dX6_clerksBy_77 ?_
    refine e_isw8 (pc := 78) dX6_clerksBy_78 (Nat.le_of_ble_eq_true rfl) rfl ?_
    refine e_aload (pc := 80) dX6_clerksBy_80 rfl ?_
    refine e_iload (pc := 82) dX6_clerksBy_82 rfl ?_
    refine e_cvD (pc := 84) (sp_x_has hk hL) dX6_clerksBy_84 kX6_329 (WW_sh hk) rfl rfl rfl rfl (mc_CR_of (Nat.le_of_ble_eq_true rfl) (Nat.le_of_ble_eq_true rfl) (Nat.le_refl _) (Nat.le_refl _)) (Nat.le_of_ble_eq_true rfl) ?_
    refine e_if_eq (pc := 87) dX6_clerksBy_87 (t := 102) (by decide) (fun c_87 => ?_) (fun c_87 => ?_)
    · skip
      refine e_bipush (v := -12) (pc := 102) dX6_clerksBy_102 (by decide) ?_
      exact e_iret (pc := 104) dX6_clerksBy_104 rfl (Nat.le_refl _) (Nat.le_refl _) ⟨by rw [← hV, if_pos (Or.inl (mc_b0.mp c_87))], by rw [← hV, if_pos (Or.inl (mc_b0.mp c_87))]⟩
    · skip
      refine e_aload (pc := 90) dX6_clerksBy_90 rfl ?_
      refine e_iload (pc := 92) dX6_clerksBy_92 rfl ?_
      refine e_iconst (v := 1) (pc := 94) dX6_clerksBy_94 (by decide) ?_
      refine e_iadd (pc := 95) dX6_clerksBy_95 ?_
      refine e_cvD (pc := 96) (sp_x_has hk hL) dX6_clerksBy_96 kX6_329 (WW_sh hk) rfl rfl rfl rfl (mc_CR_of (Nat.le_of_ble_eq_true rfl) (Nat.le_of_ble_eq_true rfl) (Nat.le_refl _) (Nat.le_refl _)) (Nat.le_of_ble_eq_true rfl) ?_
      refine e_if_ne (pc := 99) dX6_clerksBy_99 (t := 105) (by decide) (fun c_99 => ?_) (fun c_99 => ?_)
      · skip
        refine e_aloadn (pc := 105) dX6_clerksBy_105 rfl ?_
        refine e_aload (pc := 106) dX6_clerksBy_106 rfl ?_
        refine e_iload (pc := 108) dX6_clerksBy_108 rfl ?_
        refine e_cvD (pc := 110) (sp_x_at hk hL) dX6_clerksBy_110 kX6_199 (WW_sh hk) rfl rfl rfl rfl (mc_CR_of (Nat.le_of_ble_eq_true rfl) (Nat.le_of_ble_eq_true rfl) (Nat.le_refl _) (Nat.le_refl _)) (Nat.le_of_ble_eq_true rfl) ?_
        refine e_aload (pc := 113) dX6_clerksBy_113 rfl ?_
        refine e_iload (pc := 115) dX6_clerksBy_115 rfl ?_
        refine e_iconst (v := 1) (pc := 117) dX6_clerksBy_117 (by decide) ?_
        refine e_iadd (pc := 118) dX6_clerksBy_118 ?_
        refine e_cvD (pc := 119) (sp_x_at hk hL) dX6_clerksBy_119 kX6_199 (WW_sh hk) rfl rfl rfl rfl (mc_CR_of (Nat.le_of_ble_eq_true rfl) (Nat.le_of_ble_eq_true rfl) (Nat.le_refl _) (Nat.le_refl _)) (Nat.le_of_ble_eq_true rfl) ?_
        refine e_cvD (pc := 122) (sp_x_clerk hL hC) dX6_clerksBy_122 kX6_345 rfl rfl rfl rfl rfl (mc_CR_of (Nat.le_of_ble_eq_true rfl) (Nat.le_of_ble_eq_true rfl) (Nat.le_refl _) (Nat.le_refl _)) (Nat.le_of_ble_eq_true rfl) ?_
        refine e_if_lt (pc := 125) dX6_clerksBy_125 (t := 131) (by decide) (fun c_125 => ?_) (fun c_125 => ?_)
        · skip
          refine e_incC7 (pc := 131) dX6_clerksBy_131 (nI_1 i) (Nat.le_of_ble_eq_true rfl) rfl ?_
          refine e_goto (pc := 134) dX6_clerksBy_134 (t := 65) (by decide) ?_
          exact ih (i + 1) S _ _ _ (ckb_len hL) (yC_ck hC) (by omega) (by rw [← hV, if_neg (fun q => q.elim (fun r => absurd (mc_b1.mp c_87) (by rw [r]; decide)) (fun r => absurd (mc_b1.mp c_99) (by rw [r]; decide))), if_pos c_125, Int32.add_zero])
        · skip
          refine e_incC6 (pc := 128) dX6_clerksBy_128 (show S + Int32.ofInt 1 = S + 1 from rfl) (Nat.le_of_ble_eq_true rfl) rfl ?_
          refine e_incC7 (pc := 131) dX6_clerksBy_131 (nI_1 i) (Nat.le_of_ble_eq_true rfl) rfl ?_
          refine e_goto (pc := 134) dX6_clerksBy_134 (t := 65) (by decide) ?_
          exact ih (i + 1) (S + 1) _ _ _ (ckb_len hL) (yC_ck hC) (by omega) (by rw [← hV, if_neg (fun q => q.elim (fun r => absurd (mc_b1.mp c_87) (by rw [r]; decide)) (fun r => absurd (mc_b1.mp c_99) (by rw [r]; decide))), if_neg c_125])
      · skip
        refine e_bipush (v := -12) (pc := 102) dX6_clerksBy_102 (by decide) ?_
        exact e_iret (pc := 104) dX6_clerksBy_104 rfl (Nat.le_refl _) (Nat.le_refl _) ⟨by rw [← hV, if_pos (Or.inr (mc_b0.mp c_99))], by rw [← hV, if_pos (Or.inr (mc_b0.mp c_99))]⟩
theorem sp_x_clerksBy {s u m n : Nat → Int32} {a c b d : Nat → List Int32} {q : List (Option Nat)} {h : Nat} {z : mc_W} {k : Nat} (hk : k < 4) (hL : xL a) (hC : yC s) {so fr g : Int32} : mc_D yX6_clerksBy cX6_clerksBy 9 (some .int) 5 [.ref 0, .int (nI k), .int so, .int fr, .int g] (WW s a q u c h m b n d z) (some (.int (xcby s a k so fr g).1)) (WW (xcby s a k so fr g).2.1 (xcby s a k so fr g).2.2 q u c h m b n d z) := by
  refine mc_start (own := RX6) (ini := false) rfl (by decide +kernel) (fun h => by cases h) (Nat.le_of_ble_eq_true rfl) ?_
  show mc_E _ _ _ _ _ [some (.ref 0), some (.int (nI k)), some (.int so), some (.int fr), some (.int g), none, none, none, none] [] _ _ _
  refine e_iloadn (pc := 0) dX6_clerksBy_0 rfl ?_
  refine e_csD (pc := 1) (sp_isSheet) dX6_clerksBy_1 kX6_289 rfl rfl (mc_CR_of (Nat.le_of_ble_eq_true rfl) (Nat.le_of_ble_eq_true rfl) (Nat.le_refl _) (Nat.le_refl _)) (Nat.le_of_ble_eq_true rfl) ?_
  refine e_if_eq (pc := 4) dX6_clerksBy_4 (t := 26) (by decide) (fun c_4 => absurd c_4 (mc_b1.mpr (wi_nk hk))) (fun _ => ?_)
  refine e_iloadn (pc := 7) dX6_clerksBy_7 rfl ?_
  refine e_iconst (v := 0) (pc := 8) dX6_clerksBy_8 (by decide) ?_
  refine e_iconst (v := 2) (pc := 9) dX6_clerksBy_9 (by decide) ?_
  refine e_csD (pc := 10) (sp_isWithin) dX6_clerksBy_10 kX6_86 rfl rfl (mc_CR_of (Nat.le_of_ble_eq_true rfl) (Nat.le_of_ble_eq_true rfl) (Nat.le_refl _) (Nat.le_refl _)) (Nat.le_of_ble_eq_true rfl) ?_
  refine e_if_eq (pc := 13) dX6_clerksBy_13 (t := 26) (by decide) (fun c_13 => ?_) (fun c_13 => ?_)
  · skip
    refine e_bipush (v := -2) (pc := 26) dX6_clerksBy_26 (by decide) ?_
    exact e_iret (pc := 28) dX6_clerksBy_28 rfl (Nat.le_refl _) (Nat.le_refl _) (have e : xcby s a k so fr g = (-2, s, a) := (by unfold xcby; rw [if_pos (by rw [mc_b0.mp c_13]; simp)]); ⟨by rw [e], by rw [e]⟩)
  · skip
    refine e_iload (pc := 16) dX6_clerksBy_16 rfl ?_
    refine e_iconst (v := 0) (pc := 18) dX6_clerksBy_18 (by decide) ?_
    refine e_iconst (v := 5) (pc := 19) dX6_clerksBy_19 (by decide) ?_
    refine e_csD (pc := 20) (sp_isWithin) dX6_clerksBy_20 kX6_86 rfl rfl (mc_CR_of (Nat.le_of_ble_eq_true rfl) (Nat.le_of_ble_eq_true rfl) (Nat.le_refl _) (Nat.le_refl _)) (Nat.le_of_ble_eq_true rfl) ?_
    refine e_if_ne (pc := 23) dX6_clerksBy_23 (t := 29) (by decide) (fun c_23 => ?_) (fun c_23 => ?_)
    · skip
      refine e_aloadn (pc := 29) dX6_clerksBy_29 rfl ?_
      refine e_iloadn (pc := 30) dX6_clerksBy_30 rfl ?_
      refine e_cvD (pc := 31) (sp_x_sheetAt hk) dX6_clerksBy_31 kX6_171 rfl rfl rfl rfl rfl (mc_CR_of (Nat.le_of_ble_eq_true rfl) (Nat.le_of_ble_eq_true rfl) (Nat.le_refl _) (Nat.le_refl _)) (Nat.le_of_ble_eq_true rfl) ?_
      refine e_asw5 (pc := 34) dX6_clerksBy_34 (Nat.le_of_ble_eq_true rfl) rfl ?_
      refine e_aload (pc := 36) dX6_clerksBy_36 rfl ?_
      refine e_cvD (pc := 38) (sp_x_missing hk) dX6_clerksBy_38 kX6_332 (WW_sh hk) rfl rfl rfl rfl (mc_CR_of (Nat.le_of_ble_eq_true rfl) (Nat.le_of_ble_eq_true rfl) (Nat.le_refl _) (Nat.le_refl _)) (Nat.le_of_ble_eq_true rfl) ?_
      refine e_if_eq (pc := 41) dX6_clerksBy_41 (t := 47) (by decide) (fun c_41 => ?_) (fun c_41 => ?_)
      · skip
        refine e_aload (pc := 47) dX6_clerksBy_47 rfl ?_
        refine e_cvD (pc := 49) (sp_x_sort hk) dX6_clerksBy_49 kX6_335 (WW_sh hk) rfl rfl rfl rfl (mc_CR_of (Nat.le_of_ble_eq_true rfl) (Nat.le_of_ble_eq_true rfl) (Nat.le_refl _) (Nat.le_refl _)) (Nat.le_of_ble_eq_true rfl) ?_
        refine e_iloadn (pc := 52) dX6_clerksBy_52 rfl ?_
        refine e_icmp_eq (pc := 53) dX6_clerksBy_53 (t := 59) (by decide) (fun c_53 => ?_) (fun c_53 => ?_)
        · skip
          refine e_iconst (v := 0) (pc := 59) dX6_clerksBy_59 (by decide) ?_
          refine e_isw6 (pc := 60) dX6_clerksBy_60 (Nat.le_of_ble_eq_true rfl) rfl ?_
          refine e_iconst (v := 0) (pc := 62) dX6_clerksBy_62 (by decide) ?_
          refine e_isw7 (pc := 63) dX6_clerksBy_63 (Nat.le_of_ble_eq_true rfl) rfl ?_
          have q1 : mc_wi so 0 2 = true := by simpa [mc_b0] using c_13
          have q2 := mc_b1.mp c_23
          have e : xcby s a k so fr g = xcb k fr g.toNatClampNeg 0 0 s a := by unfold xcby; rw [if_neg (show ¬ (mc_wi so 0 2 && mc_wi g 0 5) = false by rw [q1, q2]; decide), if_neg (show ¬ xmis s k = true by rw [show xmis s k = false from mc_b0.mp c_41]; decide), if_neg (show ¬ ¬ s (11 + 2 * k) = so from fun q => q c_53)]
          rw [e]
          have hb := mc_wi_iff.mp q2
          rw [i0, show (5 : Int32).toInt = 5 from rfl] at hb
          obtain ⟨N, hN⟩ : ∃ N, g.toNatClampNeg = N := ⟨_, rfl⟩
          have t := tnc hb.1
          have ey : g = nI N := by rw [← hN]; exact nI_back hb.1
          rw [hN]
          clear e
          subst ey
          exact lp_x_cb hk (by omega) N 0 0 s a _ hL hC (by omega) rfl
        · skip
          refine e_bipush (v := -13) (pc := 56) dX6_clerksBy_56 (by decide) ?_
          exact e_iret (pc := 58) dX6_clerksBy_58 rfl (Nat.le_refl _) (Nat.le_refl _) (have e : xcby s a k so fr g = (-13, s, a) := (by unfold xcby; rw [if_neg (show ¬ (mc_wi so 0 2 && mc_wi g 0 5) = false by simp only [mc_b0, mc_b1, Bool.not_eq_false] at *; simp_all), if_neg (show ¬ xmis s k = true by rw [show xmis s k = false from mc_b0.mp c_41]; decide), if_pos (show ¬ s (11 + 2 * k) = so from c_53)]); ⟨by rw [e], by rw [e]⟩)
      · skip
        refine e_bipush (v := -11) (pc := 44) dX6_clerksBy_44 (by decide) ?_
        exact e_iret (pc := 46) dX6_clerksBy_46 rfl (Nat.le_refl _) (Nat.le_refl _) (have e : xcby s a k so fr g = (-11, s, a) := (by unfold xcby; rw [if_neg (show ¬ (mc_wi so 0 2 && mc_wi g 0 5) = false by simp only [mc_b0, mc_b1, Bool.not_eq_false] at *; simp_all), if_pos (show xmis s k = true from mc_b1.mp c_41)]); ⟨by rw [e], by rw [e]⟩)
    · skip
      refine e_bipush (v := -2) (pc := 26) dX6_clerksBy_26 (by decide) ?_
      exact e_iret (pc := 28) dX6_clerksBy_28 rfl (Nat.le_refl _) (Nat.le_refl _) (have e : xcby s a k so fr g = (-2, s, a) := (by unfold xcby; rw [if_pos (by rw [mc_b0.mp c_23]; simp)]); ⟨by rw [e], by rw [e]⟩)
theorem sp_x_clerksBy0 {s u m n : Nat → Int32} {a c b d : Nat → List Int32} {q : List (Option Nat)} {h : Nat} {z : mc_W} {x0 so fr g : Int32} (hv : mc_wi x0 0 3 = false) : mc_D yX6_clerksBy cX6_clerksBy 9 (some .int) 3 [.ref 0, .int x0, .int so, .int fr, .int g] (WW s a q u c h m b n d z) (some (.int (-2))) (WW s a q u c h m b n d z) := by
  refine mc_start (own := RX6) (ini := false) rfl (by decide +kernel) (fun h => by cases h) (Nat.le_of_ble_eq_true rfl) ?_
  show mc_E _ _ _ _ _ [some (.ref 0), some (.int x0), some (.int so), some (.int fr), some (.int g), none, none, none, none] [] _ _ _
  refine e_iloadn (pc := 0) dX6_clerksBy_0 rfl ?_
  refine e_csD (pc := 1) (sp_isSheet) dX6_clerksBy_1 kX6_289 rfl rfl (mc_CR_of (Nat.le_of_ble_eq_true rfl) (Nat.le_of_ble_eq_true rfl) (Nat.le_refl _) (Nat.le_refl _)) (Nat.le_of_ble_eq_true rfl) ?_
  refine e_if_eq (pc := 4) dX6_clerksBy_4 (t := 26) (by decide) (fun _ => ?_) (fun c_4 => absurd (by rw [mc_b0.mpr hv]) c_4)
  refine e_bipush (v := -2) (pc := 26) dX6_clerksBy_26 (by decide) ?_
  exact e_iret (pc := 28) dX6_clerksBy_28 rfl (Nat.le_refl _) (Nat.le_refl _) ⟨rfl, rfl⟩
end Zj_6i_x19
section Zj_6j_x20
/-! ===== the texts that stand in the class ===== -/
section Strs
variable {own : String} {cc : ByteArray} {nL : Nat} {J : mc_J} {pc : Nat} {L : List (Option Value)} {st st0 : List Value} {w w1 : mc_W} {kc ks : Nat}
variable {y : MethodName} {c2 : ByteArray} {n2 : Nat} {ret2 : Option FieldType} {d n i j : Nat} {As : List Value} {v : Value}
theorem e_ctD (hS : mc_D y c2 n2 ret2 d (.ref (1000000 + (1 + j)) :: As) w (some v) w1) (hd : decode cc pc = .ok (.invokevirtual i, 3)) (hf : mc_CV own i y c2 n2 ret2 n) (hj : j < 12) (hC : y.cls = "java/lang/String") (hn : As.length = n) (hR : mc_CR J d 0 0 n2 kc ks) (hst : st0 = As.reverse ++ .ref (1000000 + (1 + j)) :: st) (hs : (st.map fun v => v.category).sum ≤ 8)
    (kk : mc_E own cc nL J (pc + 3) L (v :: st) w1 kc ks) : mc_E own cc nL J pc L st0 w kc ks :=
  e_callT hS hd hf hj hC hn hR hst hs (fun r w' h => by obtain ⟨rfl, rfl⟩ := h; exact kk)
end Strs
/-- letter i of word j -/
def wb (j i : Nat) : Int32 := (mc_byt.getD j []).getD i 0
def wl (j : Nat) : Nat := mc_len.getD j 0
theorem wl_le {j : Nat} : wl j ≤ 6 := by
  by_cases h : j < 12
  · exact (by decide : ∀ j, j < 12 → wl j ≤ 6) j h
  · unfold wl; rw [List.getD_eq_getElem?_getD, List.getElem?_eq_none (show mc_len.length ≤ j by simp [mc_len]; omega)]; decide
theorem wl_sh : ∀ j, j < 12 → Int32.ofNat (wl j) >>> ((0 : Int32) &&& 31) = nI (wl j) := by decide
theorem wb_c : ∀ j, j < 12 → ∀ i, i < wl j → ((wb j i &&& 255).toUInt32 % 65536).toInt32 = wb j i := by decide +kernel
theorem sp_s_coder {w : mc_W} {j : Nat} (hj : j < 12) : mc_D yJ0_coder_7d493 cJ0_coder_7d493 1 (some .byte) 1 [.ref (1000000 + (1 + j))] w (some (.int 0)) w := by
  refine mc_start (own := RJ0) (ini := false) rfl (by decide +kernel) (fun h => by cases h) (Nat.le_of_ble_eq_true rfl) ?_
  show mc_E _ _ _ _ _ [some (.ref (1000000 + (1 + j)))] [] _ _ _
  refine e_getsCS (pc := 0) dJ0_coder_7d493_0 sJ0_38 ?_
  refine e_if_eq (pc := 3) dJ0_coder_7d493_3 (t := 13) (by decide) (fun c_3 => absurd c_3 (by decide)) (fun _ => ?_)
  refine e_aloadn (pc := 6) dJ0_coder_7d493_6 rfl ?_
  refine e_getSC (pc := 7) dJ0_coder_7d493_7 hj sJ0_15 ?_
  refine e_goto (pc := 10) dJ0_coder_7d493_10 (t := 14) (by decide) ?_
  exact e_zret (pc := 14) dJ0_coder_7d493_14 rfl (by rfl) (Nat.le_refl _) (Nat.le_refl _) ⟨rfl, rfl⟩
theorem sp_s_latin {w : mc_W} {j : Nat} (hj : j < 12) : mc_D yJ0_isLatin1_aae02 cJ0_isLatin1_aae02 1 (some .boolean) 1 [.ref (1000000 + (1 + j))] w (some (.int 1)) w := by
  refine mc_start (own := RJ0) (ini := false) rfl (by decide +kernel) (fun h => by cases h) (Nat.le_of_ble_eq_true rfl) ?_
  show mc_E _ _ _ _ _ [some (.ref (1000000 + (1 + j)))] [] _ _ _
  refine e_getsCS (pc := 0) dJ0_isLatin1_aae02_0 sJ0_38 ?_
  refine e_if_eq (pc := 3) dJ0_isLatin1_aae02_3 (t := 17) (by decide) (fun c_3 => absurd c_3 (by decide)) (fun _ => ?_)
  refine e_aloadn (pc := 6) dJ0_isLatin1_aae02_6 rfl ?_
  refine e_getSC (pc := 7) dJ0_isLatin1_aae02_7 hj sJ0_15 ?_
  refine e_if_ne (pc := 10) dJ0_isLatin1_aae02_10 (t := 17) (by decide) (fun c_10 => absurd c_10 (by decide)) (fun _ => ?_)
  refine e_iconst (v := 1) (pc := 13) dJ0_isLatin1_aae02_13 (by decide) ?_
  refine e_goto (pc := 14) dJ0_isLatin1_aae02_14 (t := 18) (by decide) ?_
  exact e_zret (pc := 18) dJ0_isLatin1_aae02_18 rfl (by rfl) (Nat.le_refl _) (Nat.le_refl _) ⟨rfl, rfl⟩
theorem sp_s_length {w : mc_W} {j : Nat} (hj : j < 12) : mc_D yJ0_length_8abf5 cJ0_length_8abf5 1 (some .int) 2 [.ref (1000000 + (1 + j))] w (some (.int (nI (wl j)))) w := by
  refine mc_start (own := RJ0) (ini := false) rfl (by decide +kernel) (fun h => by cases h) (Nat.le_of_ble_eq_true rfl) ?_
  show mc_E _ _ _ _ _ [some (.ref (1000000 + (1 + j)))] [] _ _ _
  refine e_aloadn (pc := 0) dJ0_length_8abf5_0 rfl ?_
  refine e_getSV (pc := 1) dJ0_length_8abf5_1 hj sJ0_9 ?_
  refine e_alenS (pc := 4) dJ0_length_8abf5_4 hj rfl ?_
  refine e_aloadn (pc := 5) dJ0_length_8abf5_5 rfl ?_
  refine e_ctD (pc := 6) (sp_s_coder hj) dJ0_length_8abf5_6 kJ0_335 hj rfl rfl (mc_CR_of (Nat.le_of_ble_eq_true rfl) (Nat.le_of_ble_eq_true rfl) (Nat.le_refl _) (Nat.le_refl _)) rfl (Nat.le_of_ble_eq_true rfl) ?_
  refine e_ishr (pc := 9) dJ0_length_8abf5_9 ?_
  exact e_iret (pc := 10) dJ0_length_8abf5_10 rfl (Nat.le_refl _) (Nat.le_refl _) ⟨by rw [← wl_sh j hj]; rfl, rfl⟩
theorem sp_s_chk31 {w : mc_W} {x y : Int32} (h0 : ¬ x < 0) (h1 : x < y) : mc_D yJ3_checkIndex_8e157 cJ3_checkIndex_8e157 3 (some .int) 1 [.int x, .int y, .null] w (some (.int x)) w := by
  refine mc_start (own := RJ3) (ini := false) rfl (by decide +kernel) (fun h => by cases h) (Nat.le_of_ble_eq_true rfl) ?_
  show mc_E _ _ _ _ _ [some (.int x), some (.int y), some (.null)] [] _ _ _
  refine e_iloadn (pc := 0) dJ3_checkIndex_8e157_0 rfl ?_
  refine e_if_lt (pc := 1) dJ3_checkIndex_8e157_1 (t := 9) (by decide) (fun c_1 => absurd c_1 h0) (fun _ => ?_)
  refine e_iloadn (pc := 4) dJ3_checkIndex_8e157_4 rfl ?_
  refine e_iloadn (pc := 5) dJ3_checkIndex_8e157_5 rfl ?_
  refine e_icmp_lt (pc := 6) dJ3_checkIndex_8e157_6 (t := 16) (by decide) (fun _ => ?_) (fun c_6 => absurd h1 c_6)
  refine e_iloadn (pc := 16) dJ3_checkIndex_8e157_16 rfl ?_
  exact e_iret (pc := 17) dJ3_checkIndex_8e157_17 rfl (Nat.le_refl _) (Nat.le_refl _) ⟨rfl, rfl⟩
theorem sp_s_chk32 {w : mc_W} {x y : Int32} (h0 : ¬ x < 0) (h1 : x < y) : mc_D yJ3_checkIndex_8e157 cJ3_checkIndex_8e157 3 (some .int) 1 [.int x, .int y, .ref 1000200] w (some (.int x)) w := by
  refine mc_start (own := RJ3) (ini := false) rfl (by decide +kernel) (fun h => by cases h) (Nat.le_of_ble_eq_true rfl) ?_
  show mc_E _ _ _ _ _ [some (.int x), some (.int y), some (.ref 1000200)] [] _ _ _
  refine e_iloadn (pc := 0) dJ3_checkIndex_8e157_0 rfl ?_
  refine e_if_lt (pc := 1) dJ3_checkIndex_8e157_1 (t := 9) (by decide) (fun c_1 => absurd c_1 h0) (fun _ => ?_)
  refine e_iloadn (pc := 4) dJ3_checkIndex_8e157_4 rfl ?_
  refine e_iloadn (pc := 5) dJ3_checkIndex_8e157_5 rfl ?_
  refine e_icmp_lt (pc := 6) dJ3_checkIndex_8e157_6 (t := 16) (by decide) (fun _ => ?_) (fun c_6 => absurd h1 c_6)
  refine e_iloadn (pc := 16) dJ3_checkIndex_8e157_16 rfl ?_
  exact e_iret (pc := 17) dJ3_checkIndex_8e157_17 rfl (Nat.le_refl _) (Nat.le_refl _) ⟨rfl, rfl⟩
theorem sp_s_chk {w : mc_W} {x y : Int32} (h0 : ¬ x < 0) (h1 : x < y) : mc_D yJ0_checkIndex_df160 cJ0_checkIndex_df160 2 none 2 [.int x, .int y] w none w := by
  refine mc_start (own := RJ0) (ini := false) rfl (by decide +kernel) (fun h => by cases h) (Nat.le_of_ble_eq_true rfl) ?_
  show mc_E _ _ _ _ _ [some (.int x), some (.int y)] [] _ _ _
  refine e_iloadn (pc := 0) dJ0_checkIndex_df160_0 rfl ?_
  refine e_iloadn (pc := 1) dJ0_checkIndex_df160_1 rfl ?_
  refine e_getsFM (pc := 2) dJ0_checkIndex_df160_2 sJ0_1053 ?_ ?_
  · skip
    refine e_csD (pc := 5) (sp_s_chk31 h0 h1) dJ0_checkIndex_df160_5 kJ0_1059 rfl rfl (mc_CR_of (Nat.le_of_ble_eq_true rfl) (Nat.le_of_ble_eq_true rfl) (Nat.le_refl _) (Nat.le_refl _)) (Nat.le_of_ble_eq_true rfl) ?_
    refine e_pop (pc := 8) dJ0_checkIndex_df160_8 rfl ?_
    exact e_vret (pc := 9) dJ0_checkIndex_df160_9 rfl (Nat.le_refl _) (Nat.le_refl _) ⟨rfl, rfl⟩
  · skip
    refine e_csD (pc := 5) (sp_s_chk32 h0 h1) dJ0_checkIndex_df160_5 kJ0_1059 rfl rfl (mc_CR_of (Nat.le_of_ble_eq_true rfl) (Nat.le_of_ble_eq_true rfl) (Nat.le_refl _) (Nat.le_refl _)) (Nat.le_of_ble_eq_true rfl) ?_
    refine e_pop (pc := 8) dJ0_checkIndex_df160_8 rfl ?_
    exact e_vret (pc := 9) dJ0_checkIndex_df160_9 rfl (Nat.le_refl _) (Nat.le_refl _) ⟨rfl, rfl⟩
theorem nI_ltL {i L : Nat} (h : i < L) (hL : L < 2 ^ 31) : nI i < nI L := nI_lt h hL
theorem s_nar : ∀ j, j < 12 → ∀ i, i < wl j → narrow .char (.int (wb j i)) = .int (wb j i) := by
  intro j hj i hi
  have h := wb_c j hj i hi
  rcases (show j = 0 ∨ j = 1 ∨ j = 2 ∨ j = 3 ∨ j = 4 ∨ j = 5 ∨ j = 6 ∨ j = 7 ∨ j = 8 ∨ j = 9 ∨ j = 10 ∨ j = 11 by omega) with rfl | rfl | rfl | rfl | rfl | rfl | rfl | rfl | rfl | rfl | rfl | rfl <;>
    (have hw := wl_le (j := 0); have : i < 6 := Nat.lt_of_lt_of_le hi wl_le; rcases (show i = 0 ∨ i = 1 ∨ i = 2 ∨ i = 3 ∨ i = 4 ∨ i = 5 by omega) with rfl | rfl | rfl | rfl | rfl | rfl <;> first | rfl | exact absurd hi (by decide))
theorem sp_s_char1 {w : mc_W} {j : Nat} (hj : j < 12) {i : Nat} (hi : i < wl j) : mc_D yJ1_charAt_3b067 cJ1_charAt_3b067 2 (some .char) 3 [.ref (1000000 + (101 + j)), .int (nI i)] w (some (.int (wb j i))) w := by
  refine mc_start (own := RJ1) (ini := false) rfl (by decide +kernel) (fun h => by cases h) (Nat.le_of_ble_eq_true rfl) ?_
  show mc_E _ _ _ _ _ [some (.ref (1000000 + (101 + j))), some (.int (nI i))] [] _ _ _
  have hw : wl j ≤ 6 := wl_le
  have vi : vp_in (nI i) (mc_len.getD j 0) := vp_in_nI (show i < mc_len.getD j 0 from hi) (by show wl j < 2 ^ 31; omega)
  refine e_iloadn (pc := 0) dJ1_charAt_3b067_0 rfl ?_
  refine e_aloadn (pc := 1) dJ1_charAt_3b067_1 rfl ?_
  refine e_alenS (v := nI (wl j)) (pc := 2) dJ1_charAt_3b067_2 hj rfl ?_
  refine e_csU (pc := 3) (sp_s_chk (fun q => by rw [Int32.lt_iff_toInt_lt, nI_toInt (by omega), show (0 : Int32).toInt = 0 from rfl] at q; omega) (nI_ltL hi (by omega))) dJ1_charAt_3b067_3 kJ1_9 rfl rfl (mc_CR_of (Nat.le_of_ble_eq_true rfl) (Nat.le_of_ble_eq_true rfl) (Nat.le_refl _) (Nat.le_refl _)) (Nat.le_of_ble_eq_true rfl) ?_
  refine e_aloadn (pc := 6) dJ1_charAt_3b067_6 rfl ?_
  refine e_iloadn (pc := 7) dJ1_charAt_3b067_7 rfl ?_
  refine e_baldS (x := wb j i) (pc := 8) dJ1_charAt_3b067_8 hj vi (by rw [nIc (by omega)]; rfl) ?_
  refine e_sipush (v := 255) (pc := 9) dJ1_charAt_3b067_9 (by decide) ?_
  refine e_iand (pc := 12) dJ1_charAt_3b067_12 ?_
  refine e_i2c (pc := 13) dJ1_charAt_3b067_13 ?_
  refine e_top (y := wb j i) (wb_c j hj i hi) ?_
  exact e_zret (pc := 14) dJ1_charAt_3b067_14 rfl (by exact s_nar j hj i hi) (Nat.le_refl _) (Nat.le_refl _) ⟨rfl, rfl⟩
theorem sp_s_charAt {w : mc_W} {j : Nat} (hj : j < 12) {i : Nat} (hi : i < wl j) : mc_D yJ0_charAt_5068e cJ0_charAt_5068e 2 (some .char) 4 [.ref (1000000 + (1 + j)), .int (nI i)] w (some (.int (wb j i))) w := by
  refine mc_start (own := RJ0) (ini := false) rfl (by decide +kernel) (fun h => by cases h) (Nat.le_of_ble_eq_true rfl) ?_
  show mc_E _ _ _ _ _ [some (.ref (1000000 + (1 + j))), some (.int (nI i))] [] _ _ _
  refine e_aloadn (pc := 0) dJ0_charAt_5068e_0 rfl ?_
  refine e_ctD (pc := 1) (sp_s_latin hj) dJ0_charAt_5068e_1 kJ0_492 hj rfl rfl (mc_CR_of (Nat.le_of_ble_eq_true rfl) (Nat.le_of_ble_eq_true rfl) (Nat.le_refl _) (Nat.le_refl _)) rfl (Nat.le_of_ble_eq_true rfl) ?_
  refine e_if_eq (pc := 4) dJ0_charAt_5068e_4 (t := 16) (by decide) (fun c_4 => absurd c_4 (by decide)) (fun _ => ?_)
  refine e_aloadn (pc := 7) dJ0_charAt_5068e_7 rfl ?_
  refine e_getSV (pc := 8) dJ0_charAt_5068e_8 hj sJ0_9 ?_
  refine e_iloadn (pc := 11) dJ0_charAt_5068e_11 rfl ?_
  refine e_csD (pc := 12) (sp_s_char1 hj hi) dJ0_charAt_5068e_12 kJ0_495 rfl rfl (mc_CR_of (Nat.le_of_ble_eq_true rfl) (Nat.le_of_ble_eq_true rfl) (Nat.le_refl _) (Nat.le_refl _)) (Nat.le_of_ble_eq_true rfl) ?_
  exact e_zret (pc := 15) dJ0_charAt_5068e_15 rfl (by exact s_nar j hj i hi) (Nat.le_refl _) (Nat.le_refl _) ⟨rfl, rfl⟩
end Zj_6j_x20
section Zj_6k_x21
/-! ===== what stands next on the tape ===== -/
def xT (a : Nat → List Int32) (i : Nat) : Int32 := (a 2).getD i 0
def xby (T : Nat → Int32) (N p : Nat) : Int32 := if p < N then T p else -1
theorem xi_s {p N : Nat} (hp : p ≤ 200) (hN : N ≤ 160) : (nI N ≤ nI p ↔ ¬ p < N) ∧ (nI p < nI N ↔ p < N) := by
  rw [Int32.le_iff_toInt_le, Int32.lt_iff_toInt_lt, nI_toInt (by omega), nI_toInt (by omega)]
  omega
theorem sp_x_byteAt {s u m n : Nat → Int32} {a c b d : Nat → List Int32} {q : List (Option Nat)} {h : Nat} {z : mc_W} (hL : xL a) {N : Nat} (hN : s 5 = nI N) (hN1 : N ≤ 160) {x : Int32} {p : Nat} (hx : x = nI p) (hp : p ≤ 200) : mc_D yX4_byteAt cX4_byteAt 2 (some .int) 1 [.ref 6, .int x] (WW s a q u c h m b n d z) (some (.int (xby (xT a) N p))) (WW s a q u c h m b n d z) := by
  refine mc_start (own := RX4) (ini := false) rfl (by decide +kernel) (fun h => by cases h) (Nat.le_of_ble_eq_true rfl) ?_
  show mc_E _ _ _ _ _ [some (.ref 6), some (.int x)] [] _ _ _
  subst hx
  have h160 : (a 2).length = 160 := hL.2.2.1
  refine e_iloadn (pc := 0) dX4_byteAt_0 rfl ?_
  refine e_if_lt (pc := 1) dX4_byteAt_1 (t := 30) (by decide) (fun c_1 => absurd c_1 (nI_pos (by omega))) (fun _ => ?_)
  refine e_iloadn (pc := 4) dX4_byteAt_4 rfl ?_
  refine e_aloadn (pc := 5) dX4_byteAt_5 rfl ?_
  refine e_get (pc := 6) dX4_byteAt_6 fX4_18 rfl rfl ?_
  refine e_icmp_ge (pc := 9) dX4_byteAt_9 (t := 30) (by decide) (fun c_9 => ?_) (fun c_9 => ?_)
  · skip
    refine e_iconst (v := -1) (pc := 30) dX4_byteAt_30 (by decide) ?_
    exact e_iret (pc := 31) dX4_byteAt_31 rfl (Nat.le_refl _) (Nat.le_refl _) ⟨by unfold xby; rw [if_neg (show ¬ p < N from (xi_s hp hN1).1.mp (by rw [← hN]; exact c_9))], rfl⟩
  · skip
    refine e_iloadn (pc := 12) dX4_byteAt_12 rfl ?_
    refine e_aloadn (pc := 13) dX4_byteAt_13 rfl ?_
    refine e_get (pc := 14) dX4_byteAt_14 fX4_9 rfl rfl ?_
    refine e_alen (pc := 17) dX4_byteAt_17 rfl (show Int32.ofNat (a 2).length = nI 160 by rw [h160]; rfl) ?_
    refine e_icmp_ge (pc := 18) dX4_byteAt_18 (t := 30) (by decide) (fun c_18 => absurd c_18 (fun q => (xi_s (p := p) (N := 160) hp (by omega)).1.mp q (by have := (xi_s hp hN1).2.mp (by rw [← hN]; exact Int32.not_le.mp c_9); omega))) (fun _ => ?_)
    refine e_aloadn (pc := 21) dX4_byteAt_21 rfl ?_
    refine e_get (pc := 22) dX4_byteAt_22 fX4_9 rfl rfl ?_
    refine e_iloadn (pc := 25) dX4_byteAt_25 rfl ?_
    refine ald_bytes (pc := 26) dX4_byteAt_26 (by rw [h160]; exact vp_in_nI (by have := (xi_s hp hN1).2.mp (by rw [← hN]; exact Int32.not_le.mp c_9); omega) (by decide)) ?_
    refine e_goto (pc := 27) dX4_byteAt_27 (t := 31) (by decide) ?_
    exact e_iret (pc := 31) dX4_byteAt_31 rfl (Nat.le_refl _) (Nat.le_refl _) ⟨by unfold xby; rw [if_pos (show p < N from (xi_s hp hN1).2.mp (by rw [← hN]; exact Int32.not_le.mp c_9)), nIc (by omega)]; rfl, rfl⟩
def xbl (x : Int32) : Bool := x == 32 || x == 10
theorem sp_x_isBlank {w : mc_W} {x : Int32} : mc_D yX4_isBlank cX4_isBlank 1 (some .boolean) 1 [.int x] w (some (.int (mc_b (xbl x)))) w := by
  refine mc_start (own := RX4) (ini := false) rfl (by decide +kernel) (fun h => by cases h) (Nat.le_of_ble_eq_true rfl) ?_
  show mc_E _ _ _ _ _ [some (.int x)] [] _ _ _
  refine e_iloadn (pc := 0) dX4_isBlank_0 rfl ?_
  refine e_bipush (v := 32) (pc := 1) dX4_isBlank_1 (by decide) ?_
  refine e_icmp_eq (pc := 3) dX4_isBlank_3 (t := 12) (by decide) (fun c_3 => ?_) (fun c_3 => ?_)
  · skip
    refine e_iconst (v := 1) (pc := 12) dX4_isBlank_12 (by decide) ?_
    refine e_goto (pc := 13) dX4_isBlank_13 (t := 17) (by decide) ?_
    exact e_zret (pc := 17) dX4_isBlank_17 rfl (by rfl) (Nat.le_refl _) (Nat.le_refl _) ⟨by unfold xbl; simp_all [mc_b], rfl⟩
  · skip
    refine e_iloadn (pc := 6) dX4_isBlank_6 rfl ?_
    refine e_bipush (v := 10) (pc := 7) dX4_isBlank_7 (by decide) ?_
    refine e_icmp_ne (pc := 9) dX4_isBlank_9 (t := 16) (by decide) (fun c_9 => ?_) (fun c_9 => ?_)
    · skip
      refine e_iconst (v := 0) (pc := 16) dX4_isBlank_16 (by decide) ?_
      exact e_zret (pc := 17) dX4_isBlank_17 rfl (by rfl) (Nat.le_refl _) (Nat.le_refl _) ⟨by unfold xbl; simp_all [mc_b], rfl⟩
    · skip
      refine e_iconst (v := 1) (pc := 12) dX4_isBlank_12 (by decide) ?_
      refine e_goto (pc := 13) dX4_isBlank_13 (t := 17) (by decide) ?_
      exact e_zret (pc := 17) dX4_isBlank_17 rfl (by rfl) (Nat.le_refl _) (Nat.le_refl _) ⟨by unfold xbl; simp_all [mc_b], rfl⟩
theorem sp_x_isLetter {w : mc_W} {x : Int32} : mc_D yX4_isLetter cX4_isLetter 1 (some .boolean) 1 [.int x] w (some (.int (mc_b (mc_wi x 97 122)))) w := by
  refine mc_start (own := RX4) (ini := false) rfl (by decide +kernel) (fun h => by cases h) (Nat.le_of_ble_eq_true rfl) ?_
  show mc_E _ _ _ _ _ [some (.int x)] [] _ _ _
  refine e_iloadn (pc := 0) dX4_isLetter_0 rfl ?_
  refine e_bipush (v := 97) (pc := 1) dX4_isLetter_1 (by decide) ?_
  refine e_icmp_lt (pc := 3) dX4_isLetter_3 (t := 16) (by decide) (fun c_3 => ?_) (fun c_3 => ?_)
  · skip
    refine e_iconst (v := 0) (pc := 16) dX4_isLetter_16 (by decide) ?_
    exact e_zret (pc := 17) dX4_isLetter_17 rfl (by rfl) (Nat.le_refl _) (Nat.le_refl _) ⟨by first | rw [mc_wi_lt (by assumption)]; rfl | rw [mc_wi_gt (by assumption)]; rfl | rw [mc_wi_in (by assumption) (by assumption)]; rfl, rfl⟩
  · skip
    refine e_iloadn (pc := 6) dX4_isLetter_6 rfl ?_
    refine e_bipush (v := 122) (pc := 7) dX4_isLetter_7 (by decide) ?_
    refine e_icmp_gt (pc := 9) dX4_isLetter_9 (t := 16) (by decide) (fun c_9 => ?_) (fun c_9 => ?_)
    · skip
      refine e_iconst (v := 0) (pc := 16) dX4_isLetter_16 (by decide) ?_
      exact e_zret (pc := 17) dX4_isLetter_17 rfl (by rfl) (Nat.le_refl _) (Nat.le_refl _) ⟨by first | rw [mc_wi_lt (by assumption)]; rfl | rw [mc_wi_gt (by assumption)]; rfl | rw [mc_wi_in (by assumption) (by assumption)]; rfl, rfl⟩
    · skip
      refine e_iconst (v := 1) (pc := 12) dX4_isLetter_12 (by decide) ?_
      refine e_goto (pc := 13) dX4_isLetter_13 (t := 17) (by decide) ?_
      exact e_zret (pc := 17) dX4_isLetter_17 rfl (by rfl) (Nat.le_refl _) (Nat.le_refl _) ⟨by first | rw [mc_wi_lt (by assumption)]; rfl | rw [mc_wi_gt (by assumption)]; rfl | rw [mc_wi_in (by assumption) (by assumption)]; rfl, rfl⟩
theorem sp_x_isDigit {w : mc_W} {x : Int32} : mc_D yX4_isDigit cX4_isDigit 1 (some .boolean) 1 [.int x] w (some (.int (mc_b (mc_wi x 48 57)))) w := by
  refine mc_start (own := RX4) (ini := false) rfl (by decide +kernel) (fun h => by cases h) (Nat.le_of_ble_eq_true rfl) ?_
  show mc_E _ _ _ _ _ [some (.int x)] [] _ _ _
  refine e_iloadn (pc := 0) dX4_isDigit_0 rfl ?_
  refine e_bipush (v := 48) (pc := 1) dX4_isDigit_1 (by decide) ?_
  refine e_icmp_lt (pc := 3) dX4_isDigit_3 (t := 16) (by decide) (fun c_3 => ?_) (fun c_3 => ?_)
  · skip
    refine e_iconst (v := 0) (pc := 16) dX4_isDigit_16 (by decide) ?_
    exact e_zret (pc := 17) dX4_isDigit_17 rfl (by rfl) (Nat.le_refl _) (Nat.le_refl _) ⟨by first | rw [mc_wi_lt (by assumption)]; rfl | rw [mc_wi_gt (by assumption)]; rfl | rw [mc_wi_in (by assumption) (by assumption)]; rfl, rfl⟩
  · skip
    refine e_iloadn (pc := 6) dX4_isDigit_6 rfl ?_
    refine e_bipush (v := 57) (pc := 7) dX4_isDigit_7 (by decide) ?_
    refine e_icmp_gt (pc := 9) dX4_isDigit_9 (t := 16) (by decide) (fun c_9 => ?_) (fun c_9 => ?_)
    · skip
      refine e_iconst (v := 0) (pc := 16) dX4_isDigit_16 (by decide) ?_
      exact e_zret (pc := 17) dX4_isDigit_17 rfl (by rfl) (Nat.le_refl _) (Nat.le_refl _) ⟨by first | rw [mc_wi_lt (by assumption)]; rfl | rw [mc_wi_gt (by assumption)]; rfl | rw [mc_wi_in (by assumption) (by assumption)]; rfl, rfl⟩
    · skip
      refine e_iconst (v := 1) (pc := 12) dX4_isDigit_12 (by decide) ?_
      refine e_goto (pc := 13) dX4_isDigit_13 (t := 17) (by decide) ?_
      exact e_zret (pc := 17) dX4_isDigit_17 rfl (by rfl) (Nat.le_refl _) (Nat.le_refl _) ⟨by first | rw [mc_wi_lt (by assumption)]; rfl | rw [mc_wi_gt (by assumption)]; rfl | rw [mc_wi_in (by assumption) (by assumption)]; rfl, rfl⟩
def xwa (T : Nat → Int32) (B j : Nat) : Nat → Nat → Bool
  | 0, _ => true
  | f + 1, i => if T (B + i) = wb j i then xwa T B j f (i + 1) else false
def xwd (T : Nat → Int32) (B E j : Nat) : Bool := decide (E = B + wl j) && xwa T B j (wl j) 0
theorem lp_x_isWord {s u m n : Nat → Int32} {a c b d : Nat → List Int32} {q : List (Option Nat)} {h : Nat} {z : mc_W} (hL : xL a) {N : Nat} (hN : s 5 = nI N) (hN1 : N ≤ 160) {B E j : Nat} (hB : u 0 = nI B) (hE : B + wl j = E) (hEN : E ≤ N) (hj : j < 12) {V : Bool} :
    ∀ (f i : Nat), i + f = wl j → xwa (xT a) B j f i = V →
      mc_E RX4 cX4_isWord 3 (mc_JM (some .boolean) false 5 0 0 (fun r' w' => r' = some (.int (mc_b V)) ∧ w' = (WW s a q u c h m b n d z))) 20 [some (.ref 6), some (.ref (1000000 + (1 + j))), some (.int (nI i))] [] (WW s a q u c h m b n d z) 0 0 := by
  have hw : wl j ≤ 6 := wl_le
  intro f
  induction f with
  | zero =>
    intro i hi hV
    have e : i = wl j := by omega
    subst e
    simp only [xwa] at hV
    subst hV
    refine e_iloadn (pc := 20) dX4_isWord_20 rfl ?_
    refine e_aloadn (pc := 21) dX4_isWord_21 rfl ?_
    refine e_ctD (pc := 22) (sp_s_length hj) dX4_isWord_22 kX4_143 hj rfl rfl (mc_CR_of (Nat.le_of_ble_eq_true rfl) (Nat.le_of_ble_eq_true rfl) (Nat.le_refl _) (Nat.le_refl _)) rfl (Nat.le_of_ble_eq_true rfl) ?_
    refine e_icmp_ge (pc := 25) dX4_isWord_25 (t := 54) (by decide) (fun _ => ?_) (fun c_25 => absurd (Int32.le_refl _) c_25)
    refine e_iconst (v := 1) (pc := 54) dX4_isWord_54 (by decide) ?_
    exact e_zret (pc := 55) dX4_isWord_55 rfl (by rfl) (Nat.le_refl _) (Nat.le_refl _) ⟨rfl, rfl⟩
  | succ f ih =>
    intro i hi hV
    simp only [xwa] at hV
    have hi2 : i < wl j := by omega
    refine e_iloadn (pc := 20) dX4_isWord_20 rfl ?_
    refine e_aloadn (pc := 21) dX4_isWord_21 rfl ?_
    refine e_ctD (pc := 22) (sp_s_length hj) dX4_isWord_22 kX4_143 hj rfl rfl (mc_CR_of (Nat.le_of_ble_eq_true rfl) (Nat.le_of_ble_eq_true rfl) (Nat.le_refl _) (Nat.le_refl _)) rfl (Nat.le_of_ble_eq_true rfl) ?_
    refine e_icmp_ge (pc := 25) dX4_isWord_25 (t := 54) (by decide) (fun c_25 => absurd c_25 (nI_ge hi2 (by omega))) (fun _ => ?_)
    refine e_aloadn (pc := 28) dX4_isWord_28 rfl ?_
    refine e_aloadn (pc := 29) dX4_isWord_29 rfl ?_
    refine e_get (pc := 30) dX4_isWord_30 fX4_44 rfl rfl ?_
    refine e_iloadn (pc := 33) dX4_isWord_33 rfl ?_
    refine e_iadd (pc := 34) dX4_isWord_34 ?_
    refine e_cvD (pc := 35) (sp_x_byteAt (p := B + i) hL hN hN1 (by rw [hB, nI_add]) (by omega)) dX4_isWord_35 kX4_92 rfl rfl rfl rfl rfl (mc_CR_of (Nat.le_of_ble_eq_true rfl) (Nat.le_of_ble_eq_true rfl) (Nat.le_refl _) (Nat.le_refl _)) (Nat.le_of_ble_eq_true rfl) ?_
    rw [show xby (xT a) N (B + i) = xT a (B + i) from if_pos (by omega)]
    refine e_aloadn (pc := 38) dX4_isWord_38 rfl ?_
    refine e_iloadn (pc := 39) dX4_isWord_39 rfl ?_
    refine e_ctD (pc := 40) (sp_s_charAt hj hi2) dX4_isWord_40 kX4_148 hj rfl rfl (mc_CR_of (Nat.le_of_ble_eq_true rfl) (Nat.le_of_ble_eq_true rfl) (Nat.le_refl _) (Nat.le_refl _)) rfl (Nat.le_of_ble_eq_true rfl) ?_
    refine e_icmp_eq (pc := 43) dX4_isWord_43 (t := 48) (by decide) (fun c_43 => ?_) (fun c_43 => ?_)
    · skip
      refine e_incC2 (pc := 48) dX4_isWord_48 (nI_1 i) (Nat.le_of_ble_eq_true rfl) rfl ?_
      refine e_goto (pc := 51) dX4_isWord_51 (t := 20) (by decide) ?_
      exact ih (i + 1) (by omega) (by rw [← hV, if_pos c_43])
    · skip
      refine e_iconst (v := 0) (pc := 46) dX4_isWord_46 (by decide) ?_
      exact e_zret (pc := 47) dX4_isWord_47 rfl (by rfl) (Nat.le_refl _) (Nat.le_refl _) ⟨by rw [← hV, if_neg c_43]; rfl, rfl⟩
theorem sp_x_isWord {s u m n : Nat → Int32} {a c b d : Nat → List Int32} {q : List (Option Nat)} {h : Nat} {z : mc_W} (hL : xL a) {N : Nat} (hN : s 5 = nI N) (hN1 : N ≤ 160) {B E : Nat} (hB : u 0 = nI B) (hE : u 1 = nI E) (hBE : B ≤ E) (hEN : E ≤ N) {j : Nat} (hj : j < 12) : mc_D yX4_isWord cX4_isWord 3 (some .boolean) 5 [.ref 6, .ref (1000000 + (1 + j))] (WW s a q u c h m b n d z) (some (.int (mc_b (xwd (xT a) B E j)))) (WW s a q u c h m b n d z) := by
  refine mc_start (own := RX4) (ini := false) rfl (by decide +kernel) (fun h => by cases h) (Nat.le_of_ble_eq_true rfl) ?_
  show mc_E _ _ _ _ _ [some (.ref 6), some (.ref (1000000 + (1 + j))), none] [] _ _ _
  have hw : wl j ≤ 6 := wl_le
  have eS : u 1 - u 0 = nI (E - B) := by rw [hB, hE]; exact pk_sub hBE
  have eQ : nI (E - B) = nI (wl j) ↔ E - B = wl j := nI_eq (by omega) (by omega)
  refine e_aloadn (pc := 0) dX4_isWord_0 rfl ?_
  refine e_get (pc := 1) dX4_isWord_1 fX4_22 rfl rfl ?_
  refine e_aloadn (pc := 4) dX4_isWord_4 rfl ?_
  refine e_get (pc := 5) dX4_isWord_5 fX4_44 rfl rfl ?_
  refine e_isub (pc := 8) dX4_isWord_8 ?_
  refine e_top (y := nI (E - B)) eS ?_
  refine e_aloadn (pc := 9) dX4_isWord_9 rfl ?_
  refine e_ctD (pc := 10) (sp_s_length hj) dX4_isWord_10 kX4_143 hj rfl rfl (mc_CR_of (Nat.le_of_ble_eq_true rfl) (Nat.le_of_ble_eq_true rfl) (Nat.le_refl _) (Nat.le_refl _)) rfl (Nat.le_of_ble_eq_true rfl) ?_
  refine e_icmp_eq (pc := 13) dX4_isWord_13 (t := 18) (by decide) (fun c_13 => ?_) (fun c_13 => ?_)
  · skip
    refine e_iconst (v := 0) (pc := 18) dX4_isWord_18 (by decide) ?_
    refine e_isn2 (pc := 19) dX4_isWord_19 (Nat.le_of_ble_eq_true rfl) rfl ?_
    have e1 : B + wl j = E := by have := eQ.mp c_13; omega
    rw [show xwd (xT a) B E j = xwa (xT a) B j (wl j) 0 by unfold xwd; rw [decide_eq_true e1.symm, Bool.true_and]]
    exact lp_x_isWord hL hN hN1 hB e1 hEN hj (wl j) 0 (by omega) rfl
  · skip
    refine e_iconst (v := 0) (pc := 16) dX4_isWord_16 (by decide) ?_
    exact e_zret (pc := 17) dX4_isWord_17 rfl (by rfl) (Nat.le_refl _) (Nat.le_refl _) ⟨by unfold xwd; rw [decide_eq_false (show ¬ E = B + wl j from fun q => c_13 (eQ.mpr (by omega)))]; rfl, rfl⟩
def xwv : List Int32 := [-1, -2, -3, -4, -5, -6, -23, -24, -25, -11, -12, -13]
/-- what the word from B to E stands for -/
def xwt (T : Nat → Int32) (B E : Nat) : Nat → Nat → Int32
  | 0, _ => -27
  | f + 1, j => if xwd T B E j = true then xwv.getD j (-27) else xwt T B E f (j + 1)
theorem lp_x_lt {s m n : Nat → Int32} {a c b d : Nat → List Int32} {q : List (Option Nat)} {h : Nat} {z : mc_W} {Post : Option Value → mc_W → Prop} (hL : xL a) {N : Nat} (hN : s 5 = nI N) (hN1 : N ≤ 160) {ub : Nat → Int32} {V : Nat}
    (hK : ∀ u, u 1 = nI V → (∀ j, j ≠ 1 → u j = ub j) → mc_E RX4 cX4_wordToken 1 (mc_JM (some .int) false 6 0 0 Post) 38 [some (.ref 6)] [] (WW s a q u c h m b n d z) 0 0) :
    ∀ (f p : Nat) (u : Nat → Int32), p + f = N → u 1 = nI p → (∀ j, j ≠ 1 → u j = ub j) → ylt (xT a) N f p = V →
      mc_E RX4 cX4_wordToken 1 (mc_JM (some .int) false 6 0 0 Post) 0 [some (.ref 6)] [] (WW s a q u c h m b n d z) 0 0 := by
  intro f
  induction f with
  | zero =>
    intro p u hp h1 hu hV
    have e : p = N := by omega
    subst e
    simp only [ylt] at hV
    subst hV
    refine e_aloadn (pc := 0) dX4_wordToken_0 rfl ?_
    refine e_get (pc := 1) dX4_wordToken_1 fX4_22 rfl rfl ?_
    refine e_aloadn (pc := 4) dX4_wordToken_4 rfl ?_
    refine e_get (pc := 5) dX4_wordToken_5 fX4_18 rfl rfl ?_
    refine e_icmp_ge (pc := 8) dX4_wordToken_8 (t := 38) (by decide) (fun _ => ?_) (fun c_8 => absurd (by rw [hN, h1]; exact Int32.le_refl _) c_8)
    exact hK u h1 hu
  | succ f ih =>
    intro p u hp h1 hu hV
    simp only [ylt] at hV
    have hpN : p < N := by omega
    have eb : xby (xT a) N p = xT a p := if_pos hpN
    refine e_aloadn (pc := 0) dX4_wordToken_0 rfl ?_
    refine e_get (pc := 1) dX4_wordToken_1 fX4_22 rfl rfl ?_
    refine e_aloadn (pc := 4) dX4_wordToken_4 rfl ?_
    refine e_get (pc := 5) dX4_wordToken_5 fX4_18 rfl rfl ?_
    refine e_icmp_ge (pc := 8) dX4_wordToken_8 (t := 38) (by decide) (fun c_8 => absurd c_8 (by rw [hN, h1]; exact nI_ge hpN (by omega))) (fun _ => ?_)
    refine e_aloadn (pc := 11) dX4_wordToken_11 rfl ?_
    refine e_aloadn (pc := 12) dX4_wordToken_12 rfl ?_
    refine e_get (pc := 13) dX4_wordToken_13 fX4_22 rfl rfl ?_
    refine e_cvD (pc := 16) (sp_x_byteAt (p := p) hL hN hN1 h1 (by omega)) dX4_wordToken_16 kX4_92 rfl rfl rfl rfl rfl (mc_CR_of (Nat.le_of_ble_eq_true rfl) (Nat.le_of_ble_eq_true rfl) (Nat.le_refl _) (Nat.le_refl _)) (Nat.le_of_ble_eq_true rfl) ?_
    rw [eb]
    refine e_csD (pc := 19) (sp_x_isLetter) dX4_wordToken_19 kX4_99 rfl rfl (mc_CR_of (Nat.le_of_ble_eq_true rfl) (Nat.le_of_ble_eq_true rfl) (Nat.le_refl _) (Nat.le_refl _)) (Nat.le_of_ble_eq_true rfl) ?_
    refine e_if_eq (pc := 22) dX4_wordToken_22 (t := 38) (by decide) (fun c_22 => ?_) (fun c_22 => ?_)
    · skip
      rw [if_neg (fun q => by rw [mc_b0.mp c_22] at q; exact absurd q.2 (by decide))] at hV
      subst hV
      exact hK u h1 hu
    · skip
      refine e_aloadn (pc := 25) dX4_wordToken_25 rfl ?_
      refine e_dup (pc := 26) dX4_wordToken_26 rfl ?_
      refine e_get (pc := 27) dX4_wordToken_27 fX4_22 rfl rfl ?_
      refine e_iconst (v := 1) (pc := 30) dX4_wordToken_30 (by decide) ?_
      refine e_iadd (pc := 31) dX4_wordToken_31 ?_
      refine put_tape_next (pc := 32) dX4_wordToken_32 pX4_22 ?_
      refine e_goto (pc := 35) dX4_wordToken_35 (t := 0) (by decide) ?_
      exact ih (p + 1) _ (by omega) (by rw [up_at, h1, nI_1]) (fun j hj => by rw [upn hj]; exact hu j hj) (by rw [← hV, if_pos ⟨hpN, mc_b1.mp c_22⟩])
theorem sp_x_wordToken {s u m n : Nat → Int32} {a c b d : Nat → List Int32} {q : List (Option Nat)} {h : Nat} {z : mc_W} (hL : xL a) {N : Nat} (hN : s 5 = nI N) (hN1 : N ≤ 160) {B : Nat} (hB : u 0 = nI B) (hB1 : u 1 = nI B) (hBN : B ≤ N) : mc_T yX4_wordToken cX4_wordToken 1 (some .int) 6 [.ref 6] (WW s a q u c h m b n d z) (some (.int (xwt (xT a) B (ylt (xT a) N (N - B) B) 12 0))) (fun w1 => ∃ u1 : Nat → Int32, u1 1 = nI (ylt (xT a) N (N - B) B) ∧ (∀ j, j ≠ 1 → u1 j = u j) ∧ w1 = (WW s a q u1 c h m b n d z)) := by
  refine mc_start (own := RX4) (ini := false) rfl (by decide +kernel) (fun h => by cases h) (Nat.le_of_ble_eq_true rfl) ?_
  show mc_E _ _ _ _ _ [some (.ref 6)] [] _ _ _
  have hE2 := ylt_le (xT a) N (N - B) B hBN
  refine lp_x_lt hL hN hN1 (ub := u) (V := ylt (xT a) N (N - B) B) ?_ (N - B) B u (by omega) hB1 (fun _ _ => rfl) rfl
  generalize ylt (xT a) N (N - B) B = E at hE2 ⊢
  obtain ⟨hBE, hEN⟩ := hE2
  intro u1 h1 hu1
  have h0 : u1 0 = nI B := (hu1 0 (by decide)).trans hB
  refine e_aloadn (pc := 38) dX4_wordToken_38 rfl ?_
  refine e_ldcS (j := 0) (pc := 39) dX4_wordToken_39 rfl (by decide) rfl ?_
  refine e_cvD (pc := 41) (sp_x_isWord (B := B) (E := E) (j := 0) hL hN hN1 h0 h1 hBE hEN (by decide)) dX4_wordToken_41 kX4_117 rfl rfl rfl rfl rfl (mc_CR_of (Nat.le_of_ble_eq_true rfl) (Nat.le_of_ble_eq_true rfl) (Nat.le_refl _) (Nat.le_refl _)) (Nat.le_of_ble_eq_true rfl) ?_
  refine e_if_eq (pc := 44) dX4_wordToken_44 (t := 49) (by decide) (fun c_44 => ?_) (fun c_44 => ?_)
  · skip
    refine e_aloadn (pc := 49) dX4_wordToken_49 rfl ?_
    refine e_ldcS (j := 1) (pc := 50) dX4_wordToken_50 rfl (by decide) rfl ?_
    refine e_cvD (pc := 52) (sp_x_isWord (B := B) (E := E) (j := 1) hL hN hN1 h0 h1 hBE hEN (by decide)) dX4_wordToken_52 kX4_117 rfl rfl rfl rfl rfl (mc_CR_of (Nat.le_of_ble_eq_true rfl) (Nat.le_of_ble_eq_true rfl) (Nat.le_refl _) (Nat.le_refl _)) (Nat.le_of_ble_eq_true rfl) ?_
    refine e_if_eq (pc := 55) dX4_wordToken_55 (t := 61) (by decide) (fun c_55 => ?_) (fun c_55 => ?_)
    · skip
      refine e_aloadn (pc := 61) dX4_wordToken_61 rfl ?_
      refine e_ldcS (j := 2) (pc := 62) dX4_wordToken_62 rfl (by decide) rfl ?_
      refine e_cvD (pc := 64) (sp_x_isWord (B := B) (E := E) (j := 2) hL hN hN1 h0 h1 hBE hEN (by decide)) dX4_wordToken_64 kX4_117 rfl rfl rfl rfl rfl (mc_CR_of (Nat.le_of_ble_eq_true rfl) (Nat.le_of_ble_eq_true rfl) (Nat.le_refl _) (Nat.le_refl _)) (Nat.le_of_ble_eq_true rfl) ?_
      refine e_if_eq (pc := 67) dX4_wordToken_67 (t := 73) (by decide) (fun c_67 => ?_) (fun c_67 => ?_)
      · skip
        refine e_aloadn (pc := 73) dX4_wordToken_73 rfl ?_
        refine e_ldcS (j := 3) (pc := 74) dX4_wordToken_74 rfl (by decide) rfl ?_
        refine e_cvD (pc := 76) (sp_x_isWord (B := B) (E := E) (j := 3) hL hN hN1 h0 h1 hBE hEN (by decide)) dX4_wordToken_76 kX4_117 rfl rfl rfl rfl rfl (mc_CR_of (Nat.le_of_ble_eq_true rfl) (Nat.le_of_ble_eq_true rfl) (Nat.le_refl _) (Nat.le_refl _)) (Nat.le_of_ble_eq_true rfl) ?_
        refine e_if_eq (pc := 79) dX4_wordToken_79 (t := 85) (by decide) (fun c_79 => ?_) (fun c_79 => ?_)
        · skip
          refine e_aloadn (pc := 85) dX4_wordToken_85 rfl ?_
          refine e_ldcS (j := 4) (pc := 86) dX4_wordToken_86 rfl (by decide) rfl ?_
          refine e_cvD (pc := 88) (sp_x_isWord (B := B) (E := E) (j := 4) hL hN hN1 h0 h1 hBE hEN (by decide)) dX4_wordToken_88 kX4_117 rfl rfl rfl rfl rfl (mc_CR_of (Nat.le_of_ble_eq_true rfl) (Nat.le_of_ble_eq_true rfl) (Nat.le_refl _) (Nat.le_refl _)) (Nat.le_of_ble_eq_true rfl) ?_
          refine e_if_eq (pc := 91) dX4_wordToken_91 (t := 97) (by decide) (fun c_91 => ?_) (fun c_91 => ?_)
          · skip
            refine e_aloadn (pc := 97) dX4_wordToken_97 rfl ?_
            refine e_ldcS (j := 5) (pc := 98) dX4_wordToken_98 rfl (by decide) rfl ?_
            refine e_cvD (pc := 100) (sp_x_isWord (B := B) (E := E) (j := 5) hL hN hN1 h0 h1 hBE hEN (by decide)) dX4_wordToken_100 kX4_117 rfl rfl rfl rfl rfl (mc_CR_of (Nat.le_of_ble_eq_true rfl) (Nat.le_of_ble_eq_true rfl) (Nat.le_refl _) (Nat.le_refl _)) (Nat.le_of_ble_eq_true rfl) ?_
            refine e_if_eq (pc := 103) dX4_wordToken_103 (t := 109) (by decide) (fun c_103 => ?_) (fun c_103 => ?_)
            · skip
              refine e_aloadn (pc := 109) dX4_wordToken_109 rfl ?_
              refine e_ldcS (j := 6) (pc := 110) dX4_wordToken_110 rfl (by decide) rfl ?_
              refine e_cvD (pc := 112) (sp_x_isWord (B := B) (E := E) (j := 6) hL hN hN1 h0 h1 hBE hEN (by decide)) dX4_wordToken_112 kX4_117 rfl rfl rfl rfl rfl (mc_CR_of (Nat.le_of_ble_eq_true rfl) (Nat.le_of_ble_eq_true rfl) (Nat.le_refl _) (Nat.le_refl _)) (Nat.le_of_ble_eq_true rfl) ?_
              refine e_if_eq (pc := 115) dX4_wordToken_115 (t := 121) (by decide) (fun c_115 => ?_) (fun c_115 => ?_)
              · skip
                refine e_aloadn (pc := 121) dX4_wordToken_121 rfl ?_
                refine e_ldcS (j := 7) (pc := 122) dX4_wordToken_122 rfl (by decide) rfl ?_
                refine e_cvD (pc := 124) (sp_x_isWord (B := B) (E := E) (j := 7) hL hN hN1 h0 h1 hBE hEN (by decide)) dX4_wordToken_124 kX4_117 rfl rfl rfl rfl rfl (mc_CR_of (Nat.le_of_ble_eq_true rfl) (Nat.le_of_ble_eq_true rfl) (Nat.le_refl _) (Nat.le_refl _)) (Nat.le_of_ble_eq_true rfl) ?_
                refine e_if_eq (pc := 127) dX4_wordToken_127 (t := 133) (by decide) (fun c_127 => ?_) (fun c_127 => ?_)
                · skip
                  refine e_aloadn (pc := 133) dX4_wordToken_133 rfl ?_
                  refine e_ldcS (j := 8) (pc := 134) dX4_wordToken_134 rfl (by decide) rfl ?_
                  refine e_cvD (pc := 136) (sp_x_isWord (B := B) (E := E) (j := 8) hL hN hN1 h0 h1 hBE hEN (by decide)) dX4_wordToken_136 kX4_117 rfl rfl rfl rfl rfl (mc_CR_of (Nat.le_of_ble_eq_true rfl) (Nat.le_of_ble_eq_true rfl) (Nat.le_refl _) (Nat.le_refl _)) (Nat.le_of_ble_eq_true rfl) ?_
                  refine e_if_eq (pc := 139) dX4_wordToken_139 (t := 145) (by decide) (fun c_139 => ?_) (fun c_139 => ?_)
                  · skip
                    refine e_aloadn (pc := 145) dX4_wordToken_145 rfl ?_
                    refine e_ldcS (j := 9) (pc := 146) dX4_wordToken_146 rfl (by decide) rfl ?_
                    refine e_cvD (pc := 148) (sp_x_isWord (B := B) (E := E) (j := 9) hL hN hN1 h0 h1 hBE hEN (by decide)) dX4_wordToken_148 kX4_117 rfl rfl rfl rfl rfl (mc_CR_of (Nat.le_of_ble_eq_true rfl) (Nat.le_of_ble_eq_true rfl) (Nat.le_refl _) (Nat.le_refl _)) (Nat.le_of_ble_eq_true rfl) ?_
                    refine e_if_eq (pc := 151) dX4_wordToken_151 (t := 157) (by decide) (fun c_151 => ?_) (fun c_151 => ?_)
                    · skip
                      refine e_aloadn (pc := 157) dX4_wordToken_157 rfl ?_
                      refine e_ldcS (j := 10) (pc := 158) dX4_wordToken_158 rfl (by decide) rfl ?_
                      refine e_cvD (pc := 160) (sp_x_isWord (B := B) (E := E) (j := 10) hL hN hN1 h0 h1 hBE hEN (by decide)) dX4_wordToken_160 kX4_117 rfl rfl rfl rfl rfl (mc_CR_of (Nat.le_of_ble_eq_true rfl) (Nat.le_of_ble_eq_true rfl) (Nat.le_refl _) (Nat.le_refl _)) (Nat.le_of_ble_eq_true rfl) ?_
                      refine e_if_eq (pc := 163) dX4_wordToken_163 (t := 169) (by decide) (fun c_163 => ?_) (fun c_163 => ?_)
                      · skip
                        refine e_aloadn (pc := 169) dX4_wordToken_169 rfl ?_
                        refine e_ldcS (j := 11) (pc := 170) dX4_wordToken_170 rfl (by decide) rfl ?_
                        refine e_cvD (pc := 172) (sp_x_isWord (B := B) (E := E) (j := 11) hL hN hN1 h0 h1 hBE hEN (by decide)) dX4_wordToken_172 kX4_117 rfl rfl rfl rfl rfl (mc_CR_of (Nat.le_of_ble_eq_true rfl) (Nat.le_of_ble_eq_true rfl) (Nat.le_refl _) (Nat.le_refl _)) (Nat.le_of_ble_eq_true rfl) ?_
                        refine e_if_eq (pc := 175) dX4_wordToken_175 (t := 183) (by decide) (fun c_175 => ?_) (fun c_175 => ?_)
                        · skip
                          refine e_bipush (v := -27) (pc := 183) dX4_wordToken_183 (by decide) ?_
                          exact e_iret (pc := 185) dX4_wordToken_185 rfl (Nat.le_refl _) (Nat.le_refl _) ⟨by show _ = some (Value.int (xwt (xT a) B E 12 0)); simp only [xwt]; rw [if_neg (show ¬ xwd (xT a) B E 0 = true by rw [mc_b0.mp c_44]; decide), if_neg (show ¬ xwd (xT a) B E 1 = true by rw [mc_b0.mp c_55]; decide), if_neg (show ¬ xwd (xT a) B E 2 = true by rw [mc_b0.mp c_67]; decide), if_neg (show ¬ xwd (xT a) B E 3 = true by rw [mc_b0.mp c_79]; decide), if_neg (show ¬ xwd (xT a) B E 4 = true by rw [mc_b0.mp c_91]; decide), if_neg (show ¬ xwd (xT a) B E 5 = true by rw [mc_b0.mp c_103]; decide), if_neg (show ¬ xwd (xT a) B E 6 = true by rw [mc_b0.mp c_115]; decide), if_neg (show ¬ xwd (xT a) B E 7 = true by rw [mc_b0.mp c_127]; decide), if_neg (show ¬ xwd (xT a) B E 8 = true by rw [mc_b0.mp c_139]; decide), if_neg (show ¬ xwd (xT a) B E 9 = true by rw [mc_b0.mp c_151]; decide), if_neg (show ¬ xwd (xT a) B E 10 = true by rw [mc_b0.mp c_163]; decide), if_neg (show ¬ xwd (xT a) B E 11 = true by rw [mc_b0.mp c_175]; decide)]; try rfl, u1, h1, hu1, rfl⟩
                        · skip
                          refine e_bipush (v := -13) (pc := 178) dX4_wordToken_178 (by decide) ?_
                          refine e_goto (pc := 180) dX4_wordToken_180 (t := 185) (by decide) ?_
                          exact e_iret (pc := 185) dX4_wordToken_185 rfl (Nat.le_refl _) (Nat.le_refl _) ⟨by show _ = some (Value.int (xwt (xT a) B E 12 0)); simp only [xwt]; rw [if_neg (show ¬ xwd (xT a) B E 0 = true by rw [mc_b0.mp c_44]; decide), if_neg (show ¬ xwd (xT a) B E 1 = true by rw [mc_b0.mp c_55]; decide), if_neg (show ¬ xwd (xT a) B E 2 = true by rw [mc_b0.mp c_67]; decide), if_neg (show ¬ xwd (xT a) B E 3 = true by rw [mc_b0.mp c_79]; decide), if_neg (show ¬ xwd (xT a) B E 4 = true by rw [mc_b0.mp c_91]; decide), if_neg (show ¬ xwd (xT a) B E 5 = true by rw [mc_b0.mp c_103]; decide), if_neg (show ¬ xwd (xT a) B E 6 = true by rw [mc_b0.mp c_115]; decide), if_neg (show ¬ xwd (xT a) B E 7 = true by rw [mc_b0.mp c_127]; decide), if_neg (show ¬ xwd (xT a) B E 8 = true by rw [mc_b0.mp c_139]; decide), if_neg (show ¬ xwd (xT a) B E 9 = true by rw [mc_b0.mp c_151]; decide), if_neg (show ¬ xwd (xT a) B E 10 = true by rw [mc_b0.mp c_163]; decide), if_pos (mc_b1.mp c_175)]; try rfl, u1, h1, hu1, rfl⟩
                      · skip
                        refine e_bipush (v := -12) (pc := 166) dX4_wordToken_166 (by decide) ?_
                        exact e_iret (pc := 168) dX4_wordToken_168 rfl (Nat.le_refl _) (Nat.le_refl _) ⟨by show _ = some (Value.int (xwt (xT a) B E 12 0)); simp only [xwt]; rw [if_neg (show ¬ xwd (xT a) B E 0 = true by rw [mc_b0.mp c_44]; decide), if_neg (show ¬ xwd (xT a) B E 1 = true by rw [mc_b0.mp c_55]; decide), if_neg (show ¬ xwd (xT a) B E 2 = true by rw [mc_b0.mp c_67]; decide), if_neg (show ¬ xwd (xT a) B E 3 = true by rw [mc_b0.mp c_79]; decide), if_neg (show ¬ xwd (xT a) B E 4 = true by rw [mc_b0.mp c_91]; decide), if_neg (show ¬ xwd (xT a) B E 5 = true by rw [mc_b0.mp c_103]; decide), if_neg (show ¬ xwd (xT a) B E 6 = true by rw [mc_b0.mp c_115]; decide), if_neg (show ¬ xwd (xT a) B E 7 = true by rw [mc_b0.mp c_127]; decide), if_neg (show ¬ xwd (xT a) B E 8 = true by rw [mc_b0.mp c_139]; decide), if_neg (show ¬ xwd (xT a) B E 9 = true by rw [mc_b0.mp c_151]; decide), if_pos (mc_b1.mp c_163)]; rfl, u1, h1, hu1, rfl⟩
                    · skip
                      refine e_bipush (v := -11) (pc := 154) dX4_wordToken_154 (by decide) ?_
                      exact e_iret (pc := 156) dX4_wordToken_156 rfl (Nat.le_refl _) (Nat.le_refl _) ⟨by show _ = some (Value.int (xwt (xT a) B E 12 0)); simp only [xwt]; rw [if_neg (show ¬ xwd (xT a) B E 0 = true by rw [mc_b0.mp c_44]; decide), if_neg (show ¬ xwd (xT a) B E 1 = true by rw [mc_b0.mp c_55]; decide), if_neg (show ¬ xwd (xT a) B E 2 = true by rw [mc_b0.mp c_67]; decide), if_neg (show ¬ xwd (xT a) B E 3 = true by rw [mc_b0.mp c_79]; decide), if_neg (show ¬ xwd (xT a) B E 4 = true by rw [mc_b0.mp c_91]; decide), if_neg (show ¬ xwd (xT a) B E 5 = true by rw [mc_b0.mp c_103]; decide), if_neg (show ¬ xwd (xT a) B E 6 = true by rw [mc_b0.mp c_115]; decide), if_neg (show ¬ xwd (xT a) B E 7 = true by rw [mc_b0.mp c_127]; decide), if_neg (show ¬ xwd (xT a) B E 8 = true by rw [mc_b0.mp c_139]; decide), if_pos (mc_b1.mp c_151)]; rfl, u1, h1, hu1, rfl⟩
                  · skip
                    refine e_bipush (v := -25) (pc := 142) dX4_wordToken_142 (by decide) ?_
                    exact e_iret (pc := 144) dX4_wordToken_144 rfl (Nat.le_refl _) (Nat.le_refl _) ⟨by show _ = some (Value.int (xwt (xT a) B E 12 0)); simp only [xwt]; rw [if_neg (show ¬ xwd (xT a) B E 0 = true by rw [mc_b0.mp c_44]; decide), if_neg (show ¬ xwd (xT a) B E 1 = true by rw [mc_b0.mp c_55]; decide), if_neg (show ¬ xwd (xT a) B E 2 = true by rw [mc_b0.mp c_67]; decide), if_neg (show ¬ xwd (xT a) B E 3 = true by rw [mc_b0.mp c_79]; decide), if_neg (show ¬ xwd (xT a) B E 4 = true by rw [mc_b0.mp c_91]; decide), if_neg (show ¬ xwd (xT a) B E 5 = true by rw [mc_b0.mp c_103]; decide), if_neg (show ¬ xwd (xT a) B E 6 = true by rw [mc_b0.mp c_115]; decide), if_neg (show ¬ xwd (xT a) B E 7 = true by rw [mc_b0.mp c_127]; decide), if_pos (mc_b1.mp c_139)]; rfl, u1, h1, hu1, rfl⟩
                · skip
                  refine e_bipush (v := -24) (pc := 130) dX4_wordToken_130 (by decide) ?_
                  exact e_iret (pc := 132) dX4_wordToken_132 rfl (Nat.le_refl _) (Nat.le_refl _) ⟨by show _ = some (Value.int (xwt (xT a) B E 12 0)); simp only [xwt]; rw [if_neg (show ¬ xwd (xT a) B E 0 = true by rw [mc_b0.mp c_44]; decide), if_neg (show ¬ xwd (xT a) B E 1 = true by rw [mc_b0.mp c_55]; decide), if_neg (show ¬ xwd (xT a) B E 2 = true by rw [mc_b0.mp c_67]; decide), if_neg (show ¬ xwd (xT a) B E 3 = true by rw [mc_b0.mp c_79]; decide), if_neg (show ¬ xwd (xT a) B E 4 = true by rw [mc_b0.mp c_91]; decide), if_neg (show ¬ xwd (xT a) B E 5 = true by rw [mc_b0.mp c_103]; decide), if_neg (show ¬ xwd (xT a) B E 6 = true by rw [mc_b0.mp c_115]; decide), if_pos (mc_b1.mp c_127)]; rfl, u1, h1, hu1, rfl⟩
              · skip
                refine e_bipush (v := -23) (pc := 118) dX4_wordToken_118 (by decide) ?_
                exact e_iret (pc := 120) dX4_wordToken_120 rfl (Nat.le_refl _) (Nat.le_refl _) ⟨by show _ = some (Value.int (xwt (xT a) B E 12 0)); simp only [xwt]; rw [if_neg (show ¬ xwd (xT a) B E 0 = true by rw [mc_b0.mp c_44]; decide), if_neg (show ¬ xwd (xT a) B E 1 = true by rw [mc_b0.mp c_55]; decide), if_neg (show ¬ xwd (xT a) B E 2 = true by rw [mc_b0.mp c_67]; decide), if_neg (show ¬ xwd (xT a) B E 3 = true by rw [mc_b0.mp c_79]; decide), if_neg (show ¬ xwd (xT a) B E 4 = true by rw [mc_b0.mp c_91]; decide), if_neg (show ¬ xwd (xT a) B E 5 = true by rw [mc_b0.mp c_103]; decide), if_pos (mc_b1.mp c_115)]; rfl, u1, h1, hu1, rfl⟩
            · skip
              refine e_bipush (v := -6) (pc := 106) dX4_wordToken_106 (by decide) ?_
              exact e_iret (pc := 108) dX4_wordToken_108 rfl (Nat.le_refl _) (Nat.le_refl _) ⟨by show _ = some (Value.int (xwt (xT a) B E 12 0)); simp only [xwt]; rw [if_neg (show ¬ xwd (xT a) B E 0 = true by rw [mc_b0.mp c_44]; decide), if_neg (show ¬ xwd (xT a) B E 1 = true by rw [mc_b0.mp c_55]; decide), if_neg (show ¬ xwd (xT a) B E 2 = true by rw [mc_b0.mp c_67]; decide), if_neg (show ¬ xwd (xT a) B E 3 = true by rw [mc_b0.mp c_79]; decide), if_neg (show ¬ xwd (xT a) B E 4 = true by rw [mc_b0.mp c_91]; decide), if_pos (mc_b1.mp c_103)]; rfl, u1, h1, hu1, rfl⟩
          · skip
            refine e_bipush (v := -5) (pc := 94) dX4_wordToken_94 (by decide) ?_
            exact e_iret (pc := 96) dX4_wordToken_96 rfl (Nat.le_refl _) (Nat.le_refl _) ⟨by show _ = some (Value.int (xwt (xT a) B E 12 0)); simp only [xwt]; rw [if_neg (show ¬ xwd (xT a) B E 0 = true by rw [mc_b0.mp c_44]; decide), if_neg (show ¬ xwd (xT a) B E 1 = true by rw [mc_b0.mp c_55]; decide), if_neg (show ¬ xwd (xT a) B E 2 = true by rw [mc_b0.mp c_67]; decide), if_neg (show ¬ xwd (xT a) B E 3 = true by rw [mc_b0.mp c_79]; decide), if_pos (mc_b1.mp c_91)]; rfl, u1, h1, hu1, rfl⟩
        · skip
          refine e_bipush (v := -4) (pc := 82) dX4_wordToken_82 (by decide) ?_
          exact e_iret (pc := 84) dX4_wordToken_84 rfl (Nat.le_refl _) (Nat.le_refl _) ⟨by show _ = some (Value.int (xwt (xT a) B E 12 0)); simp only [xwt]; rw [if_neg (show ¬ xwd (xT a) B E 0 = true by rw [mc_b0.mp c_44]; decide), if_neg (show ¬ xwd (xT a) B E 1 = true by rw [mc_b0.mp c_55]; decide), if_neg (show ¬ xwd (xT a) B E 2 = true by rw [mc_b0.mp c_67]; decide), if_pos (mc_b1.mp c_79)]; rfl, u1, h1, hu1, rfl⟩
      · skip
        refine e_bipush (v := -3) (pc := 70) dX4_wordToken_70 (by decide) ?_
        exact e_iret (pc := 72) dX4_wordToken_72 rfl (Nat.le_refl _) (Nat.le_refl _) ⟨by show _ = some (Value.int (xwt (xT a) B E 12 0)); simp only [xwt]; rw [if_neg (show ¬ xwd (xT a) B E 0 = true by rw [mc_b0.mp c_44]; decide), if_neg (show ¬ xwd (xT a) B E 1 = true by rw [mc_b0.mp c_55]; decide), if_pos (mc_b1.mp c_67)]; rfl, u1, h1, hu1, rfl⟩
    · skip
      refine e_bipush (v := -2) (pc := 58) dX4_wordToken_58 (by decide) ?_
      exact e_iret (pc := 60) dX4_wordToken_60 rfl (Nat.le_refl _) (Nat.le_refl _) ⟨by show _ = some (Value.int (xwt (xT a) B E 12 0)); simp only [xwt]; rw [if_neg (show ¬ xwd (xT a) B E 0 = true by rw [mc_b0.mp c_44]; decide), if_pos (mc_b1.mp c_55)]; rfl, u1, h1, hu1, rfl⟩
  · skip
    refine e_iconst (v := -1) (pc := 47) dX4_wordToken_47 (by decide) ?_
    exact e_iret (pc := 48) dX4_wordToken_48 rfl (Nat.le_refl _) (Nat.le_refl _) ⟨by show _ = some (Value.int (xwt (xT a) B E 12 0)); simp only [xwt]; rw [if_pos (mc_b1.mp c_44)]; rfl, u1, h1, hu1, rfl⟩
end Zj_6k_x21
section Zj_6l_x22
/-! ===== words and what they stand for ===== -/
theorem ywi_iff (T : Nat → Int32) (fr to k : Nat) : ∀ g i L, i + g = 8 → (ywi T fr to k g i L = true ↔ L = true ∧ ∀ j, i ≤ j → j < 8 → ww_words.getD (8 * k + j) 0 = (if fr + j < to then T (fr + j) else 32)) := by
  intro g
  induction g with
  | zero => intro i L hi; simp only [ywi]; exact ⟨fun h => ⟨h, fun j h1 h2 => by omega⟩, fun h => h.1⟩
  | succ g ih =>
    intro i L hi
    simp only [ywi]
    cases L with
    | false => simp
    | true =>
      rw [if_pos rfl, ih (i + 1) _ (by omega), decide_eq_true_eq]
      constructor
      · intro h
        refine ⟨rfl, fun j h1 h2 => ?_⟩
        by_cases e : j = i
        · rw [e]; exact h.1
        · exact h.2 j (by omega) h2
      · intro h
        exact ⟨h.2 i (Nat.le_refl _) (by omega), fun j h1 h2 => h.2 j (by omega) h2⟩
theorem xwa_iff (T : Nat → Int32) (B j : Nat) : ∀ f i, (xwa T B j f i = true ↔ ∀ p, i ≤ p → p < i + f → T (B + p) = wb j p) := by
  intro f
  induction f with
  | zero => intro i; simp only [xwa]; exact ⟨fun _ p h1 h2 => by omega, fun _ => trivial⟩
  | succ f ih =>
    intro i
    simp only [xwa]
    by_cases h : T (B + i) = wb j i
    · rw [if_pos h, ih]
      constructor
      · intro g p h1 h2
        by_cases e : p = i
        · rw [e]; exact h
        · exact g p (by omega) (by omega)
      · intro g p h1 h2
        exact g p (by omega) (by omega)
    · rw [if_neg h]
      exact ⟨fun q => absurd q (by decide), fun g => absurd (g i (Nat.le_refl _) (by omega)) h⟩
/-- where the other side keeps word j -/
def xpi (j : Nat) : Nat := [3, 4, 5, 6, 7, 8, 0, 1, 2, 9, 10, 11].getD j 12
theorem xpi_w : ∀ j, j < 12 → ∀ i, i < 8 → ww_words.getD (8 * xpi j + i) 0 = if i < wl j then wb j i else 32 := by decide +kernel
theorem wb_32 : ∀ j, j < 12 → ∀ i, i < wl j → wb j i ≠ 32 := by decide +kernel
theorem xpi_lt : ∀ j, j < 12 → xpi j < 12 := by decide
theorem xpi_on : ∀ k, k < 12 → ∃ j, j < 12 ∧ xpi j = k := by decide
theorem ww_far : ∀ k, k < 12 → ∀ l, l < 12 → (k = l || (List.range 8).any (fun i => ww_words.getD (8 * k + i) 0 != ww_words.getD (8 * l + i) 0)) = true := by decide +kernel
theorem let_32 {x : Int32} (h : mc_wi x 97 122 = true) : x ≠ 32 := fun q => by rw [q] at h; exact absurd h (by decide)
theorem xwd_ywi {T : Nat → Int32} {B E j : Nat} (hl : ∀ p, B ≤ p → p < E → mc_wi (T p) 97 122 = true) (hBE : B ≤ E) (hj : j < 12) : xwd T B E j = true ↔ ywi T B E (xpi j) 8 0 (decide (E - B ≤ 8)) = true := by
  have hw : wl j ≤ 6 := wl_le
  rw [ywi_iff T B E _ 8 0 _ (by omega)]
  unfold xwd
  rw [Bool.and_eq_true, decide_eq_true_eq, decide_eq_true_eq, xwa_iff]
  constructor
  · rintro ⟨e, h⟩
    refine ⟨by omega, fun i h1 h2 => ?_⟩
    rw [xpi_w j hj i h2]
    by_cases g : i < wl j
    · rw [if_pos g, if_pos (by omega)]; exact (h i (Nat.zero_le _) (by omega)).symm
    · rw [if_neg g, if_neg (by omega)]
  · rintro ⟨h8, h⟩
    have e : E - B = wl j := by
      by_cases g : E - B < wl j
      · have q := h (E - B) (Nat.zero_le _) (by omega)
        rw [xpi_w j hj _ (by omega), if_pos g, if_neg (by omega)] at q
        exact absurd q (wb_32 j hj _ g)
      · by_cases g2 : wl j < E - B
        · have q := h (wl j) (Nat.zero_le _) (by omega)
          rw [xpi_w j hj _ (by omega), if_neg (by omega), if_pos (by omega)] at q
          exact absurd q.symm (let_32 (hl _ (by omega) (by omega)))
        · omega
    refine ⟨by omega, fun i h1 h2 => ?_⟩
    have q := h i (Nat.zero_le _) (by omega)
    rw [xpi_w j hj i (by omega), if_pos (by omega), if_pos (by omega)] at q
    exact q.symm
theorem ywi_one {T : Nat → Int32} {B E k l : Nat} {L M : Bool} (hk : k < 12) (hl : l < 12) (h1 : ywi T B E k 8 0 L = true) (h2 : ywi T B E l 8 0 M = true) : k = l := by
  rw [ywi_iff T B E _ 8 0 _ (by omega)] at h1 h2
  have f := ww_far k hk l hl
  rw [Bool.or_eq_true, decide_eq_true_eq] at f
  rcases f with f | f
  · exact f
  · obtain ⟨i, hi, hn⟩ := List.any_eq_true.mp f
    rw [List.mem_range] at hi
    rw [h1.2 i (Nat.zero_le _) hi, h2.2 i (Nat.zero_le _) hi] at hn
    simp at hn
/-- the class's number for what the other side calls sort t, value v -/
def xtm (t v : Int32) : Int32 := if t = 0 then -26 else if t = 1 then v else if t = 2 then -1 - v else if t = 3 then -23 - v else if t = 4 then -11 else if t = 5 then -12 else if t = 6 then -13
  else if t = 40 then -20 else if t = 41 then -21 else if t = 59 then -22 else if t = 43 then -16 else if t = 45 then -17 else if t = 42 then -18 else if t = 60 then -14 else if t = 61 then -15 else -27
theorem xwv_tm : ∀ j, j < 12 → xwv.getD j (-27) = xtm (ynk (xpi j)) (ynv (xpi j)) := by decide
theorem ywo_is {T : Nat → Int32} {B E k0 : Nat} (h0 : k0 < 12) (h : ywi T B E k0 8 0 (decide (E - B ≤ 8)) = true) : ∀ g k, k + g = 12 → k ≤ k0 → ywo T B E g k = k0 := by
  intro g
  induction g with
  | zero => intro k hk h1; omega
  | succ g ih =>
    intro k hk h1
    simp only [ywo]
    by_cases hh : ywi T B E k 8 0 (decide (E - B ≤ 8)) = true
    · rw [if_pos hh]; exact ywi_one (by omega) h0 hh h
    · rw [if_neg hh]
      by_cases e : k = k0
      · rw [e] at hh; exact absurd h hh
      · exact ih (k + 1) (by omega) (by omega)
theorem ywo_no {T : Nat → Int32} {B E : Nat} (h : ∀ k, k < 12 → ¬ ywi T B E k 8 0 (decide (E - B ≤ 8)) = true) : ∀ g k, k + g = 12 → ywo T B E g k = 12 := by
  intro g
  induction g with
  | zero => intro k hk; rfl
  | succ g ih =>
    intro k hk
    simp only [ywo]
    rw [if_neg (h k (by omega))]
    exact ih (k + 1) (by omega)
theorem xwt_is {T : Nat → Int32} {B E j0 : Nat} (h0 : j0 < 12) (h : xwd T B E j0 = true) (ho : ∀ j, j < 12 → xwd T B E j = true → j = j0) : ∀ g j, j + g = 12 → j ≤ j0 → xwt T B E g j = xwv.getD j0 (-27) := by
  intro g
  induction g with
  | zero => intro k hk h1; omega
  | succ g ih =>
    intro k hk h1
    simp only [xwt]
    by_cases hh : xwd T B E k = true
    · rw [if_pos hh, ho k (by omega) hh]
    · rw [if_neg hh]
      by_cases e : k = j0
      · rw [e] at hh; exact absurd h hh
      · exact ih (k + 1) (by omega) (by omega)
theorem xwt_no {T : Nat → Int32} {B E : Nat} (h : ∀ j, j < 12 → ¬ xwd T B E j = true) : ∀ g j, j + g = 12 → xwt T B E g j = -27 := by
  intro g
  induction g with
  | zero => intro k hk; rfl
  | succ g ih =>
    intro k hk
    simp only [xwt]
    rw [if_neg (h k (by omega))]
    exact ih (k + 1) (by omega)
theorem xpi_inj : ∀ j, j < 12 → ∀ l, l < 12 → xpi j = xpi l → j = l := by decide
theorem xwt_tm {T : Nat → Int32} {B E : Nat} (hl : ∀ p, B ≤ p → p < E → mc_wi (T p) 97 122 = true) (hBE : B ≤ E) : xwt T B E 12 0 = xtm (ynk (ywo T B E 12 0)) (ynv (ywo T B E 12 0)) := by
  by_cases h : ∃ j, j < 12 ∧ xwd T B E j = true
  · obtain ⟨j, hj, hd⟩ := h
    have hy := (xwd_ywi hl hBE hj).mp hd
    rw [ywo_is (xpi_lt j hj) hy 12 0 (by omega) (Nat.zero_le _), xwt_is hj hd (fun l hl2 hd2 => xpi_inj l hl2 j hj (ywi_one (xpi_lt l hl2) (xpi_lt j hj) ((xwd_ywi hl hBE hl2).mp hd2) hy)) 12 0 (by omega) (Nat.zero_le _)]
    exact xwv_tm j hj
  · rw [xwt_no (fun j hj hd => h ⟨j, hj, hd⟩) 12 0 (by omega), ywo_no (fun k hk hy => ?_) 12 0 (by omega)]
    · decide
    · obtain ⟨j, hj, e⟩ := xpi_on k hk
      exact h ⟨j, hj, (xwd_ywi hl hBE hj).mpr (by rw [e]; exact hy)⟩
theorem ylt_let (T : Nat → Int32) (N : Nat) : ∀ f p, ∀ i, p ≤ i → i < ylt T N f p → mc_wi (T i) 97 122 = true := by
  intro f
  induction f with
  | zero => intro p i h1 h2; simp only [ylt] at h2; omega
  | succ f ih =>
    intro p i h1 h2
    simp only [ylt] at h2
    by_cases h : p < N ∧ mc_wi (T p) 97 122 = true
    · rw [if_pos h] at h2
      by_cases e : i = p
      · rw [e]; exact h.2
      · exact ih (p + 1) i (by omega) h2
    · rw [if_neg h] at h2; omega
theorem lp_x_num {s m n : Nat → Int32} {a c b d : Nat → List Int32} {q : List (Option Nat)} {h : Nat} {z : mc_W} (hL : xL a) {N : Nat} (hN : s 5 = nI N) (hN1 : N ≤ 160) {ub : Nat → Int32} {B : Nat} (hB : ub 0 = nI B) {V : Nat × Nat × Int32} :
    ∀ (f p k : Nat) (v vx : Int32) (u : Nat → Int32), p + f = N → p = B + k → (k ≤ 4 → vx = v) → u 1 = nI p → (∀ j, j ≠ 1 → u j = ub j) → yda (xT a) N f p k v = V →
      mc_E RX4 cX4_numberToken 2 (mc_JM (some .int) false 2 0 0 (fun r' w' => r' = some (.int (if 4 < V.2.1 then -27 else V.2.2)) ∧ ∃ u1 : Nat → Int32, u1 1 = nI V.1 ∧ (∀ j, j ≠ 1 → u1 j = ub j) ∧ w' = (WW s a q u1 c h m b n d z))) 2 [some (.ref 6), some (.int vx)] [] (WW s a q u c h m b n d z) 0 0 := by
  intro f
  induction f with
  | zero =>
    intro p k v vx u hp hpk hv h1 hu hV
    have e : p = N := by omega
    have h0 : u 0 = nI B := (hu 0 (by decide)).trans hB
    have eS : u 1 - u 0 = nI k := by rw [h0, h1, hpk, pk_sub (by omega)]; congr 1; omega
    have eQ : nI k ≤ 4 ↔ k ≤ 4 := by rw [Int32.le_iff_toInt_le, nI_toInt (by omega), show (4 : Int32).toInt = 4 from rfl]; omega
    simp only [yda] at hV
    subst hV
    refine e_aloadn (pc := 2) dX4_numberToken_2 rfl ?_
    refine e_get (pc := 3) dX4_numberToken_3 fX4_22 rfl rfl ?_
    refine e_aloadn (pc := 6) dX4_numberToken_6 rfl ?_
    refine e_get (pc := 7) dX4_numberToken_7 fX4_18 rfl rfl ?_
    refine e_icmp_ge (pc := 10) dX4_numberToken_10 (t := 57) (by decide) (fun _ => ?_) (fun c_10 => absurd (by rw [hN, h1, e]; exact Int32.le_refl _) c_10)
    refine e_aloadn (pc := 57) dX4_numberToken_57 rfl ?_
    refine e_get (pc := 58) dX4_numberToken_58 fX4_22 rfl rfl ?_
    refine e_aloadn (pc := 61) dX4_numberToken_61 rfl ?_
    refine e_get (pc := 62) dX4_numberToken_62 fX4_44 rfl rfl ?_
    refine e_isub (pc := 65) dX4_numberToken_65 ?_
    refine e_top (y := nI k) eS ?_
    refine e_iconst (v := 4) (pc := 66) dX4_numberToken_66 (by decide) ?_
    refine e_icmp_le (pc := 67) dX4_numberToken_67 (t := 75) (by decide) (fun c_67 => ?_) (fun c_67 => ?_)
    · skip
      refine e_iloadn (pc := 75) dX4_numberToken_75 rfl ?_
      exact e_iret (pc := 76) dX4_numberToken_76 rfl (Nat.le_refl _) (Nat.le_refl _) ⟨by rw [if_neg (show ¬ 4 < k by have := eQ.mp c_67; omega), hv (eQ.mp c_67)], u, h1, hu, rfl⟩
    · skip
      refine e_bipush (v := -27) (pc := 70) dX4_numberToken_70 (by decide) ?_
      refine e_goto (pc := 72) dX4_numberToken_72 (t := 76) (by decide) ?_
      exact e_iret (pc := 76) dX4_numberToken_76 rfl (Nat.le_refl _) (Nat.le_refl _) ⟨by rw [if_pos (show 4 < k from Nat.not_le.mp (fun q => c_67 (eQ.mpr q)))], u, h1, hu, rfl⟩
  | succ f ih =>
    intro p k v vx u hp hpk hv h1 hu hV
    simp only [yda] at hV
    have hpN : p < N := by omega
    have h0 : u 0 = nI B := (hu 0 (by decide)).trans hB
    have eS : u 1 - u 0 = nI k := by rw [h0, h1, hpk, pk_sub (by omega)]; congr 1; omega
    have eQ : nI k ≤ 4 ↔ k ≤ 4 := by rw [Int32.le_iff_toInt_le, nI_toInt (by omega), show (4 : Int32).toInt = 4 from rfl]; omega
    have eb : xby (xT a) N p = xT a p := if_pos hpN
    refine e_aloadn (pc := 2) dX4_numberToken_2 rfl ?_
    refine e_get (pc := 3) dX4_numberToken_3 fX4_22 rfl rfl ?_
    refine e_aloadn (pc := 6) dX4_numberToken_6 rfl ?_
    refine e_get (pc := 7) dX4_numberToken_7 fX4_18 rfl rfl ?_
    refine e_icmp_ge (pc := 10) dX4_numberToken_10 (t := 57) (by decide) (fun c_10 => absurd c_10 (by rw [hN, h1]; exact nI_ge hpN (by omega))) (fun _ => ?_)
    refine e_aloadn (pc := 13) dX4_numberToken_13 rfl ?_
    refine e_aloadn (pc := 14) dX4_numberToken_14 rfl ?_
    refine e_get (pc := 15) dX4_numberToken_15 fX4_22 rfl rfl ?_
    refine e_cvD (pc := 18) (sp_x_byteAt (p := p) hL hN hN1 h1 (by omega)) dX4_numberToken_18 kX4_92 rfl rfl rfl rfl rfl (mc_CR_of (Nat.le_of_ble_eq_true rfl) (Nat.le_of_ble_eq_true rfl) (Nat.le_refl _) (Nat.le_refl _)) (Nat.le_of_ble_eq_true rfl) ?_
    rw [eb]
    refine e_csD (pc := 21) (sp_x_isDigit) dX4_numberToken_21 kX4_106 rfl rfl (mc_CR_of (Nat.le_of_ble_eq_true rfl) (Nat.le_of_ble_eq_true rfl) (Nat.le_refl _) (Nat.le_refl _)) (Nat.le_of_ble_eq_true rfl) ?_
    refine e_if_eq (pc := 24) dX4_numberToken_24 (t := 57) (by decide) (fun c_24 => ?_) (fun c_24 => ?_)
    · skip
      refine e_aloadn (pc := 57) dX4_numberToken_57 rfl ?_
      refine e_get (pc := 58) dX4_numberToken_58 fX4_22 rfl rfl ?_
      refine e_aloadn (pc := 61) dX4_numberToken_61 rfl ?_
      refine e_get (pc := 62) dX4_numberToken_62 fX4_44 rfl rfl ?_
      refine e_isub (pc := 65) dX4_numberToken_65 ?_
      rw [if_neg (fun q => by rw [mc_b0.mp c_24] at q; exact absurd q.2 (by decide))] at hV
      subst hV
      refine e_top (y := nI k) eS ?_
      refine e_iconst (v := 4) (pc := 66) dX4_numberToken_66 (by decide) ?_
      refine e_icmp_le (pc := 67) dX4_numberToken_67 (t := 75) (by decide) (fun c_67 => ?_) (fun c_67 => ?_)
      · skip
        refine e_iloadn (pc := 75) dX4_numberToken_75 rfl ?_
        exact e_iret (pc := 76) dX4_numberToken_76 rfl (Nat.le_refl _) (Nat.le_refl _) ⟨by rw [if_neg (show ¬ 4 < k by have := eQ.mp c_67; omega), hv (eQ.mp c_67)], u, h1, hu, rfl⟩
      · skip
        refine e_bipush (v := -27) (pc := 70) dX4_numberToken_70 (by decide) ?_
        refine e_goto (pc := 72) dX4_numberToken_72 (t := 76) (by decide) ?_
        exact e_iret (pc := 76) dX4_numberToken_76 rfl (Nat.le_refl _) (Nat.le_refl _) ⟨by rw [if_pos (show 4 < k from Nat.not_le.mp (fun q => c_67 (eQ.mpr q)))], u, h1, hu, rfl⟩
    · skip
      refine e_bipush (v := 10) (pc := 27) dX4_numberToken_27 (by decide) ?_
      refine e_iloadn (pc := 29) dX4_numberToken_29 rfl ?_
      refine e_imul (pc := 30) dX4_numberToken_30 ?_
      refine e_aloadn (pc := 31) dX4_numberToken_31 rfl ?_
      refine e_aloadn (pc := 32) dX4_numberToken_32 rfl ?_
      refine e_get (pc := 33) dX4_numberToken_33 fX4_22 rfl rfl ?_
      refine e_cvD (pc := 36) (sp_x_byteAt (p := p) hL hN hN1 h1 (by omega)) dX4_numberToken_36 kX4_92 rfl rfl rfl rfl rfl (mc_CR_of (Nat.le_of_ble_eq_true rfl) (Nat.le_of_ble_eq_true rfl) (Nat.le_refl _) (Nat.le_refl _)) (Nat.le_of_ble_eq_true rfl) ?_
      rw [eb]
      refine e_iadd (pc := 39) dX4_numberToken_39 ?_
      refine e_bipush (v := 48) (pc := 40) dX4_numberToken_40 (by decide) ?_
      refine e_isub (pc := 42) dX4_numberToken_42 ?_
      refine e_isn1 (pc := 43) dX4_numberToken_43 (Nat.le_of_ble_eq_true rfl) rfl ?_
      refine e_aloadn (pc := 44) dX4_numberToken_44 rfl ?_
      refine e_dup (pc := 45) dX4_numberToken_45 rfl ?_
      refine e_get (pc := 46) dX4_numberToken_46 fX4_22 rfl rfl ?_
      refine e_iconst (v := 1) (pc := 49) dX4_numberToken_49 (by decide) ?_
      refine e_iadd (pc := 50) dX4_numberToken_50 ?_
      refine put_tape_next (pc := 51) dX4_numberToken_51 pX4_22 ?_
      refine e_goto (pc := 54) dX4_numberToken_54 (t := 2) (by decide) ?_
      exact ih (p + 1) (k + 1) (if k < 4 then 10 * v + xT a p - 48 else 0) _ _ (by omega) (by omega) (fun q => by rw [if_pos (show k < 4 by omega), hv (by omega)]) (by rw [up_at, h1, nI_1]) (fun j hj => by rw [upn hj]; exact hu j hj) (by rw [← hV]; exact (if_pos ⟨hpN, mc_b1.mp c_24⟩).symm)
theorem sp_x_numberToken {s u m n : Nat → Int32} {a c b d : Nat → List Int32} {q : List (Option Nat)} {h : Nat} {z : mc_W} (hL : xL a) {N : Nat} (hN : s 5 = nI N) (hN1 : N ≤ 160) {B : Nat} (hB : u 0 = nI B) (hB1 : u 1 = nI B) (hBN : B ≤ N) : mc_T yX4_numberToken cX4_numberToken 2 (some .int) 2 [.ref 6] (WW s a q u c h m b n d z) (some (.int (if 4 < (yda (xT a) N (N - B) B 0 0).2.1 then -27 else (yda (xT a) N (N - B) B 0 0).2.2))) (fun w1 => ∃ u1 : Nat → Int32, u1 1 = nI (yda (xT a) N (N - B) B 0 0).1 ∧ (∀ j, j ≠ 1 → u1 j = u j) ∧ w1 = (WW s a q u1 c h m b n d z)) := by
  refine mc_start (own := RX4) (ini := false) rfl (by decide +kernel) (fun h => by cases h) (Nat.le_of_ble_eq_true rfl) ?_
  show mc_E _ _ _ _ _ [some (.ref 6), none] [] _ _ _
  refine e_iconst (v := 0) (pc := 0) dX4_numberToken_0 (by decide) ?_
  refine e_isn1 (pc := 1) dX4_numberToken_1 (Nat.le_of_ble_eq_true rfl) rfl ?_
  exact lp_x_num hL hN hN1 (ub := u) hB (N - B) B 0 0 0 u (by omega) (by omega) (fun _ => rfl) hB1 (fun _ _ => rfl) rfl
theorem sp_x_signToken {w : mc_W} {x : Int32} : mc_D yX4_signToken cX4_signToken 1 (some .int) 1 [.int x] w (some (.int (xtm (if ysgn x = true then x else -1) 0))) w := by
  refine mc_start (own := RX4) (ini := false) rfl (by decide +kernel) (fun h => by cases h) (Nat.le_of_ble_eq_true rfl) ?_
  show mc_E _ _ _ _ _ [some (.int x)] [] _ _ _
  refine e_iloadn (pc := 0) dX4_signToken_0 rfl ?_
  by_cases hs_1_40 : x = 40
  · rw [hs_1_40]
    refine e_tabIn (pc := 1) (t := 104) dX4_signToken_1 (by decide) (by decide) rfl (by decide) ?_
    refine e_bipush (v := -20) (pc := 104) dX4_signToken_104 (by decide) ?_
    exact e_iret (pc := 106) dX4_signToken_106 rfl (Nat.le_refl _) (Nat.le_refl _) ⟨by first | rfl | (rw [show ysgn x = false by unfold ysgn; simp_all]; rfl), rfl⟩
  by_cases hs_1_41 : x = 41
  · rw [hs_1_41]
    refine e_tabIn (pc := 1) (t := 107) dX4_signToken_1 (by decide) (by decide) rfl (by decide) ?_
    refine e_bipush (v := -21) (pc := 107) dX4_signToken_107 (by decide) ?_
    exact e_iret (pc := 109) dX4_signToken_109 rfl (Nat.le_refl _) (Nat.le_refl _) ⟨by first | rfl | (rw [show ysgn x = false by unfold ysgn; simp_all]; rfl), rfl⟩
  by_cases hs_1_42 : x = 42
  · rw [hs_1_42]
    refine e_tabIn (pc := 1) (t := 119) dX4_signToken_1 (by decide) (by decide) rfl (by decide) ?_
    refine e_bipush (v := -18) (pc := 119) dX4_signToken_119 (by decide) ?_
    exact e_iret (pc := 121) dX4_signToken_121 rfl (Nat.le_refl _) (Nat.le_refl _) ⟨by first | rfl | (rw [show ysgn x = false by unfold ysgn; simp_all]; rfl), rfl⟩
  by_cases hs_1_43 : x = 43
  · rw [hs_1_43]
    refine e_tabIn (pc := 1) (t := 113) dX4_signToken_1 (by decide) (by decide) rfl (by decide) ?_
    refine e_bipush (v := -16) (pc := 113) dX4_signToken_113 (by decide) ?_
    exact e_iret (pc := 115) dX4_signToken_115 rfl (Nat.le_refl _) (Nat.le_refl _) ⟨by first | rfl | (rw [show ysgn x = false by unfold ysgn; simp_all]; rfl), rfl⟩
  by_cases hs_1_44 : x = 44
  · rw [hs_1_44]
    refine e_tabIn (pc := 1) (t := 128) dX4_signToken_1 (by decide) (by decide) rfl (by decide) ?_
    refine e_bipush (v := -27) (pc := 128) dX4_signToken_128 (by decide) ?_
    exact e_iret (pc := 130) dX4_signToken_130 rfl (Nat.le_refl _) (Nat.le_refl _) ⟨by first | rfl | (rw [show ysgn x = false by unfold ysgn; simp_all]; rfl), rfl⟩
  by_cases hs_1_45 : x = 45
  · rw [hs_1_45]
    refine e_tabIn (pc := 1) (t := 116) dX4_signToken_1 (by decide) (by decide) rfl (by decide) ?_
    refine e_bipush (v := -17) (pc := 116) dX4_signToken_116 (by decide) ?_
    exact e_iret (pc := 118) dX4_signToken_118 rfl (Nat.le_refl _) (Nat.le_refl _) ⟨by first | rfl | (rw [show ysgn x = false by unfold ysgn; simp_all]; rfl), rfl⟩
  by_cases hs_1_46 : x = 46
  · rw [hs_1_46]
    refine e_tabIn (pc := 1) (t := 128) dX4_signToken_1 (by decide) (by decide) rfl (by decide) ?_
    refine e_bipush (v := -27) (pc := 128) dX4_signToken_128 (by decide) ?_
    exact e_iret (pc := 130) dX4_signToken_130 rfl (Nat.le_refl _) (Nat.le_refl _) ⟨by first | rfl | (rw [show ysgn x = false by unfold ysgn; simp_all]; rfl), rfl⟩
  by_cases hs_1_47 : x = 47
  · rw [hs_1_47]
    refine e_tabIn (pc := 1) (t := 128) dX4_signToken_1 (by decide) (by decide) rfl (by decide) ?_
    refine e_bipush (v := -27) (pc := 128) dX4_signToken_128 (by decide) ?_
    exact e_iret (pc := 130) dX4_signToken_130 rfl (Nat.le_refl _) (Nat.le_refl _) ⟨by first | rfl | (rw [show ysgn x = false by unfold ysgn; simp_all]; rfl), rfl⟩
  by_cases hs_1_48 : x = 48
  · rw [hs_1_48]
    refine e_tabIn (pc := 1) (t := 128) dX4_signToken_1 (by decide) (by decide) rfl (by decide) ?_
    refine e_bipush (v := -27) (pc := 128) dX4_signToken_128 (by decide) ?_
    exact e_iret (pc := 130) dX4_signToken_130 rfl (Nat.le_refl _) (Nat.le_refl _) ⟨by first | rfl | (rw [show ysgn x = false by unfold ysgn; simp_all]; rfl), rfl⟩
  by_cases hs_1_49 : x = 49
  · rw [hs_1_49]
    refine e_tabIn (pc := 1) (t := 128) dX4_signToken_1 (by decide) (by decide) rfl (by decide) ?_
    refine e_bipush (v := -27) (pc := 128) dX4_signToken_128 (by decide) ?_
    exact e_iret (pc := 130) dX4_signToken_130 rfl (Nat.le_refl _) (Nat.le_refl _) ⟨by first | rfl | (rw [show ysgn x = false by unfold ysgn; simp_all]; rfl), rfl⟩
  by_cases hs_1_50 : x = 50
  · rw [hs_1_50]
    refine e_tabIn (pc := 1) (t := 128) dX4_signToken_1 (by decide) (by decide) rfl (by decide) ?_
    refine e_bipush (v := -27) (pc := 128) dX4_signToken_128 (by decide) ?_
    exact e_iret (pc := 130) dX4_signToken_130 rfl (Nat.le_refl _) (Nat.le_refl _) ⟨by first | rfl | (rw [show ysgn x = false by unfold ysgn; simp_all]; rfl), rfl⟩
  by_cases hs_1_51 : x = 51
  · rw [hs_1_51]
    refine e_tabIn (pc := 1) (t := 128) dX4_signToken_1 (by decide) (by decide) rfl (by decide) ?_
    refine e_bipush (v := -27) (pc := 128) dX4_signToken_128 (by decide) ?_
    exact e_iret (pc := 130) dX4_signToken_130 rfl (Nat.le_refl _) (Nat.le_refl _) ⟨by first | rfl | (rw [show ysgn x = false by unfold ysgn; simp_all]; rfl), rfl⟩
  by_cases hs_1_52 : x = 52
  · rw [hs_1_52]
    refine e_tabIn (pc := 1) (t := 128) dX4_signToken_1 (by decide) (by decide) rfl (by decide) ?_
    refine e_bipush (v := -27) (pc := 128) dX4_signToken_128 (by decide) ?_
    exact e_iret (pc := 130) dX4_signToken_130 rfl (Nat.le_refl _) (Nat.le_refl _) ⟨by first | rfl | (rw [show ysgn x = false by unfold ysgn; simp_all]; rfl), rfl⟩
  by_cases hs_1_53 : x = 53
  · rw [hs_1_53]
    refine e_tabIn (pc := 1) (t := 128) dX4_signToken_1 (by decide) (by decide) rfl (by decide) ?_
    refine e_bipush (v := -27) (pc := 128) dX4_signToken_128 (by decide) ?_
    exact e_iret (pc := 130) dX4_signToken_130 rfl (Nat.le_refl _) (Nat.le_refl _) ⟨by first | rfl | (rw [show ysgn x = false by unfold ysgn; simp_all]; rfl), rfl⟩
  by_cases hs_1_54 : x = 54
  · rw [hs_1_54]
    refine e_tabIn (pc := 1) (t := 128) dX4_signToken_1 (by decide) (by decide) rfl (by decide) ?_
    refine e_bipush (v := -27) (pc := 128) dX4_signToken_128 (by decide) ?_
    exact e_iret (pc := 130) dX4_signToken_130 rfl (Nat.le_refl _) (Nat.le_refl _) ⟨by first | rfl | (rw [show ysgn x = false by unfold ysgn; simp_all]; rfl), rfl⟩
  by_cases hs_1_55 : x = 55
  · rw [hs_1_55]
    refine e_tabIn (pc := 1) (t := 128) dX4_signToken_1 (by decide) (by decide) rfl (by decide) ?_
    refine e_bipush (v := -27) (pc := 128) dX4_signToken_128 (by decide) ?_
    exact e_iret (pc := 130) dX4_signToken_130 rfl (Nat.le_refl _) (Nat.le_refl _) ⟨by first | rfl | (rw [show ysgn x = false by unfold ysgn; simp_all]; rfl), rfl⟩
  by_cases hs_1_56 : x = 56
  · rw [hs_1_56]
    refine e_tabIn (pc := 1) (t := 128) dX4_signToken_1 (by decide) (by decide) rfl (by decide) ?_
    refine e_bipush (v := -27) (pc := 128) dX4_signToken_128 (by decide) ?_
    exact e_iret (pc := 130) dX4_signToken_130 rfl (Nat.le_refl _) (Nat.le_refl _) ⟨by first | rfl | (rw [show ysgn x = false by unfold ysgn; simp_all]; rfl), rfl⟩
  by_cases hs_1_57 : x = 57
  · rw [hs_1_57]
    refine e_tabIn (pc := 1) (t := 128) dX4_signToken_1 (by decide) (by decide) rfl (by decide) ?_
    refine e_bipush (v := -27) (pc := 128) dX4_signToken_128 (by decide) ?_
    exact e_iret (pc := 130) dX4_signToken_130 rfl (Nat.le_refl _) (Nat.le_refl _) ⟨by first | rfl | (rw [show ysgn x = false by unfold ysgn; simp_all]; rfl), rfl⟩
  by_cases hs_1_58 : x = 58
  · rw [hs_1_58]
    refine e_tabIn (pc := 1) (t := 128) dX4_signToken_1 (by decide) (by decide) rfl (by decide) ?_
    refine e_bipush (v := -27) (pc := 128) dX4_signToken_128 (by decide) ?_
    exact e_iret (pc := 130) dX4_signToken_130 rfl (Nat.le_refl _) (Nat.le_refl _) ⟨by first | rfl | (rw [show ysgn x = false by unfold ysgn; simp_all]; rfl), rfl⟩
  by_cases hs_1_59 : x = 59
  · rw [hs_1_59]
    refine e_tabIn (pc := 1) (t := 110) dX4_signToken_1 (by decide) (by decide) rfl (by decide) ?_
    refine e_bipush (v := -22) (pc := 110) dX4_signToken_110 (by decide) ?_
    exact e_iret (pc := 112) dX4_signToken_112 rfl (Nat.le_refl _) (Nat.le_refl _) ⟨by first | rfl | (rw [show ysgn x = false by unfold ysgn; simp_all]; rfl), rfl⟩
  by_cases hs_1_60 : x = 60
  · rw [hs_1_60]
    refine e_tabIn (pc := 1) (t := 122) dX4_signToken_1 (by decide) (by decide) rfl (by decide) ?_
    refine e_bipush (v := -14) (pc := 122) dX4_signToken_122 (by decide) ?_
    exact e_iret (pc := 124) dX4_signToken_124 rfl (Nat.le_refl _) (Nat.le_refl _) ⟨by first | rfl | (rw [show ysgn x = false by unfold ysgn; simp_all]; rfl), rfl⟩
  by_cases hs_1_61 : x = 61
  · rw [hs_1_61]
    refine e_tabIn (pc := 1) (t := 125) dX4_signToken_1 (by decide) (by decide) rfl (by decide) ?_
    refine e_bipush (v := -15) (pc := 125) dX4_signToken_125 (by decide) ?_
    exact e_iret (pc := 127) dX4_signToken_127 rfl (Nat.le_refl _) (Nat.le_refl _) ⟨by first | rfl | (rw [show ysgn x = false by unfold ysgn; simp_all]; rfl), rfl⟩
  refine e_tabOut (pc := 1) (t := 128) dX4_signToken_1 (mc_tabout (by decide) (fun k h1 h2 => ?_)) (by decide) ?_
  · rcases (show k = 40 ∨ k = 41 ∨ k = 42 ∨ k = 43 ∨ k = 44 ∨ k = 45 ∨ k = 46 ∨ k = 47 ∨ k = 48 ∨ k = 49 ∨ k = 50 ∨ k = 51 ∨ k = 52 ∨ k = 53 ∨ k = 54 ∨ k = 55 ∨ k = 56 ∨ k = 57 ∨ k = 58 ∨ k = 59 ∨ k = 60 ∨ k = 61 by omega) with rfl | rfl | rfl | rfl | rfl | rfl | rfl | rfl | rfl | rfl | rfl | rfl | rfl | rfl | rfl | rfl | rfl | rfl | rfl | rfl | rfl | rfl <;> assumption
  refine e_bipush (v := -27) (pc := 128) dX4_signToken_128 (by decide) ?_
  exact e_iret (pc := 130) dX4_signToken_130 rfl (Nat.le_refl _) (Nat.le_refl _) ⟨by first | rfl | (rw [show ysgn x = false by unfold ysgn; simp_all]; rfl), rfl⟩
theorem ynx_c {T : Nat → Int32} {N A B : Nat} (e : yws T N (N - A) A = B) : ynx T N A = if B = N then (N, N, 0, 0) else if mc_wi (T B) 97 122 = true then (B, ylt T N (N - B) B, ynk (ywo T B (ylt T N (N - B) B) 12 0), ynv (ywo T B (ylt T N (N - B) B) 12 0))
    else if mc_wi (T B) 48 57 = true then (B, (yda T N (N - B) B 0 0).1, (if 4 < (yda T N (N - B) B 0 0).2.1 then -1 else 1), (yda T N (N - B) B 0 0).2.2) else (B, B + 1, (if ysgn (T B) = true then T B else -1), 0) := by
  unfold ynx; rw [e]
/-- what stands next is taken -/
def xNx (R : Nat × Nat × Int32 × Int32) (u u1 : Nat → Int32) : Prop := u1 0 = nI R.1 ∧ u1 1 = nI R.2.1 ∧ u1 2 = xtm R.2.2.1 R.2.2.2 ∧ ∀ j, 3 ≤ j → u1 j = u j
theorem lp_x_ws {s m n : Nat → Int32} {a c b d : Nat → List Int32} {q : List (Option Nat)} {h : Nat} {z : mc_W} {Post : Option Value → mc_W → Prop} (hL : xL a) {N : Nat} (hN : s 5 = nI N) (hN1 : N ≤ 160) {ub : Nat → Int32} {V : Nat}
    (hK : ∀ u, u 0 = nI V → (∀ j, 1 ≤ j → u j = ub j) → mc_E RX4 cX4_goOn 2 (mc_JM none false 7 0 0 Post) 46 [some (.ref 6), none] [] (WW s a q u c h m b n d z) 0 0) :
    ∀ (f p : Nat) (u : Nat → Int32), p + f = N → u 0 = nI p → (∀ j, 1 ≤ j → u j = ub j) → yws (xT a) N f p = V →
      mc_E RX4 cX4_goOn 2 (mc_JM none false 7 0 0 Post) 8 [some (.ref 6), none] [] (WW s a q u c h m b n d z) 0 0 := by
  intro f
  induction f with
  | zero =>
    intro p u hp h0 hu hV
    have e : p = N := by omega
    subst e
    simp only [yws] at hV
    subst hV
    refine e_aloadn (pc := 8) dX4_goOn_8 rfl ?_
    refine e_get (pc := 9) dX4_goOn_9 fX4_44 rfl rfl ?_
    refine e_aloadn (pc := 12) dX4_goOn_12 rfl ?_
    refine e_get (pc := 13) dX4_goOn_13 fX4_18 rfl rfl ?_
    refine e_icmp_ge (pc := 16) dX4_goOn_16 (t := 46) (by decide) (fun _ => ?_) (fun c_16 => absurd (by rw [hN, h0]; exact Int32.le_refl _) c_16)
    exact hK u h0 hu
  | succ f ih =>
    intro p u hp h0 hu hV
    simp only [yws] at hV
    have hpN : p < N := by omega
    have eb : xby (xT a) N p = xT a p := if_pos hpN
    have bl : xbl (xT a p) = true ↔ (xT a p = 32 ∨ xT a p = 10) := by unfold xbl; rw [Bool.or_eq_true, beq_iff_eq, beq_iff_eq]
    refine e_aloadn (pc := 8) dX4_goOn_8 rfl ?_
    refine e_get (pc := 9) dX4_goOn_9 fX4_44 rfl rfl ?_
    refine e_aloadn (pc := 12) dX4_goOn_12 rfl ?_
    refine e_get (pc := 13) dX4_goOn_13 fX4_18 rfl rfl ?_
    refine e_icmp_ge (pc := 16) dX4_goOn_16 (t := 46) (by decide) (fun c_16 => absurd c_16 (by rw [hN, h0]; exact nI_ge hpN (by omega))) (fun _ => ?_)
    refine e_aloadn (pc := 19) dX4_goOn_19 rfl ?_
    refine e_aloadn (pc := 20) dX4_goOn_20 rfl ?_
    refine e_get (pc := 21) dX4_goOn_21 fX4_44 rfl rfl ?_
    refine e_cvD (pc := 24) (sp_x_byteAt (p := p) hL hN hN1 h0 (by omega)) dX4_goOn_24 kX4_92 rfl rfl rfl rfl rfl (mc_CR_of (Nat.le_of_ble_eq_true rfl) (Nat.le_of_ble_eq_true rfl) (Nat.le_refl _) (Nat.le_refl _)) (Nat.le_of_ble_eq_true rfl) ?_
    rw [eb]
    refine e_csD (pc := 27) (sp_x_isBlank) dX4_goOn_27 kX4_96 rfl rfl (mc_CR_of (Nat.le_of_ble_eq_true rfl) (Nat.le_of_ble_eq_true rfl) (Nat.le_refl _) (Nat.le_refl _)) (Nat.le_of_ble_eq_true rfl) ?_
    refine e_if_eq (pc := 30) dX4_goOn_30 (t := 46) (by decide) (fun c_30 => ?_) (fun c_30 => ?_)
    · skip
      rw [if_neg (fun q => absurd (bl.mpr q.2) (by rw [mc_b0.mp c_30]; decide))] at hV
      subst hV
      exact hK u h0 hu
    · skip
      refine e_aloadn (pc := 33) dX4_goOn_33 rfl ?_
      refine e_dup (pc := 34) dX4_goOn_34 rfl ?_
      refine e_get (pc := 35) dX4_goOn_35 fX4_44 rfl rfl ?_
      refine e_iconst (v := 1) (pc := 38) dX4_goOn_38 (by decide) ?_
      refine e_iadd (pc := 39) dX4_goOn_39 ?_
      refine put_tape_at (pc := 40) dX4_goOn_40 pX4_44 ?_
      refine e_goto (pc := 43) dX4_goOn_43 (t := 8) (by decide) ?_
      exact ih (p + 1) _ (by omega) (by rw [up_at, h0, nI_1]) (fun j hj => by rw [upn (by omega)]; exact hu j hj) (by rw [← hV, if_pos ⟨hpN, bl.mp (mc_b1.mp c_30)⟩])
theorem sp_x_goOn {s u m n : Nat → Int32} {a c b d : Nat → List Int32} {q : List (Option Nat)} {h : Nat} {z : mc_W} (hL : xL a) {N : Nat} (hN : s 5 = nI N) (hN1 : N ≤ 160) {A : Nat} (hA : u 1 = nI A) (hAN : A ≤ N) : mc_T yX4_goOn cX4_goOn 2 none 7 [.ref 6] (WW s a q u c h m b n d z) none (fun w1 => ∃ u1, xNx (ynx (xT a) N A) u u1 ∧ w1 = (WW s a q u1 c h m b n d z)) := by
  refine mc_start (own := RX4) (ini := false) rfl (by decide +kernel) (fun h => by cases h) (Nat.le_of_ble_eq_true rfl) ?_
  show mc_E _ _ _ _ _ [some (.ref 6), none] [] _ _ _
  refine e_aloadn (pc := 0) dX4_goOn_0 rfl ?_
  refine e_aloadn (pc := 1) dX4_goOn_1 rfl ?_
  refine e_get (pc := 2) dX4_goOn_2 fX4_22 rfl rfl ?_
  refine put_tape_at (pc := 5) dX4_goOn_5 pX4_44 ?_
  have hB2 := yws_le (xT a) N (N - A) A hAN
  refine lp_x_ws hL hN hN1 (ub := mc_up u 0 (u 1)) (V := yws (xT a) N (N - A) A) ?_ (N - A) A _ (by omega) (by rw [up_at]; exact hA) (fun _ _ => rfl) rfl
  obtain ⟨B, eB⟩ : ∃ B, yws (xT a) N (N - A) A = B := ⟨_, rfl⟩
  have ex := ynx_c eB
  rw [eB] at hB2 ⊢
  obtain ⟨hAB, hBN⟩ := hB2
  intro v hv0 hvu
  rw [ex]
  refine e_aloadn (pc := 46) dX4_goOn_46 rfl ?_
  refine e_aloadn (pc := 47) dX4_goOn_47 rfl ?_
  refine e_get (pc := 48) dX4_goOn_48 fX4_44 rfl rfl ?_
  refine put_tape_next (pc := 51) dX4_goOn_51 pX4_22 ?_
  obtain ⟨u2, e2⟩ : ∃ u2, u2 = mc_up v 1 (v 0) := ⟨_, rfl⟩
  rw [← e2]
  have g0 : u2 0 = nI B := by rw [e2, upn (by decide)]; exact hv0
  have g1 : u2 1 = nI B := by rw [e2, up_at]; exact hv0
  have gu : ∀ j, 3 ≤ j → u2 j = u j := fun j hj => by rw [e2, upn (by omega), hvu j (by omega), upn (by omega)]
  have cl : u2 0 < s 5 ↔ B < N := by rw [g0, hN]; exact (xi_s (by omega) hN1).2
  refine e_aloadn (pc := 54) dX4_goOn_54 rfl ?_
  refine e_aloadn (pc := 55) dX4_goOn_55 rfl ?_
  refine e_get (pc := 56) dX4_goOn_56 fX4_44 rfl rfl ?_
  refine e_cvD (pc := 59) (sp_x_byteAt (p := B) hL hN hN1 g0 (by omega)) dX4_goOn_59 kX4_92 rfl rfl rfl rfl rfl (mc_CR_of (Nat.le_of_ble_eq_true rfl) (Nat.le_of_ble_eq_true rfl) (Nat.le_refl _) (Nat.le_refl _)) (Nat.le_of_ble_eq_true rfl) ?_
  refine e_isn1 (pc := 62) dX4_goOn_62 (Nat.le_of_ble_eq_true rfl) rfl ?_
  refine e_aloadn (pc := 63) dX4_goOn_63 rfl ?_
  refine e_get (pc := 64) dX4_goOn_64 fX4_44 rfl rfl ?_
  refine e_aloadn (pc := 67) dX4_goOn_67 rfl ?_
  refine e_get (pc := 68) dX4_goOn_68 fX4_18 rfl rfl ?_
  refine e_icmp_lt (pc := 71) dX4_goOn_71 (t := 83) (by decide) (fun c_71 => ?_) (fun c_71 => ?_)
  · skip
    refine e_iloadn (pc := 83) dX4_goOn_83 rfl ?_
    refine e_csD (pc := 84) (sp_x_isLetter) dX4_goOn_84 kX4_99 rfl rfl (mc_CR_of (Nat.le_of_ble_eq_true rfl) (Nat.le_of_ble_eq_true rfl) (Nat.le_refl _) (Nat.le_refl _)) (Nat.le_of_ble_eq_true rfl) ?_
    refine e_if_eq (pc := 87) dX4_goOn_87 (t := 101) (by decide) (fun c_87 => ?_) (fun c_87 => ?_)
    · skip
      refine e_iloadn (pc := 101) dX4_goOn_101 rfl ?_
      refine e_csD (pc := 102) (sp_x_isDigit) dX4_goOn_102 kX4_106 rfl rfl (mc_CR_of (Nat.le_of_ble_eq_true rfl) (Nat.le_of_ble_eq_true rfl) (Nat.le_refl _) (Nat.le_refl _)) (Nat.le_of_ble_eq_true rfl) ?_
      refine e_if_eq (pc := 105) dX4_goOn_105 (t := 119) (by decide) (fun c_105 => ?_) (fun c_105 => ?_)
      · skip
        refine e_aloadn (pc := 119) dX4_goOn_119 rfl ?_
        refine e_dup (pc := 120) dX4_goOn_120 rfl ?_
        refine e_get (pc := 121) dX4_goOn_121 fX4_22 rfl rfl ?_
        refine e_iconst (v := 1) (pc := 124) dX4_goOn_124 (by decide) ?_
        refine e_iadd (pc := 125) dX4_goOn_125 ?_
        refine put_tape_next (pc := 126) dX4_goOn_126 pX4_22 ?_
        refine e_aloadn (pc := 129) dX4_goOn_129 rfl ?_
        refine e_iloadn (pc := 130) dX4_goOn_130 rfl ?_
        refine e_csD (pc := 131) (sp_x_signToken) dX4_goOn_131 kX4_112 rfl rfl (mc_CR_of (Nat.le_of_ble_eq_true rfl) (Nat.le_of_ble_eq_true rfl) (Nat.le_refl _) (Nat.le_refl _)) (Nat.le_of_ble_eq_true rfl) ?_
        refine put_tape_token (pc := 134) dX4_goOn_134 pX4_41 ?_
        exact e_vret (pc := 137) dX4_goOn_137 rfl (Nat.le_refl _) (Nat.le_refl _) ⟨rfl, _, by rw [if_neg (show ¬ B = N by have := cl.mp c_71; omega), if_neg (show ¬ mc_wi (xT a B) 97 122 = true by rw [← show xby (xT a) N B = xT a B from if_pos (cl.mp c_71), mc_b0.mp c_87]; decide), if_neg (show ¬ mc_wi (xT a B) 48 57 = true by rw [← show xby (xT a) N B = xT a B from if_pos (cl.mp c_71), mc_b0.mp c_105]; decide)]; exact ⟨by rw [upn (by decide), upn (by decide), g0], by rw [upn (by decide), up_at, g1, nI_1], by rw [up_at, show xby (xT a) N B = xT a B from if_pos (cl.mp c_71)], fun j hj => by rw [upn (by omega), upn (by omega)]; exact gu j hj⟩, rfl⟩
      · skip
        refine e_aloadn (pc := 108) dX4_goOn_108 rfl ?_
        refine e_aloadn (pc := 109) dX4_goOn_109 rfl ?_
        refine e_cvX (pc := 110) (sp_x_numberToken hL hN hN1 g0 g1 hBN) dX4_goOn_110 kX4_109 rfl rfl rfl rfl rfl (mc_CR_of (Nat.le_of_ble_eq_true rfl) (Nat.le_of_ble_eq_true rfl) (Nat.le_refl _) (Nat.le_refl _)) (Nat.le_of_ble_eq_true rfl) (fun w1 hw1 => ?_)
        obtain ⟨u3, h31, hu3, rfl⟩ := hw1
        refine put_tape_token (pc := 113) dX4_goOn_113 pX4_41 ?_
        refine e_goto (pc := 116) dX4_goOn_116 (t := 137) (by decide) ?_
        exact e_vret (pc := 137) dX4_goOn_137 rfl (Nat.le_refl _) (Nat.le_refl _) ⟨rfl, _, by rw [if_neg (show ¬ B = N by have := cl.mp c_71; omega), if_neg (show ¬ mc_wi (xT a B) 97 122 = true by rw [← show xby (xT a) N B = xT a B from if_pos (cl.mp c_71), mc_b0.mp c_87]; decide), if_pos (show mc_wi (xT a B) 48 57 = true by rw [← show xby (xT a) N B = xT a B from if_pos (cl.mp c_71)]; exact mc_b1.mp c_105)]; exact ⟨by rw [upn (by decide), hu3 0 (by decide), g0], by rw [upn (by decide), h31], by rw [up_at]; show _ = xtm (if 4 < (yda (xT a) N (N - B) B 0 0).2.1 then -1 else 1) _; split <;> rfl, fun j hj => by rw [upn (by omega), hu3 j (by omega)]; exact gu j hj⟩, rfl⟩
    · skip
      refine e_aloadn (pc := 90) dX4_goOn_90 rfl ?_
      refine e_aloadn (pc := 91) dX4_goOn_91 rfl ?_
      refine e_cvX (pc := 92) (sp_x_wordToken hL hN hN1 g0 g1 hBN) dX4_goOn_92 kX4_102 rfl rfl rfl rfl rfl (mc_CR_of (Nat.le_of_ble_eq_true rfl) (Nat.le_of_ble_eq_true rfl) (Nat.le_refl _) (Nat.le_refl _)) (Nat.le_of_ble_eq_true rfl) (fun w1 hw1 => ?_)
      obtain ⟨u3, h31, hu3, rfl⟩ := hw1
      refine put_tape_token (pc := 95) dX4_goOn_95 pX4_41 ?_
      refine e_goto (pc := 98) dX4_goOn_98 (t := 137) (by decide) ?_
      exact e_vret (pc := 137) dX4_goOn_137 rfl (Nat.le_refl _) (Nat.le_refl _) ⟨rfl, _, by rw [if_neg (show ¬ B = N by have := cl.mp c_71; omega), if_pos (show mc_wi (xT a B) 97 122 = true by rw [← show xby (xT a) N B = xT a B from if_pos (cl.mp c_71)]; exact mc_b1.mp c_87)]; exact ⟨by rw [upn (by decide), hu3 0 (by decide), g0], by rw [upn (by decide), h31], by rw [up_at]; exact xwt_tm (ylt_let _ _ _ _) (ylt_le (xT a) N (N - B) B hBN).1, fun j hj => by rw [upn (by omega), hu3 j (by omega)]; exact gu j hj⟩, rfl⟩
  · skip
    refine e_aloadn (pc := 74) dX4_goOn_74 rfl ?_
    refine e_bipush (v := -26) (pc := 75) dX4_goOn_75 (by decide) ?_
    refine put_tape_token (pc := 77) dX4_goOn_77 pX4_41 ?_
    refine e_goto (pc := 80) dX4_goOn_80 (t := 137) (by decide) ?_
    exact e_vret (pc := 137) dX4_goOn_137 rfl (Nat.le_refl _) (Nat.le_refl _) ⟨rfl, _, by rw [if_pos (show B = N from Nat.le_antisymm hBN (Nat.not_lt.mp (fun q => c_71 (cl.mpr q))))]; exact ⟨by rw [upn (by decide), g0, show B = N from Nat.le_antisymm hBN (Nat.not_lt.mp (fun q => c_71 (cl.mpr q)))], by rw [upn (by decide), g1, show B = N from Nat.le_antisymm hBN (Nat.not_lt.mp (fun q => c_71 (cl.mpr q)))], by rw [up_at]; rfl, fun j hj => by rw [upn (by omega)]; exact gu j hj⟩, rfl⟩
end Zj_6l_x22
section Zj_6m_x23
/-! ===== a text is read by descent ===== -/
abbrev xR := Nat × Nat × Int32 × Int32
abbrev xP := xR → List Int32 → Bool × xR × List Int32
def xtk1 (R : xR) : Int32 := xtm R.2.2.1 R.2.2.2
def xput (o : List Int32) (x : Int32) : List Int32 := if o.length < 160 then o ++ [x] else o
def xPS (N : Nat) (R : xR) (o : List Int32) (u : Nat → Int32) (c : Nat → List Int32) : Prop := u 0 = nI R.1 ∧ u 1 = nI R.2.1 ∧ u 2 = xtk1 R ∧ u 3 = nI o.length ∧ (c 0).take o.length = o ∧ (c 0).length = 160 ∧ o.length ≤ 160 ∧ R.2.1 ≤ N
def xPK (u u1 : Nat → Int32) (c c1 : Nat → List Int32) : Prop := (∀ j, 4 ≤ j → u1 j = u j) ∧ ∀ j, 1 ≤ j → c1 j = c j
theorem xPK_refl (u : Nat → Int32) (c : Nat → List Int32) : xPK u u c c := ⟨fun _ _ => rfl, fun _ _ => rfl⟩
theorem xPK.trans {u u1 u2 : Nat → Int32} {c c1 c2 : Nat → List Int32} (h : xPK u u1 c c1) (h1 : xPK u1 u2 c1 c2) : xPK u u2 c c2 := ⟨fun j hj => (h1.1 j hj).trans (h.1 j hj), fun j hj => (h1.2 j hj).trans (h.2 j hj)⟩
theorem xPS.nx {T : Nat → Int32} {N : Nat} {R : xR} {o : List Int32} {u u1 : Nat → Int32} {c : Nat → List Int32} (h : xPS N R o u c) (g : xNx (ynx T N R.2.1) u u1) : xPS N (ynx T N R.2.1) o u1 c ∧ xPK u u1 c c :=
  ⟨⟨g.1, g.2.1, g.2.2.1, (g.2.2.2 3 (by decide)).trans h.2.2.2.1, h.2.2.2.2.1, h.2.2.2.2.2.1, h.2.2.2.2.2.2.1, (ynx_lt T N R.2.1 h.2.2.2.2.2.2.2).2.1⟩, fun j hj => g.2.2.2 j (by omega), fun _ _ => rfl⟩
theorem mc_S_mono {y : MethodName} {cc : ByteArray} {nL : Nat} {ret : Option FieldType} {d mc ms : Nat} {av : List Value} {w : mc_W} {P P' : Option Value → mc_W → Prop} (h : mc_S y cc nL ret d mc ms av w P) (hm : ∀ r w, P r w → P' r w) : mc_S y cc nL ret d mc ms av w P' := by
  intro l g p e ha hc hk s m args below hf happ hP hK
  obtain ⟨k, o, h1, h2, h3, ⟨⟨r, w', a1, a2, a3⟩, a4⟩, a5⟩ := h l g p e ha hc hk s m args below hf happ hP hK
  exact ⟨k, o, h1, h2, h3, ⟨⟨r, w', a1, hm _ _ a2, a3⟩, a4⟩, a5⟩
theorem mc_T_w {y : MethodName} {cc : ByteArray} {nL : Nat} {ret : Option FieldType} {d : Nat} {av : List Value} {w : mc_W} {r : Option Value} {Q Q1 : mc_W → Prop} (h : mc_T y cc nL ret d av w r Q) (g : ∀ w1, Q w1 → Q1 w1) : mc_T y cc nL ret d av w r Q1 :=
  mc_S_mono h (fun r1 w1 hh => ⟨hh.1, g w1 hh.2⟩)
theorem sp_x_goOnP {s u m n : Nat → Int32} {a c b d : Nat → List Int32} {q : List (Option Nat)} {h : Nat} {z : mc_W} (hL : xL a) {N : Nat} (hN : s 5 = nI N) (hN1 : N ≤ 160) {R : xR} {o : List Int32} (hP : xPS N R o u c) : mc_T yX4_goOn cX4_goOn 2 none 7 [.ref 6] (WW s a q u c h m b n d z) none (fun w1 => ∃ u1 c1, xPS N (ynx (xT a) N R.2.1) o u1 c1 ∧ xPK u u1 c c1 ∧ w1 = (WW s a q u1 c1 h m b n d z)) := by
  have K := sp_x_goOn (s := s) (u := u) (m := m) (n := n) (a := a) (c := c) (b := b) (d := d) (q := q) (h := h) (z := z) hL hN hN1 hP.2.1 hP.2.2.2.2.2.2.2
  exact mc_T_w K (fun w1 ⟨u1, h1, h2⟩ => ⟨u1, c, (hP.nx h1).1, (hP.nx h1).2, h2⟩)
theorem xput_ps {N : Nat} {R : xR} {o : List Int32} {u : Nat → Int32} {c : Nat → List Int32} {x : Int32} (h : xPS N R o u c) (hl : o.length < 160) : xPS N R (xput o x) (mc_up u 3 (u 3 + 1)) (mc_up c 0 ((c 0).set (u 3).toNatClampNeg x)) := by
  obtain ⟨p0, p1, p2, p3, p4, p5, p6, p7⟩ := h
  have ex : xput o x = o ++ [x] := if_pos hl
  have el : (xput o x).length = o.length + 1 := by rw [ex, List.length_append]; rfl
  refine ⟨by rw [upn (by decide)]; exact p0, by rw [upn (by decide)]; exact p1, by rw [upn (by decide)]; exact p2, by rw [up_at, p3, nI_1, el], ?_, by rw [up_at, List.length_set]; exact p5, by rw [el]; omega, p7⟩
  rw [up_at, el, p3, nIc (by omega), ex]
  refine List.ext_getElem? fun i => ?_
  have g4 : ∀ j, j < o.length → (c 0)[j]? = o[j]? := fun j hj => by
    have := congrArg (fun l : List Int32 => l[j]?) p4
    simp only [List.getElem?_take, if_pos hj] at this
    exact this
  rw [List.getElem?_take, List.getElem?_set]
  by_cases h1 : i < o.length
  · rw [if_pos (by omega), if_neg (by omega), List.getElem?_append_left h1]; exact g4 i h1
  · by_cases h2 : i = o.length
    · subst h2
      rw [if_pos (by omega), if_pos rfl, if_pos (by omega), List.getElem?_append_right (Nat.le_refl _)]
      simp
    · rw [if_neg (by omega), List.getElem?_eq_none (by rw [List.length_append]; simp; omega)]
theorem xput_pk {N : Nat} {R : xR} {o : List Int32} {u : Nat → Int32} {c : Nat → List Int32} {x : Int32} {l : List Int32} (_ : xPS N R o u c) : xPK u (mc_up u 3 x) c (mc_up c 0 l) := ⟨fun j hj => upn (by omega), fun j hj => upn (by omega)⟩
theorem sp_x_putP {s u m n : Nat → Int32} {a c b d : Nat → List Int32} {q : List (Option Nat)} {h : Nat} {z : mc_W} {N : Nat} {R : xR} {o : List Int32} (hP : xPS N R o u c) {x : Int32} : mc_T yX4_put cX4_put 2 none 1 [.ref 6, .int x] (WW s a q u c h m b n d z) none (fun w1 => ∃ u1 c1, xPS N R (xput o x) u1 c1 ∧ xPK u u1 c c1 ∧ w1 = (WW s a q u1 c1 h m b n d z)) := by
  refine mc_start (own := RX4) (ini := false) rfl (by decide +kernel) (fun h => by cases h) (Nat.le_of_ble_eq_true rfl) ?_
  show mc_E _ _ _ _ _ [some (.ref 6), some (.int x)] [] _ _ _
  obtain ⟨p0, p1, p2, p3, p4, p5, p6, p7⟩ := id hP
  have c3 : nI 160 ≤ u 3 ↔ ¬ o.length < 160 := by rw [p3]; exact (xi_s (p := o.length) (N := 160) (by omega) (by omega)).1
  refine e_aloadn (pc := 0) dX4_put_0 rfl ?_
  refine e_get (pc := 1) dX4_put_1 fX4_25 rfl rfl ?_
  refine e_if_lt (pc := 4) dX4_put_4 (t := 39) (by decide) (fun c_4 => absurd c_4 (by rw [p3]; exact nI_pos (by omega))) (fun _ => ?_)
  refine e_aloadn (pc := 7) dX4_put_7 rfl ?_
  refine e_get (pc := 8) dX4_put_8 fX4_25 rfl rfl ?_
  refine e_aloadn (pc := 11) dX4_put_11 rfl ?_
  refine e_get (pc := 12) dX4_put_12 fX4_15 rfl rfl ?_
  refine e_alen (pc := 15) dX4_put_15 rfl (show Int32.ofNat (c 0).length = nI 160 by rw [p5]; rfl) ?_
  refine e_icmp_ge (pc := 16) dX4_put_16 (t := 39) (by decide) (fun c_16 => ?_) (fun c_16 => ?_)
  · skip
    exact e_vret (pc := 39) dX4_put_39 rfl (Nat.le_refl _) (Nat.le_refl _) ⟨rfl, u, c, by unfold xput; rw [if_neg (c3.mp c_16)]; exact hP, xPK_refl u c, rfl⟩
  · skip
    refine e_aloadn (pc := 19) dX4_put_19 rfl ?_
    refine e_get (pc := 20) dX4_put_20 fX4_15 rfl rfl ?_
    refine e_aloadn (pc := 23) dX4_put_23 rfl ?_
    refine e_get (pc := 24) dX4_put_24 fX4_25 rfl rfl ?_
    refine e_iloadn (pc := 27) dX4_put_27 rfl ?_
    refine ast_code (pc := 28) dX4_put_28 (by rw [p3, p5]; exact vp_in_nI (by have := Classical.not_not.mp (fun q => c_16 (c3.mpr q)); omega) (by decide)) ?_
    refine e_aloadn (pc := 29) dX4_put_29 rfl ?_
    refine e_dup (pc := 30) dX4_put_30 rfl ?_
    refine e_get (pc := 31) dX4_put_31 fX4_25 rfl rfl ?_
    refine e_iconst (v := 1) (pc := 34) dX4_put_34 (by decide) ?_
    refine e_iadd (pc := 35) dX4_put_35 ?_
    refine put_tape_codeSize (pc := 36) dX4_put_36 pX4_25 ?_
    exact e_vret (pc := 39) dX4_put_39 rfl (Nat.le_refl _) (Nat.le_refl _) ⟨rfl, _, _, xput_ps hP (Classical.not_not.mp (fun q => c_16 (c3.mpr q))), xput_pk hP, rfl⟩
/-- what stands behind, as often as it does -/
def xlp (T : Nat → Int32) (N : Nat) (p : xP) (M : Int32 → Bool) : Nat → xP
  | 0, R, o => (true, R, o)
  | f + 1, R, o => if M (xtk1 R) = true then (if (p (ynx T N R.2.1) o).1 = true then xlp T N p M f (p (ynx T N R.2.1) o).2.1 (xput (p (ynx T N R.2.1) o).2.2 (xtk1 R)) else (false, (p (ynx T N R.2.1) o).2)) else (true, R, o)
def xrow1 (T : Nat → Int32) (N : Nat) (p : xP) (M : Int32 → Bool) : xP := fun R o => if (p R o).1 = true then xlp T N p M 160 (p R o).2.1 (p R o).2.2 else (false, (p R o).2)
def xM18 (t : Int32) : Bool := t == -18
def xM16 (t : Int32) : Bool := t == -16 || t == -17
def xM12 (t : Int32) : Bool := t == -12
def xM11 (t : Int32) : Bool := t == -11
def xM14 (t : Int32) : Bool := t == -14 || t == -15
/-- not: by the one beneath (none, where no more may be opened) and a sum -/
def xnot (T : Nat → Int32) (N : Nat) (nb : Option xP) (sm : xP) : xP := fun R o =>
  if xtk1 R = -13 then (match nb with | none => (false, R, o) | some nb => if (nb (ynx T N R.2.1) o).1 = true then (true, (nb (ynx T N R.2.1) o).2.1, xput (nb (ynx T N R.2.1) o).2.2 (-13)) else (false, (nb (ynx T N R.2.1) o).2))
  else if (sm R o).1 = true then (if xM14 (xtk1 (sm R o).2.1) = true then (if (sm (ynx T N (sm R o).2.1.2.1) (sm R o).2.2).1 = true then (true, (sm (ynx T N (sm R o).2.1.2.1) (sm R o).2.2).2.1, xput (sm (ynx T N (sm R o).2.1.2.1) (sm R o).2.2).2.2 (xtk1 (sm R o).2.1)) else (false, (sm (ynx T N (sm R o).2.1.2.1) (sm R o).2.2).2)) else (true, (sm R o).2)) else (false, (sm R o).2)
/-- one: by the E and the one beneath -/
def xone (T : Nat → Int32) (N : Nat) (eb : Option (xP × xP)) : xP := fun R o =>
  if -6 ≤ xtk1 R then (true, ynx T N R.2.1, xput o (xtk1 R)) else
  match eb with
  | none => (false, R, o)
  | some (e, b) => if xtk1 R = -20 then (if (e (ynx T N R.2.1) o).1 = true then (if xtk1 (e (ynx T N R.2.1) o).2.1 = -21 then (true, ynx T N (e (ynx T N R.2.1) o).2.1.2.1, (e (ynx T N R.2.1) o).2.2) else (false, (e (ynx T N R.2.1) o).2)) else (false, (e (ynx T N R.2.1) o).2))
    else if xtk1 R = -17 then (if (b (ynx T N R.2.1) o).1 = true then (true, (b (ynx T N R.2.1) o).2.1, xput (b (ynx T N R.2.1) o).2.2 (-19)) else (false, (b (ynx T N R.2.1) o).2)) else (false, R, o)
def xterm (T : Nat → Int32) (N : Nat) (one : xP) : xP := xrow1 T N one xM18
def xsum (T : Nat → Int32) (N : Nat) (one : xP) : xP := xrow1 T N (xterm T N one) xM16
def xand (T : Nat → Int32) (N : Nat) (nt : xP) : xP := xrow1 T N nt xM12
def xE (T : Nat → Int32) (N : Nat) (nt : xP) : xP := xrow1 T N (xand T N nt) xM11
/-- one and not, where g more may be opened -/
def xlv (T : Nat → Int32) (N : Nat) : Nat → xP × xP
  | 0 => (xone T N none, xnot T N none (xsum T N (xone T N none)))
  | g + 1 => (xone T N (some (xE T N (xlv T N g).2, (xlv T N g).1)), xnot T N (some (xlv T N g).2) (xsum T N (xone T N (some (xE T N (xlv T N g).2, (xlv T N g).1)))))
theorem xlv_n0 (T : Nat → Int32) (N : Nat) : (xlv T N 0).2 = xnot T N none (xsum T N (xlv T N 0).1) := by simp only [xlv]
theorem xlv_nS (T : Nat → Int32) (N g : Nat) : (xlv T N (g + 1)).2 = xnot T N (some (xlv T N g).2) (xsum T N (xlv T N (g + 1)).1) := by simp only [xlv]
theorem xlv_o0 (T : Nat → Int32) (N : Nat) : (xlv T N 0).1 = xone T N none := by simp only [xlv]
theorem xlv_oS (T : Nat → Int32) (N g : Nat) : (xlv T N (g + 1)).1 = xone T N (some (xE T N (xlv T N g).2, (xlv T N g).1)) := by simp only [xlv]
theorem sp_x_one0 {s u m n : Nat → Int32} {a c b d : Nat → List Int32} {q : List (Option Nat)} {h : Nat} {z : mc_W} (hL : xL a) {N : Nat} (hN : s 5 = nI N) (hN1 : N ≤ 160) {R : xR} {o : List Int32} (hP : xPS N R o u c) : mc_T yX4_isOne cX4_isOne 2 (some .boolean) 8 [.ref 6, .int 5] (WW s a q u c h m b n d z) (some (.int (mc_b ((xlv (xT a) N 0).1 R o).1))) (fun w1 => ∃ u1 c1, xPS N ((xlv (xT a) N 0).1 R o).2.1 ((xlv (xT a) N 0).1 R o).2.2 u1 c1 ∧ xPK u u1 c c1 ∧ w1 = (WW s a q u1 c1 h m b n d z)) := by
  refine mc_start (own := RX4) (ini := false) rfl (by decide +kernel) (fun h => by cases h) (Nat.le_of_ble_eq_true rfl) ?_
  show mc_E _ _ _ _ _ [some (.ref 6), some (.int 5)] [] _ _ _
  have ht := hP.2.2.1
  refine e_aloadn (pc := 0) dX4_isOne_0 rfl ?_
  refine e_get (pc := 1) dX4_isOne_1 fX4_41 rfl rfl ?_
  refine e_bipush (v := -6) (pc := 4) dX4_isOne_4 (by decide) ?_
  refine e_icmp_lt (pc := 6) dX4_isOne_6 (t := 23) (by decide) (fun c_6 => ?_) (fun c_6 => ?_)
  · skip
    refine e_aloadn (pc := 23) dX4_isOne_23 rfl ?_
    refine e_get (pc := 24) dX4_isOne_24 fX4_41 rfl rfl ?_
    refine e_bipush (v := -17) (pc := 27) dX4_isOne_27 (by decide) ?_
    refine e_icmp_eq (pc := 29) dX4_isOne_29 (t := 41) (by decide) (fun c_29 => ?_) (fun c_29 => ?_)
    · skip
      refine e_iloadn (pc := 41) dX4_isOne_41 rfl ?_
      refine e_iconst (v := 5) (pc := 42) dX4_isOne_42 (by decide) ?_
      refine e_icmp_lt (pc := 43) dX4_isOne_43 (t := 48) (by decide) (fun c_43 => absurd c_43 (by decide)) (fun _ => ?_)
      refine e_iconst (v := 0) (pc := 46) dX4_isOne_46 (by decide) ?_
      exact e_zret (pc := 47) dX4_isOne_47 rfl (by rfl) (Nat.le_refl _) (Nat.le_refl _) (have e : (xlv (xT a) N 0).1 R o = (false, R, o) := (by rw [xlv_o0]; unfold xone; rw [if_neg (show ¬ -6 ≤ xtk1 R by rw [← ht]; exact Int32.not_le.mpr c_6)]); ⟨by rw [e]; rfl, u, c, by rw [e]; dsimp only; exact hP, xPK_refl u c, rfl⟩)
    · skip
      refine e_aloadn (pc := 32) dX4_isOne_32 rfl ?_
      refine e_get (pc := 33) dX4_isOne_33 fX4_41 rfl rfl ?_
      refine e_bipush (v := -20) (pc := 36) dX4_isOne_36 (by decide) ?_
      refine e_icmp_ne (pc := 38) dX4_isOne_38 (t := 46) (by decide) (fun c_38 => ?_) (fun c_38 => ?_)
      · skip
        refine e_iconst (v := 0) (pc := 46) dX4_isOne_46 (by decide) ?_
        exact e_zret (pc := 47) dX4_isOne_47 rfl (by rfl) (Nat.le_refl _) (Nat.le_refl _) (have e : (xlv (xT a) N 0).1 R o = (false, R, o) := (by rw [xlv_o0]; unfold xone; rw [if_neg (show ¬ -6 ≤ xtk1 R by rw [← ht]; exact Int32.not_le.mpr c_6)]); ⟨by rw [e]; rfl, u, c, by rw [e]; dsimp only; exact hP, xPK_refl u c, rfl⟩)
      · skip
        refine e_iloadn (pc := 41) dX4_isOne_41 rfl ?_
        refine e_iconst (v := 5) (pc := 42) dX4_isOne_42 (by decide) ?_
        refine e_icmp_lt (pc := 43) dX4_isOne_43 (t := 48) (by decide) (fun c_43 => absurd c_43 (by decide)) (fun _ => ?_)
        refine e_iconst (v := 0) (pc := 46) dX4_isOne_46 (by decide) ?_
        exact e_zret (pc := 47) dX4_isOne_47 rfl (by rfl) (Nat.le_refl _) (Nat.le_refl _) (have e : (xlv (xT a) N 0).1 R o = (false, R, o) := (by rw [xlv_o0]; unfold xone; rw [if_neg (show ¬ -6 ≤ xtk1 R by rw [← ht]; exact Int32.not_le.mpr c_6)]); ⟨by rw [e]; rfl, u, c, by rw [e]; dsimp only; exact hP, xPK_refl u c, rfl⟩)
  · skip
    refine e_aloadn (pc := 9) dX4_isOne_9 rfl ?_
    refine e_aloadn (pc := 10) dX4_isOne_10 rfl ?_
    refine e_get (pc := 11) dX4_isOne_11 fX4_41 rfl rfl ?_
    refine e_cvY (pc := 14) (sp_x_putP hP) dX4_isOne_14 kX4_76 rfl rfl rfl rfl rfl (mc_CR_of (Nat.le_of_ble_eq_true rfl) (Nat.le_of_ble_eq_true rfl) (Nat.le_refl _) (Nat.le_refl _)) (Nat.le_of_ble_eq_true rfl) (fun w1 hw1 => ?_)
    obtain ⟨u1, c1, hP1, hk1, rfl⟩ := hw1
    rw [ht] at hP1
    refine e_aloadn (pc := 17) dX4_isOne_17 rfl ?_
    refine e_cvY (pc := 18) (sp_x_goOnP hL hN hN1 hP1) dX4_isOne_18 kX4_28 rfl rfl rfl rfl rfl (mc_CR_of (Nat.le_of_ble_eq_true rfl) (Nat.le_of_ble_eq_true rfl) (Nat.le_refl _) (Nat.le_refl _)) (Nat.le_of_ble_eq_true rfl) (fun w1 hw1 => ?_)
    obtain ⟨u2, c2, hP2, hk2, rfl⟩ := hw1
    refine e_iconst (v := 1) (pc := 21) dX4_isOne_21 (by decide) ?_
    exact e_zret (pc := 22) dX4_isOne_22 rfl (by rfl) (Nat.le_refl _) (Nat.le_refl _) (have e : (xlv (xT a) N 0).1 R o = (true, ynx (xT a) N R.2.1, xput o (xtk1 R)) := (by rw [xlv_o0]; unfold xone; rw [if_pos (show -6 ≤ xtk1 R by rw [← ht]; exact Int32.not_lt.mp c_6)]); ⟨by rw [e]; rfl, u2, c2, by rw [e]; dsimp only; exact hP2, hk1.trans hk2, rfl⟩)
theorem lp_x_term0 {s m n : Nat → Int32} {a b d : Nat → List Int32} {q : List (Option Nat)} {h : Nat} {z : mc_W} (hL : xL a) {N : Nat} (hN : s 5 = nI N) (hN1 : N ≤ 160) {ub : Nat → Int32} {cb : Nat → List Int32} {V : Bool × xR × List Int32} :
    ∀ (f i : Nat) (R : xR) (o : List Int32) (u : Nat → Int32) (c : Nat → List Int32), i + f = 160 → xPS N R o u c → xPK ub u cb c → xlp (xT a) N (xlv (xT a) N 0).1 xM18 f R o = V →
      mc_E RX4 cX4_isTerm 3 (mc_JM (some .boolean) false 9 0 0 (fun r' w' => r' = some (.int (mc_b V.1)) ∧ ∃ u1 c1, xPS N V.2.1 V.2.2 u1 c1 ∧ xPK ub u1 cb c1 ∧ w' = (WW s a q u1 c1 h m b n d z))) 12 [some (.ref 6), some (.int 5), some (.int (nI i))] [] (WW s a q u c h m b n d z) 0 0 := by
  intro f
  induction f with
  | zero =>
    intro i R o u c hi hP hkb hV
    have e : i = 160 := by omega
    subst e
    simp only [xlp] at hV
    subst hV
    refine e_iloadn (pc := 12) dX4_isTerm_12 rfl ?_
    refine e_sipush (v := 160) (pc := 13) dX4_isTerm_13 (by decide) ?_
    refine e_icmp_ge (pc := 16) dX4_isTerm_16 (t := 54) (by decide) (fun _ => ?_) (fun c_16 => absurd (by decide) c_16)
    refine e_iconst (v := 1) (pc := 54) dX4_isTerm_54 (by decide) ?_
    exact e_zret (pc := 55) dX4_isTerm_55 rfl (by rfl) (Nat.le_refl _) (Nat.le_refl _) ⟨rfl, u, c, hP, hkb, rfl⟩
  | succ f ih =>
    intro i R o u c hi hP hkb hV
    simp only [xlp] at hV
    have hi1 : i < 160 := by omega
    have ht := hP.2.2.1
    refine e_iloadn (pc := 12) dX4_isTerm_12 rfl ?_
    refine e_sipush (v := 160) (pc := 13) dX4_isTerm_13 (by decide) ?_
    refine e_icmp_ge (pc := 16) dX4_isTerm_16 (t := 54) (by decide) (fun c_16 => absurd c_16 (nI_ge hi1 (by decide))) (fun _ => ?_)
    refine e_aloadn (pc := 19) dX4_isTerm_19 rfl ?_
    refine e_get (pc := 20) dX4_isTerm_20 fX4_41 rfl rfl ?_
    refine e_bipush (v := -18) (pc := 23) dX4_isTerm_23 (by decide) ?_
    refine e_icmp_ne (pc := 25) dX4_isTerm_25 (t := 54) (by decide) (fun c_25 => ?_) (fun c_25 => ?_)
    · skip
      refine e_iconst (v := 1) (pc := 54) dX4_isTerm_54 (by decide) ?_
      exact e_zret (pc := 55) dX4_isTerm_55 rfl (by rfl) (Nat.le_refl _) (Nat.le_refl _) ⟨by rw [← hV, if_neg (show ¬ xM18 (xtk1 R) = true by rw [← ht]; unfold xM18; simp [c_25])]; rfl, u, c, by rw [← hV, if_neg (show ¬ xM18 (xtk1 R) = true by rw [← ht]; unfold xM18; simp [c_25])]; exact hP, hkb, rfl⟩
    · skip
      refine e_aloadn (pc := 28) dX4_isTerm_28 rfl ?_
      refine e_cvY (pc := 29) (sp_x_goOnP hL hN hN1 hP) dX4_isTerm_29 kX4_28 rfl rfl rfl rfl rfl (mc_CR_of (Nat.le_of_ble_eq_true rfl) (Nat.le_of_ble_eq_true rfl) (Nat.le_refl _) (Nat.le_refl _)) (Nat.le_of_ble_eq_true rfl) (fun w1 hw1 => ?_)
      obtain ⟨u1, c1, hP1, hk1, rfl⟩ := hw1
      refine e_aloadn (pc := 32) dX4_isTerm_32 rfl ?_
      refine e_iloadn (pc := 33) dX4_isTerm_33 rfl ?_
      refine e_cvX (pc := 34) (sp_x_one0 hL hN hN1 hP1) dX4_isTerm_34 kX4_89 rfl rfl rfl rfl rfl (mc_CR_of (Nat.le_of_ble_eq_true rfl) (Nat.le_of_ble_eq_true rfl) (Nat.le_refl _) (Nat.le_refl _)) (Nat.le_of_ble_eq_true rfl) (fun w1 hw1 => ?_)
      obtain ⟨u2, c2, hP2, hk2, rfl⟩ := hw1
      refine e_if_ne (pc := 37) dX4_isTerm_37 (t := 42) (by decide) (fun c_37 => ?_) (fun c_37 => ?_)
      · skip
        refine e_aloadn (pc := 42) dX4_isTerm_42 rfl ?_
        refine e_bipush (v := -18) (pc := 43) dX4_isTerm_43 (by decide) ?_
        refine e_cvY (pc := 45) (sp_x_putP hP2) dX4_isTerm_45 kX4_76 rfl rfl rfl rfl rfl (mc_CR_of (Nat.le_of_ble_eq_true rfl) (Nat.le_of_ble_eq_true rfl) (Nat.le_refl _) (Nat.le_refl _)) (Nat.le_of_ble_eq_true rfl) (fun w1 hw1 => ?_)
        obtain ⟨u3, c3, hP3, hk3, rfl⟩ := hw1
        refine e_incC2 (pc := 48) dX4_isTerm_48 (nI_1 i) (Nat.le_of_ble_eq_true rfl) rfl ?_
        refine e_goto (pc := 51) dX4_isTerm_51 (t := 12) (by decide) ?_
        exact ih (i + 1) _ _ _ _ (by omega) (by rw [show (-18 : Int32) = xtk1 R from by rw [← ht, c_25]] at hP3; exact hP3) (((hkb.trans hk1).trans hk2).trans hk3) (by rw [← hV, if_pos (show xM18 (xtk1 R) = true by rw [← ht, c_25]; decide), if_pos (mc_b1.mp c_37)])
      · skip
        refine e_iconst (v := 0) (pc := 40) dX4_isTerm_40 (by decide) ?_
        exact e_zret (pc := 41) dX4_isTerm_41 rfl (by rfl) (Nat.le_refl _) (Nat.le_refl _) ⟨by rw [← hV, if_pos (show xM18 (xtk1 R) = true by rw [← ht, c_25]; decide), if_neg (show ¬ ((xlv (xT a) N 0).1 (ynx (xT a) N R.2.1) o).1 = true by rw [mc_b0.mp c_37]; decide)]; rfl, u2, c2, by rw [← hV, if_pos (show xM18 (xtk1 R) = true by rw [← ht, c_25]; decide), if_neg (show ¬ ((xlv (xT a) N 0).1 (ynx (xT a) N R.2.1) o).1 = true by rw [mc_b0.mp c_37]; decide)]; exact hP2, (hkb.trans hk1).trans hk2, rfl⟩
theorem sp_x_term0 {s u m n : Nat → Int32} {a c b d : Nat → List Int32} {q : List (Option Nat)} {h : Nat} {z : mc_W} (hL : xL a) {N : Nat} (hN : s 5 = nI N) (hN1 : N ≤ 160) {R : xR} {o : List Int32} (hP : xPS N R o u c) : mc_T yX4_isTerm cX4_isTerm 3 (some .boolean) 9 [.ref 6, .int 5] (WW s a q u c h m b n d z) (some (.int (mc_b (xterm (xT a) N (xlv (xT a) N 0).1 R o).1))) (fun w1 => ∃ u1 c1, xPS N (xterm (xT a) N (xlv (xT a) N 0).1 R o).2.1 (xterm (xT a) N (xlv (xT a) N 0).1 R o).2.2 u1 c1 ∧ xPK u u1 c c1 ∧ w1 = (WW s a q u1 c1 h m b n d z)) := by
  refine mc_start (own := RX4) (ini := false) rfl (by decide +kernel) (fun h => by cases h) (Nat.le_of_ble_eq_true rfl) ?_
  show mc_E _ _ _ _ _ [some (.ref 6), some (.int 5), none] [] _ _ _
  refine e_aloadn (pc := 0) dX4_isTerm_0 rfl ?_
  refine e_iloadn (pc := 1) dX4_isTerm_1 rfl ?_
  refine e_cvX (pc := 2) (sp_x_one0 hL hN hN1 hP) dX4_isTerm_2 kX4_89 rfl rfl rfl rfl rfl (mc_CR_of (Nat.le_of_ble_eq_true rfl) (Nat.le_of_ble_eq_true rfl) (Nat.le_refl _) (Nat.le_refl _)) (Nat.le_of_ble_eq_true rfl) (fun w1 hw1 => ?_)
  obtain ⟨u1, c1, hP1, hk1, rfl⟩ := hw1
  refine e_if_ne (pc := 5) dX4_isTerm_5 (t := 10) (by decide) (fun c_5 => ?_) (fun c_5 => ?_)
  · skip
    refine e_iconst (v := 0) (pc := 10) dX4_isTerm_10 (by decide) ?_
    refine e_isn2 (pc := 11) dX4_isTerm_11 (Nat.le_of_ble_eq_true rfl) rfl ?_
    have e : xterm (xT a) N (xlv (xT a) N 0).1 R o = xlp (xT a) N (xlv (xT a) N 0).1 xM18 160 ((xlv (xT a) N 0).1 R o).2.1 ((xlv (xT a) N 0).1 R o).2.2 := if_pos (mc_b1.mp c_5)
    rw [e]
    exact lp_x_term0 hL hN hN1 160 0 _ _ u1 c1 (by omega) hP1 hk1 rfl
  · skip
    refine e_iconst (v := 0) (pc := 8) dX4_isTerm_8 (by decide) ?_
    exact e_zret (pc := 9) dX4_isTerm_9 rfl (by rfl) (Nat.le_refl _) (Nat.le_refl _) (have e : xterm (xT a) N (xlv (xT a) N 0).1 R o = (false, ((xlv (xT a) N 0).1 R o).2) := if_neg (show ¬ ((xlv (xT a) N 0).1 R o).1 = true by rw [mc_b0.mp c_5]; decide); ⟨by rw [e]; rfl, u1, c1, by rw [e]; dsimp only; exact hP1, hk1, rfl⟩)
theorem lp_x_sum0 {s m n : Nat → Int32} {a b d : Nat → List Int32} {q : List (Option Nat)} {h : Nat} {z : mc_W} (hL : xL a) {N : Nat} (hN : s 5 = nI N) (hN1 : N ≤ 160) {ub : Nat → Int32} {cb : Nat → List Int32} {V : Bool × xR × List Int32} :
    ∀ (f i : Nat) (R : xR) (o : List Int32) (u : Nat → Int32) (c : Nat → List Int32) (x3 : Option Value), i + f = 160 → xPS N R o u c → xPK ub u cb c → xlp (xT a) N (xterm (xT a) N (xlv (xT a) N 0).1) xM16 f R o = V →
      mc_E RX4 cX4_isSum 4 (mc_JM (some .boolean) false 10 0 0 (fun r' w' => r' = some (.int (mc_b V.1)) ∧ ∃ u1 c1, xPS N V.2.1 V.2.2 u1 c1 ∧ xPK ub u1 cb c1 ∧ w' = (WW s a q u1 c1 h m b n d z))) 12 [some (.ref 6), some (.int 5), some (.int (nI i)), x3] [] (WW s a q u c h m b n d z) 0 0 := by
  intro f
  induction f with
  | zero =>
    intro i R o u c x3 hi hP hkb hV
    have e : i = 160 := by omega
    subst e
    simp only [xlp] at hV
    subst hV
    refine e_iloadn (pc := 12) dX4_isSum_12 rfl ?_
    refine e_sipush (v := 160) (pc := 13) dX4_isSum_13 (by decide) ?_
    refine e_icmp_ge (pc := 16) dX4_isSum_16 (t := 67) (by decide) (fun _ => ?_) (fun c_16 => absurd (by decide) c_16)
    refine e_iconst (v := 1) (pc := 67) dX4_isSum_67 (by decide) ?_
    exact e_zret (pc := 68) dX4_isSum_68 rfl (by rfl) (Nat.le_refl _) (Nat.le_refl _) ⟨rfl, u, c, hP, hkb, rfl⟩
  | succ f ih =>
    intro i R o u c x3 hi hP hkb hV
    simp only [xlp] at hV
    have hi1 : i < 160 := by omega
    have ht := hP.2.2.1
    refine e_iloadn (pc := 12) dX4_isSum_12 rfl ?_
    refine e_sipush (v := 160) (pc := 13) dX4_isSum_13 (by decide) ?_
    refine e_icmp_ge (pc := 16) dX4_isSum_16 (t := 67) (by decide) (fun c_16 => absurd c_16 (nI_ge hi1 (by decide))) (fun _ => ?_)
    refine e_aloadn (pc := 19) dX4_isSum_19 rfl ?_
    refine e_get (pc := 20) dX4_isSum_20 fX4_41 rfl rfl ?_
    refine e_bipush (v := -16) (pc := 23) dX4_isSum_23 (by decide) ?_
    refine e_icmp_eq (pc := 25) dX4_isSum_25 (t := 37) (by decide) (fun c_25 => ?_) (fun c_25 => ?_)
    · skip
      refine e_aloadn (pc := 37) dX4_isSum_37 rfl ?_
      refine e_get (pc := 38) dX4_isSum_38 fX4_41 rfl rfl ?_
      refine e_isn3 (pc := 41) dX4_isSum_41 (Nat.le_of_ble_eq_true rfl) rfl ?_
      refine e_aloadn (pc := 42) dX4_isSum_42 rfl ?_
      refine e_cvY (pc := 43) (sp_x_goOnP hL hN hN1 hP) dX4_isSum_43 kX4_28 rfl rfl rfl rfl rfl (mc_CR_of (Nat.le_of_ble_eq_true rfl) (Nat.le_of_ble_eq_true rfl) (Nat.le_refl _) (Nat.le_refl _)) (Nat.le_of_ble_eq_true rfl) (fun w1 hw1 => ?_)
      obtain ⟨u1, c1, hP1, hk1, rfl⟩ := hw1
      refine e_aloadn (pc := 46) dX4_isSum_46 rfl ?_
      refine e_iloadn (pc := 47) dX4_isSum_47 rfl ?_
      refine e_cvX (pc := 48) (sp_x_term0 hL hN hN1 hP1) dX4_isSum_48 kX4_86 rfl rfl rfl rfl rfl (mc_CR_of (Nat.le_of_ble_eq_true rfl) (Nat.le_of_ble_eq_true rfl) (Nat.le_refl _) (Nat.le_refl _)) (Nat.le_of_ble_eq_true rfl) (fun w1 hw1 => ?_)
      obtain ⟨u2, c2, hP2, hk2, rfl⟩ := hw1
      refine e_if_ne (pc := 51) dX4_isSum_51 (t := 56) (by decide) (fun c_51 => ?_) (fun c_51 => ?_)
      · skip
        refine e_aloadn (pc := 56) dX4_isSum_56 rfl ?_
        refine e_iloadn (pc := 57) dX4_isSum_57 rfl ?_
        refine e_cvY (pc := 58) (sp_x_putP hP2) dX4_isSum_58 kX4_76 rfl rfl rfl rfl rfl (mc_CR_of (Nat.le_of_ble_eq_true rfl) (Nat.le_of_ble_eq_true rfl) (Nat.le_refl _) (Nat.le_refl _)) (Nat.le_of_ble_eq_true rfl) (fun w1 hw1 => ?_)
        obtain ⟨u3, c3, hP3, hk3, rfl⟩ := hw1
        refine e_incC2 (pc := 61) dX4_isSum_61 (nI_1 i) (Nat.le_of_ble_eq_true rfl) rfl ?_
        refine e_goto (pc := 64) dX4_isSum_64 (t := 12) (by decide) ?_
        exact ih (i + 1) _ _ _ _ _ (by omega) (by rw [show u 2 = xtk1 R from ht] at hP3; exact hP3) (((hkb.trans hk1).trans hk2).trans hk3) (by rw [← hV, if_pos (show xM16 (xtk1 R) = true by rw [← ht, c_25]; decide), if_pos (mc_b1.mp c_51)])
      · skip
        refine e_iconst (v := 0) (pc := 54) dX4_isSum_54 (by decide) ?_
        exact e_zret (pc := 55) dX4_isSum_55 rfl (by rfl) (Nat.le_refl _) (Nat.le_refl _) ⟨by rw [← hV, if_pos (show xM16 (xtk1 R) = true by rw [← ht, c_25]; decide), if_neg (show ¬ ((xterm (xT a) N (xlv (xT a) N 0).1) (ynx (xT a) N R.2.1) o).1 = true by rw [mc_b0.mp c_51]; decide)]; rfl, u2, c2, by rw [← hV, if_pos (show xM16 (xtk1 R) = true by rw [← ht, c_25]; decide), if_neg (show ¬ ((xterm (xT a) N (xlv (xT a) N 0).1) (ynx (xT a) N R.2.1) o).1 = true by rw [mc_b0.mp c_51]; decide)]; exact hP2, (hkb.trans hk1).trans hk2, rfl⟩
    · skip
      refine e_aloadn (pc := 28) dX4_isSum_28 rfl ?_
      refine e_get (pc := 29) dX4_isSum_29 fX4_41 rfl rfl ?_
      refine e_bipush (v := -17) (pc := 32) dX4_isSum_32 (by decide) ?_
      refine e_icmp_ne (pc := 34) dX4_isSum_34 (t := 67) (by decide) (fun c_34 => ?_) (fun c_34 => ?_)
      · skip
        refine e_iconst (v := 1) (pc := 67) dX4_isSum_67 (by decide) ?_
        exact e_zret (pc := 68) dX4_isSum_68 rfl (by rfl) (Nat.le_refl _) (Nat.le_refl _) ⟨by rw [← hV, if_neg (show ¬ xM16 (xtk1 R) = true by rw [← ht]; unfold xM16; simp [c_25, c_34])]; rfl, u, c, by rw [← hV, if_neg (show ¬ xM16 (xtk1 R) = true by rw [← ht]; unfold xM16; simp [c_25, c_34])]; exact hP, hkb, rfl⟩
      · skip
        refine e_aloadn (pc := 37) dX4_isSum_37 rfl ?_
        refine e_get (pc := 38) dX4_isSum_38 fX4_41 rfl rfl ?_
        refine e_isn3 (pc := 41) dX4_isSum_41 (Nat.le_of_ble_eq_true rfl) rfl ?_
        refine e_aloadn (pc := 42) dX4_isSum_42 rfl ?_
        refine e_cvY (pc := 43) (sp_x_goOnP hL hN hN1 hP) dX4_isSum_43 kX4_28 rfl rfl rfl rfl rfl (mc_CR_of (Nat.le_of_ble_eq_true rfl) (Nat.le_of_ble_eq_true rfl) (Nat.le_refl _) (Nat.le_refl _)) (Nat.le_of_ble_eq_true rfl) (fun w1 hw1 => ?_)
        obtain ⟨u1, c1, hP1, hk1, rfl⟩ := hw1
        refine e_aloadn (pc := 46) dX4_isSum_46 rfl ?_
        refine e_iloadn (pc := 47) dX4_isSum_47 rfl ?_
        refine e_cvX (pc := 48) (sp_x_term0 hL hN hN1 hP1) dX4_isSum_48 kX4_86 rfl rfl rfl rfl rfl (mc_CR_of (Nat.le_of_ble_eq_true rfl) (Nat.le_of_ble_eq_true rfl) (Nat.le_refl _) (Nat.le_refl _)) (Nat.le_of_ble_eq_true rfl) (fun w1 hw1 => ?_)
        obtain ⟨u2, c2, hP2, hk2, rfl⟩ := hw1
        refine e_if_ne (pc := 51) dX4_isSum_51 (t := 56) (by decide) (fun c_51 => ?_) (fun c_51 => ?_)
        · skip
          refine e_aloadn (pc := 56) dX4_isSum_56 rfl ?_
          refine e_iloadn (pc := 57) dX4_isSum_57 rfl ?_
          refine e_cvY (pc := 58) (sp_x_putP hP2) dX4_isSum_58 kX4_76 rfl rfl rfl rfl rfl (mc_CR_of (Nat.le_of_ble_eq_true rfl) (Nat.le_of_ble_eq_true rfl) (Nat.le_refl _) (Nat.le_refl _)) (Nat.le_of_ble_eq_true rfl) (fun w1 hw1 => ?_)
          obtain ⟨u3, c3, hP3, hk3, rfl⟩ := hw1
          refine e_incC2 (pc := 61) dX4_isSum_61 (nI_1 i) (Nat.le_of_ble_eq_true rfl) rfl ?_
          refine e_goto (pc := 64) dX4_isSum_64 (t := 12) (by decide) ?_
          exact ih (i + 1) _ _ _ _ _ (by omega) (by rw [show u 2 = xtk1 R from ht] at hP3; exact hP3) (((hkb.trans hk1).trans hk2).trans hk3) (by rw [← hV, if_pos (show xM16 (xtk1 R) = true by rw [← ht, c_34]; decide), if_pos (mc_b1.mp c_51)])
        · skip
          refine e_iconst (v := 0) (pc := 54) dX4_isSum_54 (by decide) ?_
          exact e_zret (pc := 55) dX4_isSum_55 rfl (by rfl) (Nat.le_refl _) (Nat.le_refl _) ⟨by rw [← hV, if_pos (show xM16 (xtk1 R) = true by rw [← ht, c_34]; decide), if_neg (show ¬ ((xterm (xT a) N (xlv (xT a) N 0).1) (ynx (xT a) N R.2.1) o).1 = true by rw [mc_b0.mp c_51]; decide)]; rfl, u2, c2, by rw [← hV, if_pos (show xM16 (xtk1 R) = true by rw [← ht, c_34]; decide), if_neg (show ¬ ((xterm (xT a) N (xlv (xT a) N 0).1) (ynx (xT a) N R.2.1) o).1 = true by rw [mc_b0.mp c_51]; decide)]; exact hP2, (hkb.trans hk1).trans hk2, rfl⟩
theorem sp_x_sum0 {s u m n : Nat → Int32} {a c b d : Nat → List Int32} {q : List (Option Nat)} {h : Nat} {z : mc_W} (hL : xL a) {N : Nat} (hN : s 5 = nI N) (hN1 : N ≤ 160) {R : xR} {o : List Int32} (hP : xPS N R o u c) : mc_T yX4_isSum cX4_isSum 4 (some .boolean) 10 [.ref 6, .int 5] (WW s a q u c h m b n d z) (some (.int (mc_b (xsum (xT a) N (xlv (xT a) N 0).1 R o).1))) (fun w1 => ∃ u1 c1, xPS N (xsum (xT a) N (xlv (xT a) N 0).1 R o).2.1 (xsum (xT a) N (xlv (xT a) N 0).1 R o).2.2 u1 c1 ∧ xPK u u1 c c1 ∧ w1 = (WW s a q u1 c1 h m b n d z)) := by
  refine mc_start (own := RX4) (ini := false) rfl (by decide +kernel) (fun h => by cases h) (Nat.le_of_ble_eq_true rfl) ?_
  show mc_E _ _ _ _ _ [some (.ref 6), some (.int 5), none, none] [] _ _ _
  refine e_aloadn (pc := 0) dX4_isSum_0 rfl ?_
  refine e_iloadn (pc := 1) dX4_isSum_1 rfl ?_
  refine e_cvX (pc := 2) (sp_x_term0 hL hN hN1 hP) dX4_isSum_2 kX4_86 rfl rfl rfl rfl rfl (mc_CR_of (Nat.le_of_ble_eq_true rfl) (Nat.le_of_ble_eq_true rfl) (Nat.le_refl _) (Nat.le_refl _)) (Nat.le_of_ble_eq_true rfl) (fun w1 hw1 => ?_)
  obtain ⟨u1, c1, hP1, hk1, rfl⟩ := hw1
  refine e_if_ne (pc := 5) dX4_isSum_5 (t := 10) (by decide) (fun c_5 => ?_) (fun c_5 => ?_)
  · skip
    refine e_iconst (v := 0) (pc := 10) dX4_isSum_10 (by decide) ?_
    refine e_isn2 (pc := 11) dX4_isSum_11 (Nat.le_of_ble_eq_true rfl) rfl ?_
    have e : xsum (xT a) N (xlv (xT a) N 0).1 R o = xlp (xT a) N (xterm (xT a) N (xlv (xT a) N 0).1) xM16 160 ((xterm (xT a) N (xlv (xT a) N 0).1) R o).2.1 ((xterm (xT a) N (xlv (xT a) N 0).1) R o).2.2 := if_pos (mc_b1.mp c_5)
    rw [e]
    exact lp_x_sum0 hL hN hN1 160 0 _ _ u1 c1 _ (by omega) hP1 hk1 rfl
  · skip
    refine e_iconst (v := 0) (pc := 8) dX4_isSum_8 (by decide) ?_
    exact e_zret (pc := 9) dX4_isSum_9 rfl (by rfl) (Nat.le_refl _) (Nat.le_refl _) (have e : xsum (xT a) N (xlv (xT a) N 0).1 R o = (false, ((xterm (xT a) N (xlv (xT a) N 0).1) R o).2) := if_neg (show ¬ ((xterm (xT a) N (xlv (xT a) N 0).1) R o).1 = true by rw [mc_b0.mp c_5]; decide); ⟨by rw [e]; rfl, u1, c1, by rw [e]; dsimp only; exact hP1, hk1, rfl⟩)
theorem sp_x_not0 {s u m n : Nat → Int32} {a c b d : Nat → List Int32} {q : List (Option Nat)} {h : Nat} {z : mc_W} (hL : xL a) {N : Nat} (hN : s 5 = nI N) (hN1 : N ≤ 160) {R : xR} {o : List Int32} (hP : xPS N R o u c) : mc_T yX4_isNot cX4_isNot 3 (some .boolean) 11 [.ref 6, .int 5] (WW s a q u c h m b n d z) (some (.int (mc_b ((xlv (xT a) N 0).2 R o).1))) (fun w1 => ∃ u1 c1, xPS N ((xlv (xT a) N 0).2 R o).2.1 ((xlv (xT a) N 0).2 R o).2.2 u1 c1 ∧ xPK u u1 c c1 ∧ w1 = (WW s a q u1 c1 h m b n d z)) := by
  refine mc_start (own := RX4) (ini := false) rfl (by decide +kernel) (fun h => by cases h) (Nat.le_of_ble_eq_true rfl) ?_
  show mc_E _ _ _ _ _ [some (.ref 6), some (.int 5), none] [] _ _ _
  have ht := hP.2.2.1
  refine e_aloadn (pc := 0) dX4_isNot_0 rfl ?_
  refine e_get (pc := 1) dX4_isNot_1 fX4_41 rfl rfl ?_
  refine e_bipush (v := -13) (pc := 4) dX4_isNot_4 (by decide) ?_
  refine e_icmp_ne (pc := 6) dX4_isNot_6 (t := 40) (by decide) (fun c_6 => ?_) (fun c_6 => ?_)
  · skip
    refine e_aloadn (pc := 40) dX4_isNot_40 rfl ?_
    refine e_iloadn (pc := 41) dX4_isNot_41 rfl ?_
    refine e_cvX (pc := 42) (sp_x_sum0 hL hN hN1 hP) dX4_isNot_42 kX4_83 rfl rfl rfl rfl rfl (mc_CR_of (Nat.le_of_ble_eq_true rfl) (Nat.le_of_ble_eq_true rfl) (Nat.le_refl _) (Nat.le_refl _)) (Nat.le_of_ble_eq_true rfl) (fun w1 hw1 => ?_)
    obtain ⟨u1, c1, hP1, hk1, rfl⟩ := hw1
    refine e_if_ne (pc := 45) dX4_isNot_45 (t := 50) (by decide) (fun c_45 => ?_) (fun c_45 => ?_)
    · skip
      refine e_aloadn (pc := 50) dX4_isNot_50 rfl ?_
      refine e_get (pc := 51) dX4_isNot_51 fX4_41 rfl rfl ?_
      refine e_isn2 (pc := 54) dX4_isNot_54 (Nat.le_of_ble_eq_true rfl) rfl ?_
      refine e_iloadn (pc := 55) dX4_isNot_55 rfl ?_
      refine e_bipush (v := -14) (pc := 56) dX4_isNot_56 (by decide) ?_
      refine e_icmp_eq (pc := 58) dX4_isNot_58 (t := 67) (by decide) (fun c_58 => ?_) (fun c_58 => ?_)
      · skip
        refine e_aloadn (pc := 67) dX4_isNot_67 rfl ?_
        refine e_cvY (pc := 68) (sp_x_goOnP hL hN hN1 hP1) dX4_isNot_68 kX4_28 rfl rfl rfl rfl rfl (mc_CR_of (Nat.le_of_ble_eq_true rfl) (Nat.le_of_ble_eq_true rfl) (Nat.le_refl _) (Nat.le_refl _)) (Nat.le_of_ble_eq_true rfl) (fun w1 hw1 => ?_)
        obtain ⟨u2, c2, hP2, hk2, rfl⟩ := hw1
        refine e_aloadn (pc := 71) dX4_isNot_71 rfl ?_
        refine e_iloadn (pc := 72) dX4_isNot_72 rfl ?_
        refine e_cvX (pc := 73) (sp_x_sum0 hL hN hN1 hP2) dX4_isNot_73 kX4_83 rfl rfl rfl rfl rfl (mc_CR_of (Nat.le_of_ble_eq_true rfl) (Nat.le_of_ble_eq_true rfl) (Nat.le_refl _) (Nat.le_refl _)) (Nat.le_of_ble_eq_true rfl) (fun w1 hw1 => ?_)
        obtain ⟨u3, c3, hP3, hk3, rfl⟩ := hw1
        refine e_if_ne (pc := 76) dX4_isNot_76 (t := 81) (by decide) (fun c_76 => ?_) (fun c_76 => ?_)
        · skip
          refine e_aloadn (pc := 81) dX4_isNot_81 rfl ?_
          refine e_iloadn (pc := 82) dX4_isNot_82 rfl ?_
          refine e_cvY (pc := 83) (sp_x_putP hP3) dX4_isNot_83 kX4_76 rfl rfl rfl rfl rfl (mc_CR_of (Nat.le_of_ble_eq_true rfl) (Nat.le_of_ble_eq_true rfl) (Nat.le_refl _) (Nat.le_refl _)) (Nat.le_of_ble_eq_true rfl) (fun w1 hw1 => ?_)
          obtain ⟨u4, c4, hP4, hk4, rfl⟩ := hw1
          refine e_iconst (v := 1) (pc := 86) dX4_isNot_86 (by decide) ?_
          exact e_zret (pc := 87) dX4_isNot_87 rfl (by rfl) (Nat.le_refl _) (Nat.le_refl _) (have e : (xlv (xT a) N 0).2 R o = (true, (xsum (xT a) N (xlv (xT a) N 0).1 (ynx (xT a) N (xsum (xT a) N (xlv (xT a) N 0).1 R o).2.1.2.1) (xsum (xT a) N (xlv (xT a) N 0).1 R o).2.2).2.1, xput (xsum (xT a) N (xlv (xT a) N 0).1 (ynx (xT a) N (xsum (xT a) N (xlv (xT a) N 0).1 R o).2.1.2.1) (xsum (xT a) N (xlv (xT a) N 0).1 R o).2.2).2.2 (xtk1 (xsum (xT a) N (xlv (xT a) N 0).1 R o).2.1)) := (by rw [xlv_n0]; simp only [xnot]; rw [if_neg (show ¬ xtk1 R = -13 by rw [← ht]; exact c_6), if_pos (mc_b1.mp c_45), if_pos (show xM14 (xtk1 (xsum (xT a) N (xlv (xT a) N 0).1 R o).2.1) = true by rw [← hP1.2.2.1, c_58]; decide), if_pos (mc_b1.mp c_76)]); ⟨by rw [e]; rfl, u4, c4, (hP1.2.2.1 ▸ hP4 : xPS N (xsum (xT a) N (xlv (xT a) N 0).1 (ynx (xT a) N (xsum (xT a) N (xlv (xT a) N 0).1 R o).2.1.2.1) (xsum (xT a) N (xlv (xT a) N 0).1 R o).2.2).2.1 (xput (xsum (xT a) N (xlv (xT a) N 0).1 (ynx (xT a) N (xsum (xT a) N (xlv (xT a) N 0).1 R o).2.1.2.1) (xsum (xT a) N (xlv (xT a) N 0).1 R o).2.2).2.2 (xtk1 (xsum (xT a) N (xlv (xT a) N 0).1 R o).2.1)) u4 c4) |> (fun t => by rw [e]; dsimp only; exact t), ((hk1.trans hk2).trans hk3).trans hk4, rfl⟩)
        · skip
          refine e_iconst (v := 0) (pc := 79) dX4_isNot_79 (by decide) ?_
          exact e_zret (pc := 80) dX4_isNot_80 rfl (by rfl) (Nat.le_refl _) (Nat.le_refl _) (have e : (xlv (xT a) N 0).2 R o = (false, (xsum (xT a) N (xlv (xT a) N 0).1 (ynx (xT a) N (xsum (xT a) N (xlv (xT a) N 0).1 R o).2.1.2.1) (xsum (xT a) N (xlv (xT a) N 0).1 R o).2.2).2) := (by rw [xlv_n0]; simp only [xnot]; rw [if_neg (show ¬ xtk1 R = -13 by rw [← ht]; exact c_6), if_pos (mc_b1.mp c_45), if_pos (show xM14 (xtk1 (xsum (xT a) N (xlv (xT a) N 0).1 R o).2.1) = true by rw [← hP1.2.2.1, c_58]; decide), if_neg (show ¬ (xsum (xT a) N (xlv (xT a) N 0).1 (ynx (xT a) N (xsum (xT a) N (xlv (xT a) N 0).1 R o).2.1.2.1) (xsum (xT a) N (xlv (xT a) N 0).1 R o).2.2).1 = true by rw [mc_b0.mp c_76]; decide)]); ⟨by rw [e]; rfl, u3, c3, by rw [e]; dsimp only; exact hP3, (hk1.trans hk2).trans hk3, rfl⟩)
      · skip
        refine e_iloadn (pc := 61) dX4_isNot_61 rfl ?_
        refine e_bipush (v := -15) (pc := 62) dX4_isNot_62 (by decide) ?_
        refine e_icmp_ne (pc := 64) dX4_isNot_64 (t := 86) (by decide) (fun c_64 => ?_) (fun c_64 => ?_)
        · skip
          refine e_iconst (v := 1) (pc := 86) dX4_isNot_86 (by decide) ?_
          exact e_zret (pc := 87) dX4_isNot_87 rfl (by rfl) (Nat.le_refl _) (Nat.le_refl _) (have e : (xlv (xT a) N 0).2 R o = (true, (xsum (xT a) N (xlv (xT a) N 0).1 R o).2) := (by rw [xlv_n0]; simp only [xnot]; rw [if_neg (show ¬ xtk1 R = -13 by rw [← ht]; exact c_6), if_pos (mc_b1.mp c_45), if_neg (show ¬ xM14 (xtk1 (xsum (xT a) N (xlv (xT a) N 0).1 R o).2.1) = true by rw [← hP1.2.2.1]; unfold xM14; simp [c_58, c_64])]); ⟨by rw [e]; rfl, u1, c1, by rw [e]; dsimp only; exact hP1, hk1, rfl⟩)
        · skip
          refine e_aloadn (pc := 67) dX4_isNot_67 rfl ?_
          refine e_cvY (pc := 68) (sp_x_goOnP hL hN hN1 hP1) dX4_isNot_68 kX4_28 rfl rfl rfl rfl rfl (mc_CR_of (Nat.le_of_ble_eq_true rfl) (Nat.le_of_ble_eq_true rfl) (Nat.le_refl _) (Nat.le_refl _)) (Nat.le_of_ble_eq_true rfl) (fun w1 hw1 => ?_)
          obtain ⟨u2, c2, hP2, hk2, rfl⟩ := hw1
          refine e_aloadn (pc := 71) dX4_isNot_71 rfl ?_
          refine e_iloadn (pc := 72) dX4_isNot_72 rfl ?_
          refine e_cvX (pc := 73) (sp_x_sum0 hL hN hN1 hP2) dX4_isNot_73 kX4_83 rfl rfl rfl rfl rfl (mc_CR_of (Nat.le_of_ble_eq_true rfl) (Nat.le_of_ble_eq_true rfl) (Nat.le_refl _) (Nat.le_refl _)) (Nat.le_of_ble_eq_true rfl) (fun w1 hw1 => ?_)
          obtain ⟨u3, c3, hP3, hk3, rfl⟩ := hw1
          refine e_if_ne (pc := 76) dX4_isNot_76 (t := 81) (by decide) (fun c_76 => ?_) (fun c_76 => ?_)
          · skip
            refine e_aloadn (pc := 81) dX4_isNot_81 rfl ?_
            refine e_iloadn (pc := 82) dX4_isNot_82 rfl ?_
            refine e_cvY (pc := 83) (sp_x_putP hP3) dX4_isNot_83 kX4_76 rfl rfl rfl rfl rfl (mc_CR_of (Nat.le_of_ble_eq_true rfl) (Nat.le_of_ble_eq_true rfl) (Nat.le_refl _) (Nat.le_refl _)) (Nat.le_of_ble_eq_true rfl) (fun w1 hw1 => ?_)
            obtain ⟨u4, c4, hP4, hk4, rfl⟩ := hw1
            refine e_iconst (v := 1) (pc := 86) dX4_isNot_86 (by decide) ?_
            exact e_zret (pc := 87) dX4_isNot_87 rfl (by rfl) (Nat.le_refl _) (Nat.le_refl _) (have e : (xlv (xT a) N 0).2 R o = (true, (xsum (xT a) N (xlv (xT a) N 0).1 (ynx (xT a) N (xsum (xT a) N (xlv (xT a) N 0).1 R o).2.1.2.1) (xsum (xT a) N (xlv (xT a) N 0).1 R o).2.2).2.1, xput (xsum (xT a) N (xlv (xT a) N 0).1 (ynx (xT a) N (xsum (xT a) N (xlv (xT a) N 0).1 R o).2.1.2.1) (xsum (xT a) N (xlv (xT a) N 0).1 R o).2.2).2.2 (xtk1 (xsum (xT a) N (xlv (xT a) N 0).1 R o).2.1)) := (by rw [xlv_n0]; simp only [xnot]; rw [if_neg (show ¬ xtk1 R = -13 by rw [← ht]; exact c_6), if_pos (mc_b1.mp c_45), if_pos (show xM14 (xtk1 (xsum (xT a) N (xlv (xT a) N 0).1 R o).2.1) = true by rw [← hP1.2.2.1, c_64]; decide), if_pos (mc_b1.mp c_76)]); ⟨by rw [e]; rfl, u4, c4, (hP1.2.2.1 ▸ hP4 : xPS N (xsum (xT a) N (xlv (xT a) N 0).1 (ynx (xT a) N (xsum (xT a) N (xlv (xT a) N 0).1 R o).2.1.2.1) (xsum (xT a) N (xlv (xT a) N 0).1 R o).2.2).2.1 (xput (xsum (xT a) N (xlv (xT a) N 0).1 (ynx (xT a) N (xsum (xT a) N (xlv (xT a) N 0).1 R o).2.1.2.1) (xsum (xT a) N (xlv (xT a) N 0).1 R o).2.2).2.2 (xtk1 (xsum (xT a) N (xlv (xT a) N 0).1 R o).2.1)) u4 c4) |> (fun t => by rw [e]; dsimp only; exact t), ((hk1.trans hk2).trans hk3).trans hk4, rfl⟩)
          · skip
            refine e_iconst (v := 0) (pc := 79) dX4_isNot_79 (by decide) ?_
            exact e_zret (pc := 80) dX4_isNot_80 rfl (by rfl) (Nat.le_refl _) (Nat.le_refl _) (have e : (xlv (xT a) N 0).2 R o = (false, (xsum (xT a) N (xlv (xT a) N 0).1 (ynx (xT a) N (xsum (xT a) N (xlv (xT a) N 0).1 R o).2.1.2.1) (xsum (xT a) N (xlv (xT a) N 0).1 R o).2.2).2) := (by rw [xlv_n0]; simp only [xnot]; rw [if_neg (show ¬ xtk1 R = -13 by rw [← ht]; exact c_6), if_pos (mc_b1.mp c_45), if_pos (show xM14 (xtk1 (xsum (xT a) N (xlv (xT a) N 0).1 R o).2.1) = true by rw [← hP1.2.2.1, c_64]; decide), if_neg (show ¬ (xsum (xT a) N (xlv (xT a) N 0).1 (ynx (xT a) N (xsum (xT a) N (xlv (xT a) N 0).1 R o).2.1.2.1) (xsum (xT a) N (xlv (xT a) N 0).1 R o).2.2).1 = true by rw [mc_b0.mp c_76]; decide)]); ⟨by rw [e]; rfl, u3, c3, by rw [e]; dsimp only; exact hP3, (hk1.trans hk2).trans hk3, rfl⟩)
    · skip
      refine e_iconst (v := 0) (pc := 48) dX4_isNot_48 (by decide) ?_
      exact e_zret (pc := 49) dX4_isNot_49 rfl (by rfl) (Nat.le_refl _) (Nat.le_refl _) (have e : (xlv (xT a) N 0).2 R o = (false, (xsum (xT a) N (xlv (xT a) N 0).1 R o).2) := (by rw [xlv_n0]; simp only [xnot]; rw [if_neg (show ¬ xtk1 R = -13 by rw [← ht]; exact c_6), if_neg (show ¬ (xsum (xT a) N (xlv (xT a) N 0).1 R o).1 = true by rw [mc_b0.mp c_45]; decide)]); ⟨by rw [e]; rfl, u1, c1, by rw [e]; dsimp only; exact hP1, hk1, rfl⟩)
  · skip
    refine e_iloadn (pc := 9) dX4_isNot_9 rfl ?_
    refine e_iconst (v := 5) (pc := 10) dX4_isNot_10 (by decide) ?_
    refine e_icmp_lt (pc := 11) dX4_isNot_11 (t := 16) (by decide) (fun c_11 => absurd c_11 (by decide)) (fun _ => ?_)
    refine e_iconst (v := 0) (pc := 14) dX4_isNot_14 (by decide) ?_
    exact e_zret (pc := 15) dX4_isNot_15 rfl (by rfl) (Nat.le_refl _) (Nat.le_refl _) (have e : (xlv (xT a) N 0).2 R o = (false, R, o) := (by rw [xlv_n0]; simp only [xnot]; rw [if_pos (show xtk1 R = -13 by rw [← ht]; exact c_6)]); ⟨by rw [e]; rfl, u, c, by rw [e]; dsimp only; exact hP, xPK_refl u c, rfl⟩)
theorem lp_x_and0 {s m n : Nat → Int32} {a b d : Nat → List Int32} {q : List (Option Nat)} {h : Nat} {z : mc_W} (hL : xL a) {N : Nat} (hN : s 5 = nI N) (hN1 : N ≤ 160) {ub : Nat → Int32} {cb : Nat → List Int32} {V : Bool × xR × List Int32} :
    ∀ (f i : Nat) (R : xR) (o : List Int32) (u : Nat → Int32) (c : Nat → List Int32), i + f = 160 → xPS N R o u c → xPK ub u cb c → xlp (xT a) N (xlv (xT a) N 0).2 xM12 f R o = V →
      mc_E RX4 cX4_isAnd 3 (mc_JM (some .boolean) false 12 0 0 (fun r' w' => r' = some (.int (mc_b V.1)) ∧ ∃ u1 c1, xPS N V.2.1 V.2.2 u1 c1 ∧ xPK ub u1 cb c1 ∧ w' = (WW s a q u1 c1 h m b n d z))) 12 [some (.ref 6), some (.int 5), some (.int (nI i))] [] (WW s a q u c h m b n d z) 0 0 := by
  intro f
  induction f with
  | zero =>
    intro i R o u c hi hP hkb hV
    have e : i = 160 := by omega
    subst e
    simp only [xlp] at hV
    subst hV
    refine e_iloadn (pc := 12) dX4_isAnd_12 rfl ?_
    refine e_sipush (v := 160) (pc := 13) dX4_isAnd_13 (by decide) ?_
    refine e_icmp_ge (pc := 16) dX4_isAnd_16 (t := 54) (by decide) (fun _ => ?_) (fun c_16 => absurd (by decide) c_16)
    refine e_iconst (v := 1) (pc := 54) dX4_isAnd_54 (by decide) ?_
    exact e_zret (pc := 55) dX4_isAnd_55 rfl (by rfl) (Nat.le_refl _) (Nat.le_refl _) ⟨rfl, u, c, hP, hkb, rfl⟩
  | succ f ih =>
    intro i R o u c hi hP hkb hV
    simp only [xlp] at hV
    have hi1 : i < 160 := by omega
    have ht := hP.2.2.1
    refine e_iloadn (pc := 12) dX4_isAnd_12 rfl ?_
    refine e_sipush (v := 160) (pc := 13) dX4_isAnd_13 (by decide) ?_
    refine e_icmp_ge (pc := 16) dX4_isAnd_16 (t := 54) (by decide) (fun c_16 => absurd c_16 (nI_ge hi1 (by decide))) (fun _ => ?_)
    refine e_aloadn (pc := 19) dX4_isAnd_19 rfl ?_
    refine e_get (pc := 20) dX4_isAnd_20 fX4_41 rfl rfl ?_
    refine e_bipush (v := -12) (pc := 23) dX4_isAnd_23 (by decide) ?_
    refine e_icmp_ne (pc := 25) dX4_isAnd_25 (t := 54) (by decide) (fun c_25 => ?_) (fun c_25 => ?_)
    · skip
      refine e_iconst (v := 1) (pc := 54) dX4_isAnd_54 (by decide) ?_
      exact e_zret (pc := 55) dX4_isAnd_55 rfl (by rfl) (Nat.le_refl _) (Nat.le_refl _) ⟨by rw [← hV, if_neg (show ¬ xM12 (xtk1 R) = true by rw [← ht]; unfold xM12; simp [c_25])]; rfl, u, c, by rw [← hV, if_neg (show ¬ xM12 (xtk1 R) = true by rw [← ht]; unfold xM12; simp [c_25])]; exact hP, hkb, rfl⟩
    · skip
      refine e_aloadn (pc := 28) dX4_isAnd_28 rfl ?_
      refine e_cvY (pc := 29) (sp_x_goOnP hL hN hN1 hP) dX4_isAnd_29 kX4_28 rfl rfl rfl rfl rfl (mc_CR_of (Nat.le_of_ble_eq_true rfl) (Nat.le_of_ble_eq_true rfl) (Nat.le_refl _) (Nat.le_refl _)) (Nat.le_of_ble_eq_true rfl) (fun w1 hw1 => ?_)
      obtain ⟨u1, c1, hP1, hk1, rfl⟩ := hw1
      refine e_aloadn (pc := 32) dX4_isAnd_32 rfl ?_
      refine e_iloadn (pc := 33) dX4_isAnd_33 rfl ?_
      refine e_cvX (pc := 34) (sp_x_not0 hL hN hN1 hP1) dX4_isAnd_34 kX4_80 rfl rfl rfl rfl rfl (mc_CR_of (Nat.le_of_ble_eq_true rfl) (Nat.le_of_ble_eq_true rfl) (Nat.le_refl _) (Nat.le_refl _)) (Nat.le_of_ble_eq_true rfl) (fun w1 hw1 => ?_)
      obtain ⟨u2, c2, hP2, hk2, rfl⟩ := hw1
      refine e_if_ne (pc := 37) dX4_isAnd_37 (t := 42) (by decide) (fun c_37 => ?_) (fun c_37 => ?_)
      · skip
        refine e_aloadn (pc := 42) dX4_isAnd_42 rfl ?_
        refine e_bipush (v := -12) (pc := 43) dX4_isAnd_43 (by decide) ?_
        refine e_cvY (pc := 45) (sp_x_putP hP2) dX4_isAnd_45 kX4_76 rfl rfl rfl rfl rfl (mc_CR_of (Nat.le_of_ble_eq_true rfl) (Nat.le_of_ble_eq_true rfl) (Nat.le_refl _) (Nat.le_refl _)) (Nat.le_of_ble_eq_true rfl) (fun w1 hw1 => ?_)
        obtain ⟨u3, c3, hP3, hk3, rfl⟩ := hw1
        refine e_incC2 (pc := 48) dX4_isAnd_48 (nI_1 i) (Nat.le_of_ble_eq_true rfl) rfl ?_
        refine e_goto (pc := 51) dX4_isAnd_51 (t := 12) (by decide) ?_
        exact ih (i + 1) _ _ _ _ (by omega) (by rw [show (-12 : Int32) = xtk1 R from by rw [← ht, c_25]] at hP3; exact hP3) (((hkb.trans hk1).trans hk2).trans hk3) (by rw [← hV, if_pos (show xM12 (xtk1 R) = true by rw [← ht, c_25]; decide), if_pos (mc_b1.mp c_37)])
      · skip
        refine e_iconst (v := 0) (pc := 40) dX4_isAnd_40 (by decide) ?_
        exact e_zret (pc := 41) dX4_isAnd_41 rfl (by rfl) (Nat.le_refl _) (Nat.le_refl _) ⟨by rw [← hV, if_pos (show xM12 (xtk1 R) = true by rw [← ht, c_25]; decide), if_neg (show ¬ ((xlv (xT a) N 0).2 (ynx (xT a) N R.2.1) o).1 = true by rw [mc_b0.mp c_37]; decide)]; rfl, u2, c2, by rw [← hV, if_pos (show xM12 (xtk1 R) = true by rw [← ht, c_25]; decide), if_neg (show ¬ ((xlv (xT a) N 0).2 (ynx (xT a) N R.2.1) o).1 = true by rw [mc_b0.mp c_37]; decide)]; exact hP2, (hkb.trans hk1).trans hk2, rfl⟩
theorem sp_x_and0 {s u m n : Nat → Int32} {a c b d : Nat → List Int32} {q : List (Option Nat)} {h : Nat} {z : mc_W} (hL : xL a) {N : Nat} (hN : s 5 = nI N) (hN1 : N ≤ 160) {R : xR} {o : List Int32} (hP : xPS N R o u c) : mc_T yX4_isAnd cX4_isAnd 3 (some .boolean) 12 [.ref 6, .int 5] (WW s a q u c h m b n d z) (some (.int (mc_b (xand (xT a) N (xlv (xT a) N 0).2 R o).1))) (fun w1 => ∃ u1 c1, xPS N (xand (xT a) N (xlv (xT a) N 0).2 R o).2.1 (xand (xT a) N (xlv (xT a) N 0).2 R o).2.2 u1 c1 ∧ xPK u u1 c c1 ∧ w1 = (WW s a q u1 c1 h m b n d z)) := by
  refine mc_start (own := RX4) (ini := false) rfl (by decide +kernel) (fun h => by cases h) (Nat.le_of_ble_eq_true rfl) ?_
  show mc_E _ _ _ _ _ [some (.ref 6), some (.int 5), none] [] _ _ _
  refine e_aloadn (pc := 0) dX4_isAnd_0 rfl ?_
  refine e_iloadn (pc := 1) dX4_isAnd_1 rfl ?_
  refine e_cvX (pc := 2) (sp_x_not0 hL hN hN1 hP) dX4_isAnd_2 kX4_80 rfl rfl rfl rfl rfl (mc_CR_of (Nat.le_of_ble_eq_true rfl) (Nat.le_of_ble_eq_true rfl) (Nat.le_refl _) (Nat.le_refl _)) (Nat.le_of_ble_eq_true rfl) (fun w1 hw1 => ?_)
  obtain ⟨u1, c1, hP1, hk1, rfl⟩ := hw1
  refine e_if_ne (pc := 5) dX4_isAnd_5 (t := 10) (by decide) (fun c_5 => ?_) (fun c_5 => ?_)
  · skip
    refine e_iconst (v := 0) (pc := 10) dX4_isAnd_10 (by decide) ?_
    refine e_isn2 (pc := 11) dX4_isAnd_11 (Nat.le_of_ble_eq_true rfl) rfl ?_
    have e : xand (xT a) N (xlv (xT a) N 0).2 R o = xlp (xT a) N (xlv (xT a) N 0).2 xM12 160 ((xlv (xT a) N 0).2 R o).2.1 ((xlv (xT a) N 0).2 R o).2.2 := if_pos (mc_b1.mp c_5)
    rw [e]
    exact lp_x_and0 hL hN hN1 160 0 _ _ u1 c1 (by omega) hP1 hk1 rfl
  · skip
    refine e_iconst (v := 0) (pc := 8) dX4_isAnd_8 (by decide) ?_
    exact e_zret (pc := 9) dX4_isAnd_9 rfl (by rfl) (Nat.le_refl _) (Nat.le_refl _) (have e : xand (xT a) N (xlv (xT a) N 0).2 R o = (false, ((xlv (xT a) N 0).2 R o).2) := if_neg (show ¬ ((xlv (xT a) N 0).2 R o).1 = true by rw [mc_b0.mp c_5]; decide); ⟨by rw [e]; rfl, u1, c1, by rw [e]; dsimp only; exact hP1, hk1, rfl⟩)
theorem lp_x_E0 {s m n : Nat → Int32} {a b d : Nat → List Int32} {q : List (Option Nat)} {h : Nat} {z : mc_W} (hL : xL a) {N : Nat} (hN : s 5 = nI N) (hN1 : N ≤ 160) {ub : Nat → Int32} {cb : Nat → List Int32} {V : Bool × xR × List Int32} :
    ∀ (f i : Nat) (R : xR) (o : List Int32) (u : Nat → Int32) (c : Nat → List Int32), i + f = 160 → xPS N R o u c → xPK ub u cb c → xlp (xT a) N (xand (xT a) N (xlv (xT a) N 0).2) xM11 f R o = V →
      mc_E RX4 cX4_isE 3 (mc_JM (some .boolean) false 13 0 0 (fun r' w' => r' = some (.int (mc_b V.1)) ∧ ∃ u1 c1, xPS N V.2.1 V.2.2 u1 c1 ∧ xPK ub u1 cb c1 ∧ w' = (WW s a q u1 c1 h m b n d z))) 12 [some (.ref 6), some (.int 5), some (.int (nI i))] [] (WW s a q u c h m b n d z) 0 0 := by
  intro f
  induction f with
  | zero =>
    intro i R o u c hi hP hkb hV
    have e : i = 160 := by omega
    subst e
    simp only [xlp] at hV
    subst hV
    refine e_iloadn (pc := 12) dX4_isE_12 rfl ?_
    refine e_sipush (v := 160) (pc := 13) dX4_isE_13 (by decide) ?_
    refine e_icmp_ge (pc := 16) dX4_isE_16 (t := 54) (by decide) (fun _ => ?_) (fun c_16 => absurd (by decide) c_16)
    refine e_iconst (v := 1) (pc := 54) dX4_isE_54 (by decide) ?_
    exact e_zret (pc := 55) dX4_isE_55 rfl (by rfl) (Nat.le_refl _) (Nat.le_refl _) ⟨rfl, u, c, hP, hkb, rfl⟩
  | succ f ih =>
    intro i R o u c hi hP hkb hV
    simp only [xlp] at hV
    have hi1 : i < 160 := by omega
    have ht := hP.2.2.1
    refine e_iloadn (pc := 12) dX4_isE_12 rfl ?_
    refine e_sipush (v := 160) (pc := 13) dX4_isE_13 (by decide) ?_
    refine e_icmp_ge (pc := 16) dX4_isE_16 (t := 54) (by decide) (fun c_16 => absurd c_16 (nI_ge hi1 (by decide))) (fun _ => ?_)
    refine e_aloadn (pc := 19) dX4_isE_19 rfl ?_
    refine e_get (pc := 20) dX4_isE_20 fX4_41 rfl rfl ?_
    refine e_bipush (v := -11) (pc := 23) dX4_isE_23 (by decide) ?_
    refine e_icmp_ne (pc := 25) dX4_isE_25 (t := 54) (by decide) (fun c_25 => ?_) (fun c_25 => ?_)
    · skip
      refine e_iconst (v := 1) (pc := 54) dX4_isE_54 (by decide) ?_
      exact e_zret (pc := 55) dX4_isE_55 rfl (by rfl) (Nat.le_refl _) (Nat.le_refl _) ⟨by rw [← hV, if_neg (show ¬ xM11 (xtk1 R) = true by rw [← ht]; unfold xM11; simp [c_25])]; rfl, u, c, by rw [← hV, if_neg (show ¬ xM11 (xtk1 R) = true by rw [← ht]; unfold xM11; simp [c_25])]; exact hP, hkb, rfl⟩
    · skip
      refine e_aloadn (pc := 28) dX4_isE_28 rfl ?_
      refine e_cvY (pc := 29) (sp_x_goOnP hL hN hN1 hP) dX4_isE_29 kX4_28 rfl rfl rfl rfl rfl (mc_CR_of (Nat.le_of_ble_eq_true rfl) (Nat.le_of_ble_eq_true rfl) (Nat.le_refl _) (Nat.le_refl _)) (Nat.le_of_ble_eq_true rfl) (fun w1 hw1 => ?_)
      obtain ⟨u1, c1, hP1, hk1, rfl⟩ := hw1
      refine e_aloadn (pc := 32) dX4_isE_32 rfl ?_
      refine e_iloadn (pc := 33) dX4_isE_33 rfl ?_
      refine e_cvX (pc := 34) (sp_x_and0 hL hN hN1 hP1) dX4_isE_34 kX4_73 rfl rfl rfl rfl rfl (mc_CR_of (Nat.le_of_ble_eq_true rfl) (Nat.le_of_ble_eq_true rfl) (Nat.le_refl _) (Nat.le_refl _)) (Nat.le_of_ble_eq_true rfl) (fun w1 hw1 => ?_)
      obtain ⟨u2, c2, hP2, hk2, rfl⟩ := hw1
      refine e_if_ne (pc := 37) dX4_isE_37 (t := 42) (by decide) (fun c_37 => ?_) (fun c_37 => ?_)
      · skip
        refine e_aloadn (pc := 42) dX4_isE_42 rfl ?_
        refine e_bipush (v := -11) (pc := 43) dX4_isE_43 (by decide) ?_
        refine e_cvY (pc := 45) (sp_x_putP hP2) dX4_isE_45 kX4_76 rfl rfl rfl rfl rfl (mc_CR_of (Nat.le_of_ble_eq_true rfl) (Nat.le_of_ble_eq_true rfl) (Nat.le_refl _) (Nat.le_refl _)) (Nat.le_of_ble_eq_true rfl) (fun w1 hw1 => ?_)
        obtain ⟨u3, c3, hP3, hk3, rfl⟩ := hw1
        refine e_incC2 (pc := 48) dX4_isE_48 (nI_1 i) (Nat.le_of_ble_eq_true rfl) rfl ?_
        refine e_goto (pc := 51) dX4_isE_51 (t := 12) (by decide) ?_
        exact ih (i + 1) _ _ _ _ (by omega) (by rw [show (-11 : Int32) = xtk1 R from by rw [← ht, c_25]] at hP3; exact hP3) (((hkb.trans hk1).trans hk2).trans hk3) (by rw [← hV, if_pos (show xM11 (xtk1 R) = true by rw [← ht, c_25]; decide), if_pos (mc_b1.mp c_37)])
      · skip
        refine e_iconst (v := 0) (pc := 40) dX4_isE_40 (by decide) ?_
        exact e_zret (pc := 41) dX4_isE_41 rfl (by rfl) (Nat.le_refl _) (Nat.le_refl _) ⟨by rw [← hV, if_pos (show xM11 (xtk1 R) = true by rw [← ht, c_25]; decide), if_neg (show ¬ ((xand (xT a) N (xlv (xT a) N 0).2) (ynx (xT a) N R.2.1) o).1 = true by rw [mc_b0.mp c_37]; decide)]; rfl, u2, c2, by rw [← hV, if_pos (show xM11 (xtk1 R) = true by rw [← ht, c_25]; decide), if_neg (show ¬ ((xand (xT a) N (xlv (xT a) N 0).2) (ynx (xT a) N R.2.1) o).1 = true by rw [mc_b0.mp c_37]; decide)]; exact hP2, (hkb.trans hk1).trans hk2, rfl⟩
theorem sp_x_E0 {s u m n : Nat → Int32} {a c b d : Nat → List Int32} {q : List (Option Nat)} {h : Nat} {z : mc_W} (hL : xL a) {N : Nat} (hN : s 5 = nI N) (hN1 : N ≤ 160) {R : xR} {o : List Int32} (hP : xPS N R o u c) : mc_T yX4_isE cX4_isE 3 (some .boolean) 13 [.ref 6, .int 5] (WW s a q u c h m b n d z) (some (.int (mc_b (xE (xT a) N (xlv (xT a) N 0).2 R o).1))) (fun w1 => ∃ u1 c1, xPS N (xE (xT a) N (xlv (xT a) N 0).2 R o).2.1 (xE (xT a) N (xlv (xT a) N 0).2 R o).2.2 u1 c1 ∧ xPK u u1 c c1 ∧ w1 = (WW s a q u1 c1 h m b n d z)) := by
  refine mc_start (own := RX4) (ini := false) rfl (by decide +kernel) (fun h => by cases h) (Nat.le_of_ble_eq_true rfl) ?_
  show mc_E _ _ _ _ _ [some (.ref 6), some (.int 5), none] [] _ _ _
  refine e_aloadn (pc := 0) dX4_isE_0 rfl ?_
  refine e_iloadn (pc := 1) dX4_isE_1 rfl ?_
  refine e_cvX (pc := 2) (sp_x_and0 hL hN hN1 hP) dX4_isE_2 kX4_73 rfl rfl rfl rfl rfl (mc_CR_of (Nat.le_of_ble_eq_true rfl) (Nat.le_of_ble_eq_true rfl) (Nat.le_refl _) (Nat.le_refl _)) (Nat.le_of_ble_eq_true rfl) (fun w1 hw1 => ?_)
  obtain ⟨u1, c1, hP1, hk1, rfl⟩ := hw1
  refine e_if_ne (pc := 5) dX4_isE_5 (t := 10) (by decide) (fun c_5 => ?_) (fun c_5 => ?_)
  · skip
    refine e_iconst (v := 0) (pc := 10) dX4_isE_10 (by decide) ?_
    refine e_isn2 (pc := 11) dX4_isE_11 (Nat.le_of_ble_eq_true rfl) rfl ?_
    have e : xE (xT a) N (xlv (xT a) N 0).2 R o = xlp (xT a) N (xand (xT a) N (xlv (xT a) N 0).2) xM11 160 ((xand (xT a) N (xlv (xT a) N 0).2) R o).2.1 ((xand (xT a) N (xlv (xT a) N 0).2) R o).2.2 := if_pos (mc_b1.mp c_5)
    rw [e]
    exact lp_x_E0 hL hN hN1 160 0 _ _ u1 c1 (by omega) hP1 hk1 rfl
  · skip
    refine e_iconst (v := 0) (pc := 8) dX4_isE_8 (by decide) ?_
    exact e_zret (pc := 9) dX4_isE_9 rfl (by rfl) (Nat.le_refl _) (Nat.le_refl _) (have e : xE (xT a) N (xlv (xT a) N 0).2 R o = (false, ((xand (xT a) N (xlv (xT a) N 0).2) R o).2) := if_neg (show ¬ ((xand (xT a) N (xlv (xT a) N 0).2) R o).1 = true by rw [mc_b0.mp c_5]; decide); ⟨by rw [e]; rfl, u1, c1, by rw [e]; dsimp only; exact hP1, hk1, rfl⟩)
end Zj_6m_x23
section Zj_6n_x24_1
theorem sp_x_one1 {s u m n : Nat → Int32} {a c b d : Nat → List Int32} {q : List (Option Nat)} {h : Nat} {z : mc_W} (hL : xL a) {N : Nat} (hN : s 5 = nI N) (hN1 : N ≤ 160) {R : xR} {o : List Int32} (hP : xPS N R o u c) : mc_T yX4_isOne cX4_isOne 2 (some .boolean) 14 [.ref 6, .int 4] (WW s a q u c h m b n d z) (some (.int (mc_b ((xlv (xT a) N 1).1 R o).1))) (fun w1 => ∃ u1 c1, xPS N ((xlv (xT a) N 1).1 R o).2.1 ((xlv (xT a) N 1).1 R o).2.2 u1 c1 ∧ xPK u u1 c c1 ∧ w1 = (WW s a q u1 c1 h m b n d z)) := by
  refine mc_start (own := RX4) (ini := false) rfl (by decide +kernel) (fun h => by cases h) (Nat.le_of_ble_eq_true rfl) ?_
  show mc_E _ _ _ _ _ [some (.ref 6), some (.int 4)] [] _ _ _
  have ht := hP.2.2.1
  refine e_aloadn (pc := 0) dX4_isOne_0 rfl ?_
  refine e_get (pc := 1) dX4_isOne_1 fX4_41 rfl rfl ?_
  refine e_bipush (v := -6) (pc := 4) dX4_isOne_4 (by decide) ?_
  refine e_icmp_lt (pc := 6) dX4_isOne_6 (t := 23) (by decide) (fun c_6 => ?_) (fun c_6 => ?_)
  · skip
    refine e_aloadn (pc := 23) dX4_isOne_23 rfl ?_
    refine e_get (pc := 24) dX4_isOne_24 fX4_41 rfl rfl ?_
    refine e_bipush (v := -17) (pc := 27) dX4_isOne_27 (by decide) ?_
    refine e_icmp_eq (pc := 29) dX4_isOne_29 (t := 41) (by decide) (fun c_29 => ?_) (fun c_29 => ?_)
    · skip
      refine e_iloadn (pc := 41) dX4_isOne_41 rfl ?_
      refine e_iconst (v := 5) (pc := 42) dX4_isOne_42 (by decide) ?_
      refine e_icmp_lt (pc := 43) dX4_isOne_43 (t := 48) (by decide) (fun _ => ?_) (fun c_43 => absurd (by decide) c_43)
      refine e_aloadn (pc := 48) dX4_isOne_48 rfl ?_
      refine e_get (pc := 49) dX4_isOne_49 fX4_41 rfl rfl ?_
      refine e_bipush (v := -20) (pc := 52) dX4_isOne_52 (by decide) ?_
      refine e_icmp_ne (pc := 54) dX4_isOne_54 (t := 88) (by decide) (fun c_54 => ?_) (fun c_54 => ?_)
      · skip
        refine e_aloadn (pc := 88) dX4_isOne_88 rfl ?_
        refine e_cvY (pc := 89) (sp_x_goOnP hL hN hN1 hP) dX4_isOne_89 kX4_28 rfl rfl rfl rfl rfl (mc_CR_of (Nat.le_of_ble_eq_true rfl) (Nat.le_of_ble_eq_true rfl) (Nat.le_refl _) (Nat.le_refl _)) (Nat.le_of_ble_eq_true rfl) (fun w1 hw1 => ?_)
        obtain ⟨u1, c1, hP1, hk1, rfl⟩ := hw1
        refine e_aloadn (pc := 92) dX4_isOne_92 rfl ?_
        refine e_iloadn (pc := 93) dX4_isOne_93 rfl ?_
        refine e_iconst (v := 1) (pc := 94) dX4_isOne_94 (by decide) ?_
        refine e_iadd (pc := 95) dX4_isOne_95 ?_
        refine e_top (y := 5) (by decide) ?_
        refine e_cvX (pc := 96) (sp_x_one0 hL hN hN1 hP1) dX4_isOne_96 kX4_89 rfl rfl rfl rfl rfl (mc_CR_of (Nat.le_of_ble_eq_true rfl) (Nat.le_of_ble_eq_true rfl) (Nat.le_refl _) (Nat.le_refl _)) (Nat.le_of_ble_eq_true rfl) (fun w1 hw1 => ?_)
        obtain ⟨u2, c2, hP2, hk2, rfl⟩ := hw1
        refine e_if_ne (pc := 99) dX4_isOne_99 (t := 104) (by decide) (fun c_99 => ?_) (fun c_99 => ?_)
        · skip
          refine e_aloadn (pc := 104) dX4_isOne_104 rfl ?_
          refine e_bipush (v := -19) (pc := 105) dX4_isOne_105 (by decide) ?_
          refine e_cvY (pc := 107) (sp_x_putP hP2) dX4_isOne_107 kX4_76 rfl rfl rfl rfl rfl (mc_CR_of (Nat.le_of_ble_eq_true rfl) (Nat.le_of_ble_eq_true rfl) (Nat.le_refl _) (Nat.le_refl _)) (Nat.le_of_ble_eq_true rfl) (fun w1 hw1 => ?_)
          obtain ⟨u3, c3, hP3, hk3, rfl⟩ := hw1
          refine e_iconst (v := 1) (pc := 110) dX4_isOne_110 (by decide) ?_
          exact e_zret (pc := 111) dX4_isOne_111 rfl (by rfl) (Nat.le_refl _) (Nat.le_refl _) (have e : (xlv (xT a) N 1).1 R o = (true, ((xlv (xT a) N 0).1 (ynx (xT a) N R.2.1) o).2.1, xput ((xlv (xT a) N 0).1 (ynx (xT a) N R.2.1) o).2.2 (-19)) := (by rw [xlv_oS]; simp only [xone]; rw [if_neg (show ¬ -6 ≤ xtk1 R by rw [← ht]; exact Int32.not_le.mpr c_6), if_neg (show ¬ xtk1 R = -20 by rw [← ht]; exact c_54), if_pos (show xtk1 R = -17 by rw [← ht]; exact c_29), if_pos (mc_b1.mp c_99)]); ⟨by rw [e]; rfl, u3, c3, by rw [e]; dsimp only; exact hP3, (hk1.trans hk2).trans hk3, rfl⟩)
        · skip
          refine e_iconst (v := 0) (pc := 102) dX4_isOne_102 (by decide) ?_
          exact e_zret (pc := 103) dX4_isOne_103 rfl (by rfl) (Nat.le_refl _) (Nat.le_refl _) (have e : (xlv (xT a) N 1).1 R o = (false, ((xlv (xT a) N 0).1 (ynx (xT a) N R.2.1) o).2) := (by rw [xlv_oS]; simp only [xone]; rw [if_neg (show ¬ -6 ≤ xtk1 R by rw [← ht]; exact Int32.not_le.mpr c_6), if_neg (show ¬ xtk1 R = -20 by rw [← ht]; exact c_54), if_pos (show xtk1 R = -17 by rw [← ht]; exact c_29), if_neg (show ¬ ((xlv (xT a) N 0).1 (ynx (xT a) N R.2.1) o).1 = true by rw [mc_b0.mp c_99]; decide)]); ⟨by rw [e]; rfl, u2, c2, by rw [e]; dsimp only; exact hP2, hk1.trans hk2, rfl⟩)
      · skip
        refine e_aloadn (pc := 57) dX4_isOne_57 rfl ?_
        refine e_cvY (pc := 58) (sp_x_goOnP hL hN hN1 hP) dX4_isOne_58 kX4_28 rfl rfl rfl rfl rfl (mc_CR_of (Nat.le_of_ble_eq_true rfl) (Nat.le_of_ble_eq_true rfl) (Nat.le_refl _) (Nat.le_refl _)) (Nat.le_of_ble_eq_true rfl) (fun w1 hw1 => ?_)
        obtain ⟨u1, c1, hP1, hk1, rfl⟩ := hw1
        refine e_aloadn (pc := 61) dX4_isOne_61 rfl ?_
        refine e_iloadn (pc := 62) dX4_isOne_62 rfl ?_
        refine e_iconst (v := 1) (pc := 63) dX4_isOne_63 (by decide) ?_
        refine e_iadd (pc := 64) dX4_isOne_64 ?_
        refine e_top (y := 5) (by decide) ?_
        refine e_cvX (pc := 65) (sp_x_E0 hL hN hN1 hP1) dX4_isOne_65 kX4_70 rfl rfl rfl rfl rfl (mc_CR_of (Nat.le_of_ble_eq_true rfl) (Nat.le_of_ble_eq_true rfl) (Nat.le_refl _) (Nat.le_refl _)) (Nat.le_of_ble_eq_true rfl) (fun w1 hw1 => ?_)
        obtain ⟨u2, c2, hP2, hk2, rfl⟩ := hw1
        refine e_if_eq (pc := 68) dX4_isOne_68 (t := 80) (by decide) (fun c_68 => ?_) (fun c_68 => ?_)
        · skip
          refine e_iconst (v := 0) (pc := 80) dX4_isOne_80 (by decide) ?_
          exact e_zret (pc := 81) dX4_isOne_81 rfl (by rfl) (Nat.le_refl _) (Nat.le_refl _) (have e : (xlv (xT a) N 1).1 R o = (false, (xE (xT a) N (xlv (xT a) N 0).2 (ynx (xT a) N R.2.1) o).2) := (by rw [xlv_oS]; simp only [xone]; rw [if_neg (show ¬ -6 ≤ xtk1 R by rw [← ht]; exact Int32.not_le.mpr c_6), if_pos (show xtk1 R = -20 by rw [← ht]; exact c_54), if_neg (show ¬ (xE (xT a) N (xlv (xT a) N 0).2 (ynx (xT a) N R.2.1) o).1 = true by rw [mc_b0.mp c_68]; decide)]); ⟨by rw [e]; rfl, u2, c2, by rw [e]; dsimp only; exact hP2, hk1.trans hk2, rfl⟩)
        · skip
          refine e_aloadn (pc := 71) dX4_isOne_71 rfl ?_
          refine e_get (pc := 72) dX4_isOne_72 fX4_41 rfl rfl ?_
          refine e_bipush (v := -21) (pc := 75) dX4_isOne_75 (by decide) ?_
          refine e_icmp_eq (pc := 77) dX4_isOne_77 (t := 82) (by decide) (fun c_77 => ?_) (fun c_77 => ?_)
          · skip
            refine e_aloadn (pc := 82) dX4_isOne_82 rfl ?_
            refine e_cvY (pc := 83) (sp_x_goOnP hL hN hN1 hP2) dX4_isOne_83 kX4_28 rfl rfl rfl rfl rfl (mc_CR_of (Nat.le_of_ble_eq_true rfl) (Nat.le_of_ble_eq_true rfl) (Nat.le_refl _) (Nat.le_refl _)) (Nat.le_of_ble_eq_true rfl) (fun w1 hw1 => ?_)
            obtain ⟨u3, c3, hP3, hk3, rfl⟩ := hw1
            refine e_iconst (v := 1) (pc := 86) dX4_isOne_86 (by decide) ?_
            exact e_zret (pc := 87) dX4_isOne_87 rfl (by rfl) (Nat.le_refl _) (Nat.le_refl _) (have e : (xlv (xT a) N 1).1 R o = (true, ynx (xT a) N (xE (xT a) N (xlv (xT a) N 0).2 (ynx (xT a) N R.2.1) o).2.1.2.1, (xE (xT a) N (xlv (xT a) N 0).2 (ynx (xT a) N R.2.1) o).2.2) := (by rw [xlv_oS]; simp only [xone]; rw [if_neg (show ¬ -6 ≤ xtk1 R by rw [← ht]; exact Int32.not_le.mpr c_6), if_pos (show xtk1 R = -20 by rw [← ht]; exact c_54), if_pos (mc_b1.mp c_68), if_pos (show xtk1 (xE (xT a) N (xlv (xT a) N 0).2 (ynx (xT a) N R.2.1) o).2.1 = -21 by rw [← hP2.2.2.1]; exact c_77)]); ⟨by rw [e]; rfl, u3, c3, by rw [e]; dsimp only; exact hP3, (hk1.trans hk2).trans hk3, rfl⟩)
          · skip
            refine e_iconst (v := 0) (pc := 80) dX4_isOne_80 (by decide) ?_
            exact e_zret (pc := 81) dX4_isOne_81 rfl (by rfl) (Nat.le_refl _) (Nat.le_refl _) (have e : (xlv (xT a) N 1).1 R o = (false, (xE (xT a) N (xlv (xT a) N 0).2 (ynx (xT a) N R.2.1) o).2) := (by rw [xlv_oS]; simp only [xone]; rw [if_neg (show ¬ -6 ≤ xtk1 R by rw [← ht]; exact Int32.not_le.mpr c_6), if_pos (show xtk1 R = -20 by rw [← ht]; exact c_54), if_pos (mc_b1.mp c_68), if_neg (show ¬ xtk1 (xE (xT a) N (xlv (xT a) N 0).2 (ynx (xT a) N R.2.1) o).2.1 = -21 by rw [← hP2.2.2.1]; exact c_77)]); ⟨by rw [e]; rfl, u2, c2, by rw [e]; dsimp only; exact hP2, hk1.trans hk2, rfl⟩)
    · skip
      refine e_aloadn (pc := 32) dX4_isOne_32 rfl ?_
      refine e_get (pc := 33) dX4_isOne_33 fX4_41 rfl rfl ?_
      refine e_bipush (v := -20) (pc := 36) dX4_isOne_36 (by decide) ?_
      refine e_icmp_ne (pc := 38) dX4_isOne_38 (t := 46) (by decide) (fun c_38 => ?_) (fun c_38 => ?_)
      · skip
        refine e_iconst (v := 0) (pc := 46) dX4_isOne_46 (by decide) ?_
        exact e_zret (pc := 47) dX4_isOne_47 rfl (by rfl) (Nat.le_refl _) (Nat.le_refl _) (have e : (xlv (xT a) N 1).1 R o = (false, R, o) := (by rw [xlv_oS]; simp only [xone]; rw [if_neg (show ¬ -6 ≤ xtk1 R by rw [← ht]; exact Int32.not_le.mpr c_6), if_neg (show ¬ xtk1 R = -20 by rw [← ht]; exact c_38), if_neg (show ¬ xtk1 R = -17 by rw [← ht]; exact c_29)]); ⟨by rw [e]; rfl, u, c, by rw [e]; dsimp only; exact hP, xPK_refl u c, rfl⟩)
      · skip
        refine e_iloadn (pc := 41) dX4_isOne_41 rfl ?_
        refine e_iconst (v := 5) (pc := 42) dX4_isOne_42 (by decide) ?_
        refine e_icmp_lt (pc := 43) dX4_isOne_43 (t := 48) (by decide) (fun _ => ?_) (fun c_43 => absurd (by decide) c_43)
        refine e_aloadn (pc := 48) dX4_isOne_48 rfl ?_
        refine e_get (pc := 49) dX4_isOne_49 fX4_41 rfl rfl ?_
        refine e_bipush (v := -20) (pc := 52) dX4_isOne_52 (by decide) ?_
        refine e_icmp_ne (pc := 54) dX4_isOne_54 (t := 88) (by decide) (fun c_54 => ?_) (fun c_54 => ?_)
        · skip
          refine e_aloadn (pc := 88) dX4_isOne_88 rfl ?_
          refine e_cvY (pc := 89) (sp_x_goOnP hL hN hN1 hP) dX4_isOne_89 kX4_28 rfl rfl rfl rfl rfl (mc_CR_of (Nat.le_of_ble_eq_true rfl) (Nat.le_of_ble_eq_true rfl) (Nat.le_refl _) (Nat.le_refl _)) (Nat.le_of_ble_eq_true rfl) (fun w1 hw1 => ?_)
          obtain ⟨u1, c1, hP1, hk1, rfl⟩ := hw1
          refine e_aloadn (pc := 92) dX4_isOne_92 rfl ?_
          refine e_iloadn (pc := 93) dX4_isOne_93 rfl ?_
          refine e_iconst (v := 1) (pc := 94) dX4_isOne_94 (by decide) ?_
          refine e_iadd (pc := 95) dX4_isOne_95 ?_
          refine e_top (y := 5) (by decide) ?_
          refine e_cvX (pc := 96) (sp_x_one0 hL hN hN1 hP1) dX4_isOne_96 kX4_89 rfl rfl rfl rfl rfl (mc_CR_of (Nat.le_of_ble_eq_true rfl) (Nat.le_of_ble_eq_true rfl) (Nat.le_refl _) (Nat.le_refl _)) (Nat.le_of_ble_eq_true rfl) (fun w1 hw1 => ?_)
          obtain ⟨u2, c2, hP2, hk2, rfl⟩ := hw1
          refine e_if_ne (pc := 99) dX4_isOne_99 (t := 104) (by decide) (fun c_99 => ?_) (fun c_99 => ?_)
          · skip
            refine e_aloadn (pc := 104) dX4_isOne_104 rfl ?_
            refine e_bipush (v := -19) (pc := 105) dX4_isOne_105 (by decide) ?_
            refine e_cvY (pc := 107) (sp_x_putP hP2) dX4_isOne_107 kX4_76 rfl rfl rfl rfl rfl (mc_CR_of (Nat.le_of_ble_eq_true rfl) (Nat.le_of_ble_eq_true rfl) (Nat.le_refl _) (Nat.le_refl _)) (Nat.le_of_ble_eq_true rfl) (fun w1 hw1 => ?_)
            obtain ⟨u3, c3, hP3, hk3, rfl⟩ := hw1
            refine e_iconst (v := 1) (pc := 110) dX4_isOne_110 (by decide) ?_
            exact e_zret (pc := 111) dX4_isOne_111 rfl (by rfl) (Nat.le_refl _) (Nat.le_refl _) (have e : (xlv (xT a) N 1).1 R o = (true, ((xlv (xT a) N 0).1 (ynx (xT a) N R.2.1) o).2.1, xput ((xlv (xT a) N 0).1 (ynx (xT a) N R.2.1) o).2.2 (-19)) := (by rw [xlv_oS]; simp only [xone]; rw [if_neg (show ¬ -6 ≤ xtk1 R by rw [← ht]; exact Int32.not_le.mpr c_6), if_neg (show ¬ xtk1 R = -20 by rw [← ht]; exact c_54), if_pos (show xtk1 R = -17 from absurd (show u 2 = -20 from c_38) c_54), if_pos (mc_b1.mp c_99)]); ⟨by rw [e]; rfl, u3, c3, by rw [e]; dsimp only; exact hP3, (hk1.trans hk2).trans hk3, rfl⟩)
          · skip
            refine e_iconst (v := 0) (pc := 102) dX4_isOne_102 (by decide) ?_
            exact e_zret (pc := 103) dX4_isOne_103 rfl (by rfl) (Nat.le_refl _) (Nat.le_refl _) (have e : (xlv (xT a) N 1).1 R o = (false, ((xlv (xT a) N 0).1 (ynx (xT a) N R.2.1) o).2) := (by rw [xlv_oS]; simp only [xone]; rw [if_neg (show ¬ -6 ≤ xtk1 R by rw [← ht]; exact Int32.not_le.mpr c_6), if_neg (show ¬ xtk1 R = -20 by rw [← ht]; exact c_54), if_pos (show xtk1 R = -17 from absurd (show u 2 = -20 from c_38) c_54), if_neg (show ¬ ((xlv (xT a) N 0).1 (ynx (xT a) N R.2.1) o).1 = true by rw [mc_b0.mp c_99]; decide)]); ⟨by rw [e]; rfl, u2, c2, by rw [e]; dsimp only; exact hP2, hk1.trans hk2, rfl⟩)
        · skip
          refine e_aloadn (pc := 57) dX4_isOne_57 rfl ?_
          refine e_cvY (pc := 58) (sp_x_goOnP hL hN hN1 hP) dX4_isOne_58 kX4_28 rfl rfl rfl rfl rfl (mc_CR_of (Nat.le_of_ble_eq_true rfl) (Nat.le_of_ble_eq_true rfl) (Nat.le_refl _) (Nat.le_refl _)) (Nat.le_of_ble_eq_true rfl) (fun w1 hw1 => ?_)
          obtain ⟨u1, c1, hP1, hk1, rfl⟩ := hw1
          refine e_aloadn (pc := 61) dX4_isOne_61 rfl ?_
          refine e_iloadn (pc := 62) dX4_isOne_62 rfl ?_
          refine e_iconst (v := 1) (pc := 63) dX4_isOne_63 (by decide) ?_
          refine e_iadd (pc := 64) dX4_isOne_64 ?_
          refine e_top (y := 5) (by decide) ?_
          refine e_cvX (pc := 65) (sp_x_E0 hL hN hN1 hP1) dX4_isOne_65 kX4_70 rfl rfl rfl rfl rfl (mc_CR_of (Nat.le_of_ble_eq_true rfl) (Nat.le_of_ble_eq_true rfl) (Nat.le_refl _) (Nat.le_refl _)) (Nat.le_of_ble_eq_true rfl) (fun w1 hw1 => ?_)
          obtain ⟨u2, c2, hP2, hk2, rfl⟩ := hw1
          refine e_if_eq (pc := 68) dX4_isOne_68 (t := 80) (by decide) (fun c_68 => ?_) (fun c_68 => ?_)
          · skip
            refine e_iconst (v := 0) (pc := 80) dX4_isOne_80 (by decide) ?_
            exact e_zret (pc := 81) dX4_isOne_81 rfl (by rfl) (Nat.le_refl _) (Nat.le_refl _) (have e : (xlv (xT a) N 1).1 R o = (false, (xE (xT a) N (xlv (xT a) N 0).2 (ynx (xT a) N R.2.1) o).2) := (by rw [xlv_oS]; simp only [xone]; rw [if_neg (show ¬ -6 ≤ xtk1 R by rw [← ht]; exact Int32.not_le.mpr c_6), if_pos (show xtk1 R = -20 by rw [← ht]; exact c_54), if_neg (show ¬ (xE (xT a) N (xlv (xT a) N 0).2 (ynx (xT a) N R.2.1) o).1 = true by rw [mc_b0.mp c_68]; decide)]); ⟨by rw [e]; rfl, u2, c2, by rw [e]; dsimp only; exact hP2, hk1.trans hk2, rfl⟩)
          · skip
            refine e_aloadn (pc := 71) dX4_isOne_71 rfl ?_
            refine e_get (pc := 72) dX4_isOne_72 fX4_41 rfl rfl ?_
            refine e_bipush (v := -21) (pc := 75) dX4_isOne_75 (by decide) ?_
            refine e_icmp_eq (pc := 77) dX4_isOne_77 (t := 82) (by decide) (fun c_77 => ?_) (fun c_77 => ?_)
            · skip
              refine e_aloadn (pc := 82) dX4_isOne_82 rfl ?_
              refine e_cvY (pc := 83) (sp_x_goOnP hL hN hN1 hP2) dX4_isOne_83 kX4_28 rfl rfl rfl rfl rfl (mc_CR_of (Nat.le_of_ble_eq_true rfl) (Nat.le_of_ble_eq_true rfl) (Nat.le_refl _) (Nat.le_refl _)) (Nat.le_of_ble_eq_true rfl) (fun w1 hw1 => ?_)
              obtain ⟨u3, c3, hP3, hk3, rfl⟩ := hw1
              refine e_iconst (v := 1) (pc := 86) dX4_isOne_86 (by decide) ?_
              exact e_zret (pc := 87) dX4_isOne_87 rfl (by rfl) (Nat.le_refl _) (Nat.le_refl _) (have e : (xlv (xT a) N 1).1 R o = (true, ynx (xT a) N (xE (xT a) N (xlv (xT a) N 0).2 (ynx (xT a) N R.2.1) o).2.1.2.1, (xE (xT a) N (xlv (xT a) N 0).2 (ynx (xT a) N R.2.1) o).2.2) := (by rw [xlv_oS]; simp only [xone]; rw [if_neg (show ¬ -6 ≤ xtk1 R by rw [← ht]; exact Int32.not_le.mpr c_6), if_pos (show xtk1 R = -20 by rw [← ht]; exact c_54), if_pos (mc_b1.mp c_68), if_pos (show xtk1 (xE (xT a) N (xlv (xT a) N 0).2 (ynx (xT a) N R.2.1) o).2.1 = -21 by rw [← hP2.2.2.1]; exact c_77)]); ⟨by rw [e]; rfl, u3, c3, by rw [e]; dsimp only; exact hP3, (hk1.trans hk2).trans hk3, rfl⟩)
            · skip
              refine e_iconst (v := 0) (pc := 80) dX4_isOne_80 (by decide) ?_
              exact e_zret (pc := 81) dX4_isOne_81 rfl (by rfl) (Nat.le_refl _) (Nat.le_refl _) (have e : (xlv (xT a) N 1).1 R o = (false, (xE (xT a) N (xlv (xT a) N 0).2 (ynx (xT a) N R.2.1) o).2) := (by rw [xlv_oS]; simp only [xone]; rw [if_neg (show ¬ -6 ≤ xtk1 R by rw [← ht]; exact Int32.not_le.mpr c_6), if_pos (show xtk1 R = -20 by rw [← ht]; exact c_54), if_pos (mc_b1.mp c_68), if_neg (show ¬ xtk1 (xE (xT a) N (xlv (xT a) N 0).2 (ynx (xT a) N R.2.1) o).2.1 = -21 by rw [← hP2.2.2.1]; exact c_77)]); ⟨by rw [e]; rfl, u2, c2, by rw [e]; dsimp only; exact hP2, hk1.trans hk2, rfl⟩)
  · skip
    refine e_aloadn (pc := 9) dX4_isOne_9 rfl ?_
    refine e_aloadn (pc := 10) dX4_isOne_10 rfl ?_
    refine e_get (pc := 11) dX4_isOne_11 fX4_41 rfl rfl ?_
    refine e_cvY (pc := 14) (sp_x_putP hP) dX4_isOne_14 kX4_76 rfl rfl rfl rfl rfl (mc_CR_of (Nat.le_of_ble_eq_true rfl) (Nat.le_of_ble_eq_true rfl) (Nat.le_refl _) (Nat.le_refl _)) (Nat.le_of_ble_eq_true rfl) (fun w1 hw1 => ?_)
    obtain ⟨u1, c1, hP1, hk1, rfl⟩ := hw1
    rw [ht] at hP1
    refine e_aloadn (pc := 17) dX4_isOne_17 rfl ?_
    refine e_cvY (pc := 18) (sp_x_goOnP hL hN hN1 hP1) dX4_isOne_18 kX4_28 rfl rfl rfl rfl rfl (mc_CR_of (Nat.le_of_ble_eq_true rfl) (Nat.le_of_ble_eq_true rfl) (Nat.le_refl _) (Nat.le_refl _)) (Nat.le_of_ble_eq_true rfl) (fun w1 hw1 => ?_)
    obtain ⟨u2, c2, hP2, hk2, rfl⟩ := hw1
    refine e_iconst (v := 1) (pc := 21) dX4_isOne_21 (by decide) ?_
    exact e_zret (pc := 22) dX4_isOne_22 rfl (by rfl) (Nat.le_refl _) (Nat.le_refl _) (have e : (xlv (xT a) N 1).1 R o = (true, ynx (xT a) N R.2.1, xput o (xtk1 R)) := (by rw [xlv_oS]; unfold xone; rw [if_pos (show -6 ≤ xtk1 R by rw [← ht]; exact Int32.not_lt.mp c_6)]); ⟨by rw [e]; rfl, u2, c2, by rw [e]; dsimp only; exact hP2, hk1.trans hk2, rfl⟩)
theorem lp_x_term1 {s m n : Nat → Int32} {a b d : Nat → List Int32} {q : List (Option Nat)} {h : Nat} {z : mc_W} (hL : xL a) {N : Nat} (hN : s 5 = nI N) (hN1 : N ≤ 160) {ub : Nat → Int32} {cb : Nat → List Int32} {V : Bool × xR × List Int32} :
    ∀ (f i : Nat) (R : xR) (o : List Int32) (u : Nat → Int32) (c : Nat → List Int32), i + f = 160 → xPS N R o u c → xPK ub u cb c → xlp (xT a) N (xlv (xT a) N 1).1 xM18 f R o = V →
      mc_E RX4 cX4_isTerm 3 (mc_JM (some .boolean) false 15 0 0 (fun r' w' => r' = some (.int (mc_b V.1)) ∧ ∃ u1 c1, xPS N V.2.1 V.2.2 u1 c1 ∧ xPK ub u1 cb c1 ∧ w' = (WW s a q u1 c1 h m b n d z))) 12 [some (.ref 6), some (.int 4), some (.int (nI i))] [] (WW s a q u c h m b n d z) 0 0 := by
  intro f
  induction f with
  | zero =>
    intro i R o u c hi hP hkb hV
    have e : i = 160 := by omega
    subst e
    simp only [xlp] at hV
    subst hV
    refine e_iloadn (pc := 12) dX4_isTerm_12 rfl ?_
    refine e_sipush (v := 160) (pc := 13) dX4_isTerm_13 (by decide) ?_
    refine e_icmp_ge (pc := 16) dX4_isTerm_16 (t := 54) (by decide) (fun _ => ?_) (fun c_16 => absurd (by decide) c_16)
    refine e_iconst (v := 1) (pc := 54) dX4_isTerm_54 (by decide) ?_
    exact e_zret (pc := 55) dX4_isTerm_55 rfl (by rfl) (Nat.le_refl _) (Nat.le_refl _) ⟨rfl, u, c, hP, hkb, rfl⟩
  | succ f ih =>
    intro i R o u c hi hP hkb hV
    simp only [xlp] at hV
    have hi1 : i < 160 := by omega
    have ht := hP.2.2.1
    refine e_iloadn (pc := 12) dX4_isTerm_12 rfl ?_
    refine e_sipush (v := 160) (pc := 13) dX4_isTerm_13 (by decide) ?_
    refine e_icmp_ge (pc := 16) dX4_isTerm_16 (t := 54) (by decide) (fun c_16 => absurd c_16 (nI_ge hi1 (by decide))) (fun _ => ?_)
    refine e_aloadn (pc := 19) dX4_isTerm_19 rfl ?_
    refine e_get (pc := 20) dX4_isTerm_20 fX4_41 rfl rfl ?_
    refine e_bipush (v := -18) (pc := 23) dX4_isTerm_23 (by decide) ?_
    refine e_icmp_ne (pc := 25) dX4_isTerm_25 (t := 54) (by decide) (fun c_25 => ?_) (fun c_25 => ?_)
    · skip
      refine e_iconst (v := 1) (pc := 54) dX4_isTerm_54 (by decide) ?_
      exact e_zret (pc := 55) dX4_isTerm_55 rfl (by rfl) (Nat.le_refl _) (Nat.le_refl _) ⟨by rw [← hV, if_neg (show ¬ xM18 (xtk1 R) = true by rw [← ht]; unfold xM18; simp [c_25])]; rfl, u, c, by rw [← hV, if_neg (show ¬ xM18 (xtk1 R) = true by rw [← ht]; unfold xM18; simp [c_25])]; exact hP, hkb, rfl⟩
    · skip
      refine e_aloadn (pc := 28) dX4_isTerm_28 rfl ?_
      refine e_cvY (pc := 29) (sp_x_goOnP hL hN hN1 hP) dX4_isTerm_29 kX4_28 rfl rfl rfl rfl rfl (mc_CR_of (Nat.le_of_ble_eq_true rfl) (Nat.le_of_ble_eq_true rfl) (Nat.le_refl _) (Nat.le_refl _)) (Nat.le_of_ble_eq_true rfl) (fun w1 hw1 => ?_)
      obtain ⟨u1, c1, hP1, hk1, rfl⟩ := hw1
      refine e_aloadn (pc := 32) dX4_isTerm_32 rfl ?_
      refine e_iloadn (pc := 33) dX4_isTerm_33 rfl ?_
      refine e_cvX (pc := 34) (sp_x_one1 hL hN hN1 hP1) dX4_isTerm_34 kX4_89 rfl rfl rfl rfl rfl (mc_CR_of (Nat.le_of_ble_eq_true rfl) (Nat.le_of_ble_eq_true rfl) (Nat.le_refl _) (Nat.le_refl _)) (Nat.le_of_ble_eq_true rfl) (fun w1 hw1 => ?_)
      obtain ⟨u2, c2, hP2, hk2, rfl⟩ := hw1
      refine e_if_ne (pc := 37) dX4_isTerm_37 (t := 42) (by decide) (fun c_37 => ?_) (fun c_37 => ?_)
      · skip
        refine e_aloadn (pc := 42) dX4_isTerm_42 rfl ?_
        refine e_bipush (v := -18) (pc := 43) dX4_isTerm_43 (by decide) ?_
        refine e_cvY (pc := 45) (sp_x_putP hP2) dX4_isTerm_45 kX4_76 rfl rfl rfl rfl rfl (mc_CR_of (Nat.le_of_ble_eq_true rfl) (Nat.le_of_ble_eq_true rfl) (Nat.le_refl _) (Nat.le_refl _)) (Nat.le_of_ble_eq_true rfl) (fun w1 hw1 => ?_)
        obtain ⟨u3, c3, hP3, hk3, rfl⟩ := hw1
        refine e_incC2 (pc := 48) dX4_isTerm_48 (nI_1 i) (Nat.le_of_ble_eq_true rfl) rfl ?_
        refine e_goto (pc := 51) dX4_isTerm_51 (t := 12) (by decide) ?_
        exact ih (i + 1) _ _ _ _ (by omega) (by rw [show (-18 : Int32) = xtk1 R from by rw [← ht, c_25]] at hP3; exact hP3) (((hkb.trans hk1).trans hk2).trans hk3) (by rw [← hV, if_pos (show xM18 (xtk1 R) = true by rw [← ht, c_25]; decide), if_pos (mc_b1.mp c_37)])
      · skip
        refine e_iconst (v := 0) (pc := 40) dX4_isTerm_40 (by decide) ?_
        exact e_zret (pc := 41) dX4_isTerm_41 rfl (by rfl) (Nat.le_refl _) (Nat.le_refl _) ⟨by rw [← hV, if_pos (show xM18 (xtk1 R) = true by rw [← ht, c_25]; decide), if_neg (show ¬ ((xlv (xT a) N 1).1 (ynx (xT a) N R.2.1) o).1 = true by rw [mc_b0.mp c_37]; decide)]; rfl, u2, c2, by rw [← hV, if_pos (show xM18 (xtk1 R) = true by rw [← ht, c_25]; decide), if_neg (show ¬ ((xlv (xT a) N 1).1 (ynx (xT a) N R.2.1) o).1 = true by rw [mc_b0.mp c_37]; decide)]; exact hP2, (hkb.trans hk1).trans hk2, rfl⟩
theorem sp_x_term1 {s u m n : Nat → Int32} {a c b d : Nat → List Int32} {q : List (Option Nat)} {h : Nat} {z : mc_W} (hL : xL a) {N : Nat} (hN : s 5 = nI N) (hN1 : N ≤ 160) {R : xR} {o : List Int32} (hP : xPS N R o u c) : mc_T yX4_isTerm cX4_isTerm 3 (some .boolean) 15 [.ref 6, .int 4] (WW s a q u c h m b n d z) (some (.int (mc_b (xterm (xT a) N (xlv (xT a) N 1).1 R o).1))) (fun w1 => ∃ u1 c1, xPS N (xterm (xT a) N (xlv (xT a) N 1).1 R o).2.1 (xterm (xT a) N (xlv (xT a) N 1).1 R o).2.2 u1 c1 ∧ xPK u u1 c c1 ∧ w1 = (WW s a q u1 c1 h m b n d z)) := by
  refine mc_start (own := RX4) (ini := false) rfl (by decide +kernel) (fun h => by cases h) (Nat.le_of_ble_eq_true rfl) ?_
  show mc_E _ _ _ _ _ [some (.ref 6), some (.int 4), none] [] _ _ _
  refine e_aloadn (pc := 0) dX4_isTerm_0 rfl ?_
  refine e_iloadn (pc := 1) dX4_isTerm_1 rfl ?_
  refine e_cvX (pc := 2) (sp_x_one1 hL hN hN1 hP) dX4_isTerm_2 kX4_89 rfl rfl rfl rfl rfl (mc_CR_of (Nat.le_of_ble_eq_true rfl) (Nat.le_of_ble_eq_true rfl) (Nat.le_refl _) (Nat.le_refl _)) (Nat.le_of_ble_eq_true rfl) (fun w1 hw1 => ?_)
  obtain ⟨u1, c1, hP1, hk1, rfl⟩ := hw1
  refine e_if_ne (pc := 5) dX4_isTerm_5 (t := 10) (by decide) (fun c_5 => ?_) (fun c_5 => ?_)
  · skip
    refine e_iconst (v := 0) (pc := 10) dX4_isTerm_10 (by decide) ?_
    refine e_isn2 (pc := 11) dX4_isTerm_11 (Nat.le_of_ble_eq_true rfl) rfl ?_
    have e : xterm (xT a) N (xlv (xT a) N 1).1 R o = xlp (xT a) N (xlv (xT a) N 1).1 xM18 160 ((xlv (xT a) N 1).1 R o).2.1 ((xlv (xT a) N 1).1 R o).2.2 := if_pos (mc_b1.mp c_5)
    rw [e]
    exact lp_x_term1 hL hN hN1 160 0 _ _ u1 c1 (by omega) hP1 hk1 rfl
  · skip
    refine e_iconst (v := 0) (pc := 8) dX4_isTerm_8 (by decide) ?_
    exact e_zret (pc := 9) dX4_isTerm_9 rfl (by rfl) (Nat.le_refl _) (Nat.le_refl _) (have e : xterm (xT a) N (xlv (xT a) N 1).1 R o = (false, ((xlv (xT a) N 1).1 R o).2) := if_neg (show ¬ ((xlv (xT a) N 1).1 R o).1 = true by rw [mc_b0.mp c_5]; decide); ⟨by rw [e]; rfl, u1, c1, by rw [e]; dsimp only; exact hP1, hk1, rfl⟩)
theorem lp_x_sum1 {s m n : Nat → Int32} {a b d : Nat → List Int32} {q : List (Option Nat)} {h : Nat} {z : mc_W} (hL : xL a) {N : Nat} (hN : s 5 = nI N) (hN1 : N ≤ 160) {ub : Nat → Int32} {cb : Nat → List Int32} {V : Bool × xR × List Int32} :
    ∀ (f i : Nat) (R : xR) (o : List Int32) (u : Nat → Int32) (c : Nat → List Int32) (x3 : Option Value), i + f = 160 → xPS N R o u c → xPK ub u cb c → xlp (xT a) N (xterm (xT a) N (xlv (xT a) N 1).1) xM16 f R o = V →
      mc_E RX4 cX4_isSum 4 (mc_JM (some .boolean) false 16 0 0 (fun r' w' => r' = some (.int (mc_b V.1)) ∧ ∃ u1 c1, xPS N V.2.1 V.2.2 u1 c1 ∧ xPK ub u1 cb c1 ∧ w' = (WW s a q u1 c1 h m b n d z))) 12 [some (.ref 6), some (.int 4), some (.int (nI i)), x3] [] (WW s a q u c h m b n d z) 0 0 := by
  intro f
  induction f with
  | zero =>
    intro i R o u c x3 hi hP hkb hV
    have e : i = 160 := by omega
    subst e
    simp only [xlp] at hV
    subst hV
    refine e_iloadn (pc := 12) dX4_isSum_12 rfl ?_
    refine e_sipush (v := 160) (pc := 13) dX4_isSum_13 (by decide) ?_
    refine e_icmp_ge (pc := 16) dX4_isSum_16 (t := 67) (by decide) (fun _ => ?_) (fun c_16 => absurd (by decide) c_16)
    refine e_iconst (v := 1) (pc := 67) dX4_isSum_67 (by decide) ?_
    exact e_zret (pc := 68) dX4_isSum_68 rfl (by rfl) (Nat.le_refl _) (Nat.le_refl _) ⟨rfl, u, c, hP, hkb, rfl⟩
  | succ f ih =>
    intro i R o u c x3 hi hP hkb hV
    simp only [xlp] at hV
    have hi1 : i < 160 := by omega
    have ht := hP.2.2.1
    refine e_iloadn (pc := 12) dX4_isSum_12 rfl ?_
    refine e_sipush (v := 160) (pc := 13) dX4_isSum_13 (by decide) ?_
    refine e_icmp_ge (pc := 16) dX4_isSum_16 (t := 67) (by decide) (fun c_16 => absurd c_16 (nI_ge hi1 (by decide))) (fun _ => ?_)
    refine e_aloadn (pc := 19) dX4_isSum_19 rfl ?_
    refine e_get (pc := 20) dX4_isSum_20 fX4_41 rfl rfl ?_
    refine e_bipush (v := -16) (pc := 23) dX4_isSum_23 (by decide) ?_
    refine e_icmp_eq (pc := 25) dX4_isSum_25 (t := 37) (by decide) (fun c_25 => ?_) (fun c_25 => ?_)
    · skip
      refine e_aloadn (pc := 37) dX4_isSum_37 rfl ?_
      refine e_get (pc := 38) dX4_isSum_38 fX4_41 rfl rfl ?_
      refine e_isn3 (pc := 41) dX4_isSum_41 (Nat.le_of_ble_eq_true rfl) rfl ?_
      refine e_aloadn (pc := 42) dX4_isSum_42 rfl ?_
      refine e_cvY (pc := 43) (sp_x_goOnP hL hN hN1 hP) dX4_isSum_43 kX4_28 rfl rfl rfl rfl rfl (mc_CR_of (Nat.le_of_ble_eq_true rfl) (Nat.le_of_ble_eq_true rfl) (Nat.le_refl _) (Nat.le_refl _)) (Nat.le_of_ble_eq_true rfl) (fun w1 hw1 => ?_)
      obtain ⟨u1, c1, hP1, hk1, rfl⟩ := hw1
      refine e_aloadn (pc := 46) dX4_isSum_46 rfl ?_
      refine e_iloadn (pc := 47) dX4_isSum_47 rfl ?_
      refine e_cvX (pc := 48) (sp_x_term1 hL hN hN1 hP1) dX4_isSum_48 kX4_86 rfl rfl rfl rfl rfl (mc_CR_of (Nat.le_of_ble_eq_true rfl) (Nat.le_of_ble_eq_true rfl) (Nat.le_refl _) (Nat.le_refl _)) (Nat.le_of_ble_eq_true rfl) (fun w1 hw1 => ?_)
      obtain ⟨u2, c2, hP2, hk2, rfl⟩ := hw1
      refine e_if_ne (pc := 51) dX4_isSum_51 (t := 56) (by decide) (fun c_51 => ?_) (fun c_51 => ?_)
      · skip
        refine e_aloadn (pc := 56) dX4_isSum_56 rfl ?_
        refine e_iloadn (pc := 57) dX4_isSum_57 rfl ?_
        refine e_cvY (pc := 58) (sp_x_putP hP2) dX4_isSum_58 kX4_76 rfl rfl rfl rfl rfl (mc_CR_of (Nat.le_of_ble_eq_true rfl) (Nat.le_of_ble_eq_true rfl) (Nat.le_refl _) (Nat.le_refl _)) (Nat.le_of_ble_eq_true rfl) (fun w1 hw1 => ?_)
        obtain ⟨u3, c3, hP3, hk3, rfl⟩ := hw1
        refine e_incC2 (pc := 61) dX4_isSum_61 (nI_1 i) (Nat.le_of_ble_eq_true rfl) rfl ?_
        refine e_goto (pc := 64) dX4_isSum_64 (t := 12) (by decide) ?_
        exact ih (i + 1) _ _ _ _ _ (by omega) (by rw [show u 2 = xtk1 R from ht] at hP3; exact hP3) (((hkb.trans hk1).trans hk2).trans hk3) (by rw [← hV, if_pos (show xM16 (xtk1 R) = true by rw [← ht, c_25]; decide), if_pos (mc_b1.mp c_51)])
      · skip
        refine e_iconst (v := 0) (pc := 54) dX4_isSum_54 (by decide) ?_
        exact e_zret (pc := 55) dX4_isSum_55 rfl (by rfl) (Nat.le_refl _) (Nat.le_refl _) ⟨by rw [← hV, if_pos (show xM16 (xtk1 R) = true by rw [← ht, c_25]; decide), if_neg (show ¬ ((xterm (xT a) N (xlv (xT a) N 1).1) (ynx (xT a) N R.2.1) o).1 = true by rw [mc_b0.mp c_51]; decide)]; rfl, u2, c2, by rw [← hV, if_pos (show xM16 (xtk1 R) = true by rw [← ht, c_25]; decide), if_neg (show ¬ ((xterm (xT a) N (xlv (xT a) N 1).1) (ynx (xT a) N R.2.1) o).1 = true by rw [mc_b0.mp c_51]; decide)]; exact hP2, (hkb.trans hk1).trans hk2, rfl⟩
    · skip
      refine e_aloadn (pc := 28) dX4_isSum_28 rfl ?_
      refine e_get (pc := 29) dX4_isSum_29 fX4_41 rfl rfl ?_
      refine e_bipush (v := -17) (pc := 32) dX4_isSum_32 (by decide) ?_
      refine e_icmp_ne (pc := 34) dX4_isSum_34 (t := 67) (by decide) (fun c_34 => ?_) (fun c_34 => ?_)
      · skip
        refine e_iconst (v := 1) (pc := 67) dX4_isSum_67 (by decide) ?_
        exact e_zret (pc := 68) dX4_isSum_68 rfl (by rfl) (Nat.le_refl _) (Nat.le_refl _) ⟨by rw [← hV, if_neg (show ¬ xM16 (xtk1 R) = true by rw [← ht]; unfold xM16; simp [c_25, c_34])]; rfl, u, c, by rw [← hV, if_neg (show ¬ xM16 (xtk1 R) = true by rw [← ht]; unfold xM16; simp [c_25, c_34])]; exact hP, hkb, rfl⟩
      · skip
        refine e_aloadn (pc := 37) dX4_isSum_37 rfl ?_
        refine e_get (pc := 38) dX4_isSum_38 fX4_41 rfl rfl ?_
        refine e_isn3 (pc := 41) dX4_isSum_41 (Nat.le_of_ble_eq_true rfl) rfl ?_
        refine e_aloadn (pc := 42) dX4_isSum_42 rfl ?_
        refine e_cvY (pc := 43) (sp_x_goOnP hL hN hN1 hP) dX4_isSum_43 kX4_28 rfl rfl rfl rfl rfl (mc_CR_of (Nat.le_of_ble_eq_true rfl) (Nat.le_of_ble_eq_true rfl) (Nat.le_refl _) (Nat.le_refl _)) (Nat.le_of_ble_eq_true rfl) (fun w1 hw1 => ?_)
        obtain ⟨u1, c1, hP1, hk1, rfl⟩ := hw1
        refine e_aloadn (pc := 46) dX4_isSum_46 rfl ?_
        refine e_iloadn (pc := 47) dX4_isSum_47 rfl ?_
        refine e_cvX (pc := 48) (sp_x_term1 hL hN hN1 hP1) dX4_isSum_48 kX4_86 rfl rfl rfl rfl rfl (mc_CR_of (Nat.le_of_ble_eq_true rfl) (Nat.le_of_ble_eq_true rfl) (Nat.le_refl _) (Nat.le_refl _)) (Nat.le_of_ble_eq_true rfl) (fun w1 hw1 => ?_)
        obtain ⟨u2, c2, hP2, hk2, rfl⟩ := hw1
        refine e_if_ne (pc := 51) dX4_isSum_51 (t := 56) (by decide) (fun c_51 => ?_) (fun c_51 => ?_)
        · skip
          refine e_aloadn (pc := 56) dX4_isSum_56 rfl ?_
          refine e_iloadn (pc := 57) dX4_isSum_57 rfl ?_
          refine e_cvY (pc := 58) (sp_x_putP hP2) dX4_isSum_58 kX4_76 rfl rfl rfl rfl rfl (mc_CR_of (Nat.le_of_ble_eq_true rfl) (Nat.le_of_ble_eq_true rfl) (Nat.le_refl _) (Nat.le_refl _)) (Nat.le_of_ble_eq_true rfl) (fun w1 hw1 => ?_)
          obtain ⟨u3, c3, hP3, hk3, rfl⟩ := hw1
          refine e_incC2 (pc := 61) dX4_isSum_61 (nI_1 i) (Nat.le_of_ble_eq_true rfl) rfl ?_
          refine e_goto (pc := 64) dX4_isSum_64 (t := 12) (by decide) ?_
          exact ih (i + 1) _ _ _ _ _ (by omega) (by rw [show u 2 = xtk1 R from ht] at hP3; exact hP3) (((hkb.trans hk1).trans hk2).trans hk3) (by rw [← hV, if_pos (show xM16 (xtk1 R) = true by rw [← ht, c_34]; decide), if_pos (mc_b1.mp c_51)])
        · skip
          refine e_iconst (v := 0) (pc := 54) dX4_isSum_54 (by decide) ?_
          exact e_zret (pc := 55) dX4_isSum_55 rfl (by rfl) (Nat.le_refl _) (Nat.le_refl _) ⟨by rw [← hV, if_pos (show xM16 (xtk1 R) = true by rw [← ht, c_34]; decide), if_neg (show ¬ ((xterm (xT a) N (xlv (xT a) N 1).1) (ynx (xT a) N R.2.1) o).1 = true by rw [mc_b0.mp c_51]; decide)]; rfl, u2, c2, by rw [← hV, if_pos (show xM16 (xtk1 R) = true by rw [← ht, c_34]; decide), if_neg (show ¬ ((xterm (xT a) N (xlv (xT a) N 1).1) (ynx (xT a) N R.2.1) o).1 = true by rw [mc_b0.mp c_51]; decide)]; exact hP2, (hkb.trans hk1).trans hk2, rfl⟩
theorem sp_x_sum1 {s u m n : Nat → Int32} {a c b d : Nat → List Int32} {q : List (Option Nat)} {h : Nat} {z : mc_W} (hL : xL a) {N : Nat} (hN : s 5 = nI N) (hN1 : N ≤ 160) {R : xR} {o : List Int32} (hP : xPS N R o u c) : mc_T yX4_isSum cX4_isSum 4 (some .boolean) 16 [.ref 6, .int 4] (WW s a q u c h m b n d z) (some (.int (mc_b (xsum (xT a) N (xlv (xT a) N 1).1 R o).1))) (fun w1 => ∃ u1 c1, xPS N (xsum (xT a) N (xlv (xT a) N 1).1 R o).2.1 (xsum (xT a) N (xlv (xT a) N 1).1 R o).2.2 u1 c1 ∧ xPK u u1 c c1 ∧ w1 = (WW s a q u1 c1 h m b n d z)) := by
  refine mc_start (own := RX4) (ini := false) rfl (by decide +kernel) (fun h => by cases h) (Nat.le_of_ble_eq_true rfl) ?_
  show mc_E _ _ _ _ _ [some (.ref 6), some (.int 4), none, none] [] _ _ _
  refine e_aloadn (pc := 0) dX4_isSum_0 rfl ?_
  refine e_iloadn (pc := 1) dX4_isSum_1 rfl ?_
  refine e_cvX (pc := 2) (sp_x_term1 hL hN hN1 hP) dX4_isSum_2 kX4_86 rfl rfl rfl rfl rfl (mc_CR_of (Nat.le_of_ble_eq_true rfl) (Nat.le_of_ble_eq_true rfl) (Nat.le_refl _) (Nat.le_refl _)) (Nat.le_of_ble_eq_true rfl) (fun w1 hw1 => ?_)
  obtain ⟨u1, c1, hP1, hk1, rfl⟩ := hw1
  refine e_if_ne (pc := 5) dX4_isSum_5 (t := 10) (by decide) (fun c_5 => ?_) (fun c_5 => ?_)
  · skip
    refine e_iconst (v := 0) (pc := 10) dX4_isSum_10 (by decide) ?_
    refine e_isn2 (pc := 11) dX4_isSum_11 (Nat.le_of_ble_eq_true rfl) rfl ?_
    have e : xsum (xT a) N (xlv (xT a) N 1).1 R o = xlp (xT a) N (xterm (xT a) N (xlv (xT a) N 1).1) xM16 160 ((xterm (xT a) N (xlv (xT a) N 1).1) R o).2.1 ((xterm (xT a) N (xlv (xT a) N 1).1) R o).2.2 := if_pos (mc_b1.mp c_5)
    rw [e]
    exact lp_x_sum1 hL hN hN1 160 0 _ _ u1 c1 _ (by omega) hP1 hk1 rfl
  · skip
    refine e_iconst (v := 0) (pc := 8) dX4_isSum_8 (by decide) ?_
    exact e_zret (pc := 9) dX4_isSum_9 rfl (by rfl) (Nat.le_refl _) (Nat.le_refl _) (have e : xsum (xT a) N (xlv (xT a) N 1).1 R o = (false, ((xterm (xT a) N (xlv (xT a) N 1).1) R o).2) := if_neg (show ¬ ((xterm (xT a) N (xlv (xT a) N 1).1) R o).1 = true by rw [mc_b0.mp c_5]; decide); ⟨by rw [e]; rfl, u1, c1, by rw [e]; dsimp only; exact hP1, hk1, rfl⟩)
theorem sp_x_not1 {s u m n : Nat → Int32} {a c b d : Nat → List Int32} {q : List (Option Nat)} {h : Nat} {z : mc_W} (hL : xL a) {N : Nat} (hN : s 5 = nI N) (hN1 : N ≤ 160) {R : xR} {o : List Int32} (hP : xPS N R o u c) : mc_T yX4_isNot cX4_isNot 3 (some .boolean) 17 [.ref 6, .int 4] (WW s a q u c h m b n d z) (some (.int (mc_b ((xlv (xT a) N 1).2 R o).1))) (fun w1 => ∃ u1 c1, xPS N ((xlv (xT a) N 1).2 R o).2.1 ((xlv (xT a) N 1).2 R o).2.2 u1 c1 ∧ xPK u u1 c c1 ∧ w1 = (WW s a q u1 c1 h m b n d z)) := by
  refine mc_start (own := RX4) (ini := false) rfl (by decide +kernel) (fun h => by cases h) (Nat.le_of_ble_eq_true rfl) ?_
  show mc_E _ _ _ _ _ [some (.ref 6), some (.int 4), none] [] _ _ _
  have ht := hP.2.2.1
  refine e_aloadn (pc := 0) dX4_isNot_0 rfl ?_
  refine e_get (pc := 1) dX4_isNot_1 fX4_41 rfl rfl ?_
  refine e_bipush (v := -13) (pc := 4) dX4_isNot_4 (by decide) ?_
  refine e_icmp_ne (pc := 6) dX4_isNot_6 (t := 40) (by decide) (fun c_6 => ?_) (fun c_6 => ?_)
  · skip
    refine e_aloadn (pc := 40) dX4_isNot_40 rfl ?_
    refine e_iloadn (pc := 41) dX4_isNot_41 rfl ?_
    refine e_cvX (pc := 42) (sp_x_sum1 hL hN hN1 hP) dX4_isNot_42 kX4_83 rfl rfl rfl rfl rfl (mc_CR_of (Nat.le_of_ble_eq_true rfl) (Nat.le_of_ble_eq_true rfl) (Nat.le_refl _) (Nat.le_refl _)) (Nat.le_of_ble_eq_true rfl) (fun w1 hw1 => ?_)
    obtain ⟨u1, c1, hP1, hk1, rfl⟩ := hw1
    refine e_if_ne (pc := 45) dX4_isNot_45 (t := 50) (by decide) (fun c_45 => ?_) (fun c_45 => ?_)
    · skip
      refine e_aloadn (pc := 50) dX4_isNot_50 rfl ?_
      refine e_get (pc := 51) dX4_isNot_51 fX4_41 rfl rfl ?_
      refine e_isn2 (pc := 54) dX4_isNot_54 (Nat.le_of_ble_eq_true rfl) rfl ?_
      refine e_iloadn (pc := 55) dX4_isNot_55 rfl ?_
      refine e_bipush (v := -14) (pc := 56) dX4_isNot_56 (by decide) ?_
      refine e_icmp_eq (pc := 58) dX4_isNot_58 (t := 67) (by decide) (fun c_58 => ?_) (fun c_58 => ?_)
      · skip
        refine e_aloadn (pc := 67) dX4_isNot_67 rfl ?_
        refine e_cvY (pc := 68) (sp_x_goOnP hL hN hN1 hP1) dX4_isNot_68 kX4_28 rfl rfl rfl rfl rfl (mc_CR_of (Nat.le_of_ble_eq_true rfl) (Nat.le_of_ble_eq_true rfl) (Nat.le_refl _) (Nat.le_refl _)) (Nat.le_of_ble_eq_true rfl) (fun w1 hw1 => ?_)
        obtain ⟨u2, c2, hP2, hk2, rfl⟩ := hw1
        refine e_aloadn (pc := 71) dX4_isNot_71 rfl ?_
        refine e_iloadn (pc := 72) dX4_isNot_72 rfl ?_
        refine e_cvX (pc := 73) (sp_x_sum1 hL hN hN1 hP2) dX4_isNot_73 kX4_83 rfl rfl rfl rfl rfl (mc_CR_of (Nat.le_of_ble_eq_true rfl) (Nat.le_of_ble_eq_true rfl) (Nat.le_refl _) (Nat.le_refl _)) (Nat.le_of_ble_eq_true rfl) (fun w1 hw1 => ?_)
        obtain ⟨u3, c3, hP3, hk3, rfl⟩ := hw1
        refine e_if_ne (pc := 76) dX4_isNot_76 (t := 81) (by decide) (fun c_76 => ?_) (fun c_76 => ?_)
        · skip
          refine e_aloadn (pc := 81) dX4_isNot_81 rfl ?_
          refine e_iloadn (pc := 82) dX4_isNot_82 rfl ?_
          refine e_cvY (pc := 83) (sp_x_putP hP3) dX4_isNot_83 kX4_76 rfl rfl rfl rfl rfl (mc_CR_of (Nat.le_of_ble_eq_true rfl) (Nat.le_of_ble_eq_true rfl) (Nat.le_refl _) (Nat.le_refl _)) (Nat.le_of_ble_eq_true rfl) (fun w1 hw1 => ?_)
          obtain ⟨u4, c4, hP4, hk4, rfl⟩ := hw1
          refine e_iconst (v := 1) (pc := 86) dX4_isNot_86 (by decide) ?_
          exact e_zret (pc := 87) dX4_isNot_87 rfl (by rfl) (Nat.le_refl _) (Nat.le_refl _) (have e : (xlv (xT a) N 1).2 R o = (true, (xsum (xT a) N (xlv (xT a) N 1).1 (ynx (xT a) N (xsum (xT a) N (xlv (xT a) N 1).1 R o).2.1.2.1) (xsum (xT a) N (xlv (xT a) N 1).1 R o).2.2).2.1, xput (xsum (xT a) N (xlv (xT a) N 1).1 (ynx (xT a) N (xsum (xT a) N (xlv (xT a) N 1).1 R o).2.1.2.1) (xsum (xT a) N (xlv (xT a) N 1).1 R o).2.2).2.2 (xtk1 (xsum (xT a) N (xlv (xT a) N 1).1 R o).2.1)) := (by rw [xlv_nS]; simp only [xnot]; rw [if_neg (show ¬ xtk1 R = -13 by rw [← ht]; exact c_6), if_pos (mc_b1.mp c_45), if_pos (show xM14 (xtk1 (xsum (xT a) N (xlv (xT a) N 1).1 R o).2.1) = true by rw [← hP1.2.2.1, c_58]; decide), if_pos (mc_b1.mp c_76)]); ⟨by rw [e]; rfl, u4, c4, (hP1.2.2.1 ▸ hP4 : xPS N (xsum (xT a) N (xlv (xT a) N 1).1 (ynx (xT a) N (xsum (xT a) N (xlv (xT a) N 1).1 R o).2.1.2.1) (xsum (xT a) N (xlv (xT a) N 1).1 R o).2.2).2.1 (xput (xsum (xT a) N (xlv (xT a) N 1).1 (ynx (xT a) N (xsum (xT a) N (xlv (xT a) N 1).1 R o).2.1.2.1) (xsum (xT a) N (xlv (xT a) N 1).1 R o).2.2).2.2 (xtk1 (xsum (xT a) N (xlv (xT a) N 1).1 R o).2.1)) u4 c4) |> (fun t => by rw [e]; dsimp only; exact t), ((hk1.trans hk2).trans hk3).trans hk4, rfl⟩)
        · skip
          refine e_iconst (v := 0) (pc := 79) dX4_isNot_79 (by decide) ?_
          exact e_zret (pc := 80) dX4_isNot_80 rfl (by rfl) (Nat.le_refl _) (Nat.le_refl _) (have e : (xlv (xT a) N 1).2 R o = (false, (xsum (xT a) N (xlv (xT a) N 1).1 (ynx (xT a) N (xsum (xT a) N (xlv (xT a) N 1).1 R o).2.1.2.1) (xsum (xT a) N (xlv (xT a) N 1).1 R o).2.2).2) := (by rw [xlv_nS]; simp only [xnot]; rw [if_neg (show ¬ xtk1 R = -13 by rw [← ht]; exact c_6), if_pos (mc_b1.mp c_45), if_pos (show xM14 (xtk1 (xsum (xT a) N (xlv (xT a) N 1).1 R o).2.1) = true by rw [← hP1.2.2.1, c_58]; decide), if_neg (show ¬ (xsum (xT a) N (xlv (xT a) N 1).1 (ynx (xT a) N (xsum (xT a) N (xlv (xT a) N 1).1 R o).2.1.2.1) (xsum (xT a) N (xlv (xT a) N 1).1 R o).2.2).1 = true by rw [mc_b0.mp c_76]; decide)]); ⟨by rw [e]; rfl, u3, c3, by rw [e]; dsimp only; exact hP3, (hk1.trans hk2).trans hk3, rfl⟩)
      · skip
        refine e_iloadn (pc := 61) dX4_isNot_61 rfl ?_
        refine e_bipush (v := -15) (pc := 62) dX4_isNot_62 (by decide) ?_
        refine e_icmp_ne (pc := 64) dX4_isNot_64 (t := 86) (by decide) (fun c_64 => ?_) (fun c_64 => ?_)
        · skip
          refine e_iconst (v := 1) (pc := 86) dX4_isNot_86 (by decide) ?_
          exact e_zret (pc := 87) dX4_isNot_87 rfl (by rfl) (Nat.le_refl _) (Nat.le_refl _) (have e : (xlv (xT a) N 1).2 R o = (true, (xsum (xT a) N (xlv (xT a) N 1).1 R o).2) := (by rw [xlv_nS]; simp only [xnot]; rw [if_neg (show ¬ xtk1 R = -13 by rw [← ht]; exact c_6), if_pos (mc_b1.mp c_45), if_neg (show ¬ xM14 (xtk1 (xsum (xT a) N (xlv (xT a) N 1).1 R o).2.1) = true by rw [← hP1.2.2.1]; unfold xM14; simp [c_58, c_64])]); ⟨by rw [e]; rfl, u1, c1, by rw [e]; dsimp only; exact hP1, hk1, rfl⟩)
        · skip
          refine e_aloadn (pc := 67) dX4_isNot_67 rfl ?_
          refine e_cvY (pc := 68) (sp_x_goOnP hL hN hN1 hP1) dX4_isNot_68 kX4_28 rfl rfl rfl rfl rfl (mc_CR_of (Nat.le_of_ble_eq_true rfl) (Nat.le_of_ble_eq_true rfl) (Nat.le_refl _) (Nat.le_refl _)) (Nat.le_of_ble_eq_true rfl) (fun w1 hw1 => ?_)
          obtain ⟨u2, c2, hP2, hk2, rfl⟩ := hw1
          refine e_aloadn (pc := 71) dX4_isNot_71 rfl ?_
          refine e_iloadn (pc := 72) dX4_isNot_72 rfl ?_
          refine e_cvX (pc := 73) (sp_x_sum1 hL hN hN1 hP2) dX4_isNot_73 kX4_83 rfl rfl rfl rfl rfl (mc_CR_of (Nat.le_of_ble_eq_true rfl) (Nat.le_of_ble_eq_true rfl) (Nat.le_refl _) (Nat.le_refl _)) (Nat.le_of_ble_eq_true rfl) (fun w1 hw1 => ?_)
          obtain ⟨u3, c3, hP3, hk3, rfl⟩ := hw1
          refine e_if_ne (pc := 76) dX4_isNot_76 (t := 81) (by decide) (fun c_76 => ?_) (fun c_76 => ?_)
          · skip
            refine e_aloadn (pc := 81) dX4_isNot_81 rfl ?_
            refine e_iloadn (pc := 82) dX4_isNot_82 rfl ?_
            refine e_cvY (pc := 83) (sp_x_putP hP3) dX4_isNot_83 kX4_76 rfl rfl rfl rfl rfl (mc_CR_of (Nat.le_of_ble_eq_true rfl) (Nat.le_of_ble_eq_true rfl) (Nat.le_refl _) (Nat.le_refl _)) (Nat.le_of_ble_eq_true rfl) (fun w1 hw1 => ?_)
            obtain ⟨u4, c4, hP4, hk4, rfl⟩ := hw1
            refine e_iconst (v := 1) (pc := 86) dX4_isNot_86 (by decide) ?_
            exact e_zret (pc := 87) dX4_isNot_87 rfl (by rfl) (Nat.le_refl _) (Nat.le_refl _) (have e : (xlv (xT a) N 1).2 R o = (true, (xsum (xT a) N (xlv (xT a) N 1).1 (ynx (xT a) N (xsum (xT a) N (xlv (xT a) N 1).1 R o).2.1.2.1) (xsum (xT a) N (xlv (xT a) N 1).1 R o).2.2).2.1, xput (xsum (xT a) N (xlv (xT a) N 1).1 (ynx (xT a) N (xsum (xT a) N (xlv (xT a) N 1).1 R o).2.1.2.1) (xsum (xT a) N (xlv (xT a) N 1).1 R o).2.2).2.2 (xtk1 (xsum (xT a) N (xlv (xT a) N 1).1 R o).2.1)) := (by rw [xlv_nS]; simp only [xnot]; rw [if_neg (show ¬ xtk1 R = -13 by rw [← ht]; exact c_6), if_pos (mc_b1.mp c_45), if_pos (show xM14 (xtk1 (xsum (xT a) N (xlv (xT a) N 1).1 R o).2.1) = true by rw [← hP1.2.2.1, c_64]; decide), if_pos (mc_b1.mp c_76)]); ⟨by rw [e]; rfl, u4, c4, (hP1.2.2.1 ▸ hP4 : xPS N (xsum (xT a) N (xlv (xT a) N 1).1 (ynx (xT a) N (xsum (xT a) N (xlv (xT a) N 1).1 R o).2.1.2.1) (xsum (xT a) N (xlv (xT a) N 1).1 R o).2.2).2.1 (xput (xsum (xT a) N (xlv (xT a) N 1).1 (ynx (xT a) N (xsum (xT a) N (xlv (xT a) N 1).1 R o).2.1.2.1) (xsum (xT a) N (xlv (xT a) N 1).1 R o).2.2).2.2 (xtk1 (xsum (xT a) N (xlv (xT a) N 1).1 R o).2.1)) u4 c4) |> (fun t => by rw [e]; dsimp only; exact t), ((hk1.trans hk2).trans hk3).trans hk4, rfl⟩)
          · skip
            refine e_iconst (v := 0) (pc := 79) dX4_isNot_79 (by decide) ?_
            exact e_zret (pc := 80) dX4_isNot_80 rfl (by rfl) (Nat.le_refl _) (Nat.le_refl _) (have e : (xlv (xT a) N 1).2 R o = (false, (xsum (xT a) N (xlv (xT a) N 1).1 (ynx (xT a) N (xsum (xT a) N (xlv (xT a) N 1).1 R o).2.1.2.1) (xsum (xT a) N (xlv (xT a) N 1).1 R o).2.2).2) := (by rw [xlv_nS]; simp only [xnot]; rw [if_neg (show ¬ xtk1 R = -13 by rw [← ht]; exact c_6), if_pos (mc_b1.mp c_45), if_pos (show xM14 (xtk1 (xsum (xT a) N (xlv (xT a) N 1).1 R o).2.1) = true by rw [← hP1.2.2.1, c_64]; decide), if_neg (show ¬ (xsum (xT a) N (xlv (xT a) N 1).1 (ynx (xT a) N (xsum (xT a) N (xlv (xT a) N 1).1 R o).2.1.2.1) (xsum (xT a) N (xlv (xT a) N 1).1 R o).2.2).1 = true by rw [mc_b0.mp c_76]; decide)]); ⟨by rw [e]; rfl, u3, c3, by rw [e]; dsimp only; exact hP3, (hk1.trans hk2).trans hk3, rfl⟩)
    · skip
      refine e_iconst (v := 0) (pc := 48) dX4_isNot_48 (by decide) ?_
      exact e_zret (pc := 49) dX4_isNot_49 rfl (by rfl) (Nat.le_refl _) (Nat.le_refl _) (have e : (xlv (xT a) N 1).2 R o = (false, (xsum (xT a) N (xlv (xT a) N 1).1 R o).2) := (by rw [xlv_nS]; simp only [xnot]; rw [if_neg (show ¬ xtk1 R = -13 by rw [← ht]; exact c_6), if_neg (show ¬ (xsum (xT a) N (xlv (xT a) N 1).1 R o).1 = true by rw [mc_b0.mp c_45]; decide)]); ⟨by rw [e]; rfl, u1, c1, by rw [e]; dsimp only; exact hP1, hk1, rfl⟩)
  · skip
    refine e_iloadn (pc := 9) dX4_isNot_9 rfl ?_
    refine e_iconst (v := 5) (pc := 10) dX4_isNot_10 (by decide) ?_
    refine e_icmp_lt (pc := 11) dX4_isNot_11 (t := 16) (by decide) (fun _ => ?_) (fun c_11 => absurd (by decide) c_11)
    refine e_aloadn (pc := 16) dX4_isNot_16 rfl ?_
    refine e_cvY (pc := 17) (sp_x_goOnP hL hN hN1 hP) dX4_isNot_17 kX4_28 rfl rfl rfl rfl rfl (mc_CR_of (Nat.le_of_ble_eq_true rfl) (Nat.le_of_ble_eq_true rfl) (Nat.le_refl _) (Nat.le_refl _)) (Nat.le_of_ble_eq_true rfl) (fun w1 hw1 => ?_)
    obtain ⟨u1, c1, hP1, hk1, rfl⟩ := hw1
    refine e_aloadn (pc := 20) dX4_isNot_20 rfl ?_
    refine e_iloadn (pc := 21) dX4_isNot_21 rfl ?_
    refine e_iconst (v := 1) (pc := 22) dX4_isNot_22 (by decide) ?_
    refine e_iadd (pc := 23) dX4_isNot_23 ?_
    refine e_top (y := 5) (by decide) ?_
    refine e_cvX (pc := 24) (sp_x_not0 hL hN hN1 hP1) dX4_isNot_24 kX4_80 rfl rfl rfl rfl rfl (mc_CR_of (Nat.le_of_ble_eq_true rfl) (Nat.le_of_ble_eq_true rfl) (Nat.le_refl _) (Nat.le_refl _)) (Nat.le_of_ble_eq_true rfl) (fun w1 hw1 => ?_)
    obtain ⟨u2, c2, hP2, hk2, rfl⟩ := hw1
    refine e_if_ne (pc := 27) dX4_isNot_27 (t := 32) (by decide) (fun c_27 => ?_) (fun c_27 => ?_)
    · skip
      refine e_aloadn (pc := 32) dX4_isNot_32 rfl ?_
      refine e_bipush (v := -13) (pc := 33) dX4_isNot_33 (by decide) ?_
      refine e_cvY (pc := 35) (sp_x_putP hP2) dX4_isNot_35 kX4_76 rfl rfl rfl rfl rfl (mc_CR_of (Nat.le_of_ble_eq_true rfl) (Nat.le_of_ble_eq_true rfl) (Nat.le_refl _) (Nat.le_refl _)) (Nat.le_of_ble_eq_true rfl) (fun w1 hw1 => ?_)
      obtain ⟨u3, c3, hP3, hk3, rfl⟩ := hw1
      refine e_iconst (v := 1) (pc := 38) dX4_isNot_38 (by decide) ?_
      exact e_zret (pc := 39) dX4_isNot_39 rfl (by rfl) (Nat.le_refl _) (Nat.le_refl _) (have e : (xlv (xT a) N 1).2 R o = (true, ((xlv (xT a) N 0).2 (ynx (xT a) N R.2.1) o).2.1, xput ((xlv (xT a) N 0).2 (ynx (xT a) N R.2.1) o).2.2 (-13)) := (by rw [xlv_nS]; simp only [xnot]; rw [if_pos (show xtk1 R = -13 by rw [← ht]; exact c_6), if_pos (mc_b1.mp c_27)]); ⟨by rw [e]; rfl, u3, c3, by rw [e]; dsimp only; exact hP3, (hk1.trans hk2).trans hk3, rfl⟩)
    · skip
      refine e_iconst (v := 0) (pc := 30) dX4_isNot_30 (by decide) ?_
      exact e_zret (pc := 31) dX4_isNot_31 rfl (by rfl) (Nat.le_refl _) (Nat.le_refl _) (have e : (xlv (xT a) N 1).2 R o = (false, ((xlv (xT a) N 0).2 (ynx (xT a) N R.2.1) o).2) := (by rw [xlv_nS]; simp only [xnot]; rw [if_pos (show xtk1 R = -13 by rw [← ht]; exact c_6), if_neg (show ¬ ((xlv (xT a) N 0).2 (ynx (xT a) N R.2.1) o).1 = true by rw [mc_b0.mp c_27]; decide)]); ⟨by rw [e]; rfl, u2, c2, by rw [e]; dsimp only; exact hP2, hk1.trans hk2, rfl⟩)
theorem lp_x_and1 {s m n : Nat → Int32} {a b d : Nat → List Int32} {q : List (Option Nat)} {h : Nat} {z : mc_W} (hL : xL a) {N : Nat} (hN : s 5 = nI N) (hN1 : N ≤ 160) {ub : Nat → Int32} {cb : Nat → List Int32} {V : Bool × xR × List Int32} :
    ∀ (f i : Nat) (R : xR) (o : List Int32) (u : Nat → Int32) (c : Nat → List Int32), i + f = 160 → xPS N R o u c → xPK ub u cb c → xlp (xT a) N (xlv (xT a) N 1).2 xM12 f R o = V →
      mc_E RX4 cX4_isAnd 3 (mc_JM (some .boolean) false 18 0 0 (fun r' w' => r' = some (.int (mc_b V.1)) ∧ ∃ u1 c1, xPS N V.2.1 V.2.2 u1 c1 ∧ xPK ub u1 cb c1 ∧ w' = (WW s a q u1 c1 h m b n d z))) 12 [some (.ref 6), some (.int 4), some (.int (nI i))] [] (WW s a q u c h m b n d z) 0 0 := by
  intro f
  induction f with
  | zero =>
    intro i R o u c hi hP hkb hV
    have e : i = 160 := by omega
    subst e
    simp only [xlp] at hV
    subst hV
    refine e_iloadn (pc := 12) dX4_isAnd_12 rfl ?_
    refine e_sipush (v := 160) (pc := 13) dX4_isAnd_13 (by decide) ?_
    refine e_icmp_ge (pc := 16) dX4_isAnd_16 (t := 54) (by decide) (fun _ => ?_) (fun c_16 => absurd (by decide) c_16)
    refine e_iconst (v := 1) (pc := 54) dX4_isAnd_54 (by decide) ?_
    exact e_zret (pc := 55) dX4_isAnd_55 rfl (by rfl) (Nat.le_refl _) (Nat.le_refl _) ⟨rfl, u, c, hP, hkb, rfl⟩
  | succ f ih =>
    intro i R o u c hi hP hkb hV
    simp only [xlp] at hV
    have hi1 : i < 160 := by omega
    have ht := hP.2.2.1
    refine e_iloadn (pc := 12) dX4_isAnd_12 rfl ?_
    refine e_sipush (v := 160) (pc := 13) dX4_isAnd_13 (by decide) ?_
    refine e_icmp_ge (pc := 16) dX4_isAnd_16 (t := 54) (by decide) (fun c_16 => absurd c_16 (nI_ge hi1 (by decide))) (fun _ => ?_)
    refine e_aloadn (pc := 19) dX4_isAnd_19 rfl ?_
    refine e_get (pc := 20) dX4_isAnd_20 fX4_41 rfl rfl ?_
    refine e_bipush (v := -12) (pc := 23) dX4_isAnd_23 (by decide) ?_
    refine e_icmp_ne (pc := 25) dX4_isAnd_25 (t := 54) (by decide) (fun c_25 => ?_) (fun c_25 => ?_)
    · skip
      refine e_iconst (v := 1) (pc := 54) dX4_isAnd_54 (by decide) ?_
      exact e_zret (pc := 55) dX4_isAnd_55 rfl (by rfl) (Nat.le_refl _) (Nat.le_refl _) ⟨by rw [← hV, if_neg (show ¬ xM12 (xtk1 R) = true by rw [← ht]; unfold xM12; simp [c_25])]; rfl, u, c, by rw [← hV, if_neg (show ¬ xM12 (xtk1 R) = true by rw [← ht]; unfold xM12; simp [c_25])]; exact hP, hkb, rfl⟩
    · skip
      refine e_aloadn (pc := 28) dX4_isAnd_28 rfl ?_
      refine e_cvY (pc := 29) (sp_x_goOnP hL hN hN1 hP) dX4_isAnd_29 kX4_28 rfl rfl rfl rfl rfl (mc_CR_of (Nat.le_of_ble_eq_true rfl) (Nat.le_of_ble_eq_true rfl) (Nat.le_refl _) (Nat.le_refl _)) (Nat.le_of_ble_eq_true rfl) (fun w1 hw1 => ?_)
      obtain ⟨u1, c1, hP1, hk1, rfl⟩ := hw1
      refine e_aloadn (pc := 32) dX4_isAnd_32 rfl ?_
      refine e_iloadn (pc := 33) dX4_isAnd_33 rfl ?_
      refine e_cvX (pc := 34) (sp_x_not1 hL hN hN1 hP1) dX4_isAnd_34 kX4_80 rfl rfl rfl rfl rfl (mc_CR_of (Nat.le_of_ble_eq_true rfl) (Nat.le_of_ble_eq_true rfl) (Nat.le_refl _) (Nat.le_refl _)) (Nat.le_of_ble_eq_true rfl) (fun w1 hw1 => ?_)
      obtain ⟨u2, c2, hP2, hk2, rfl⟩ := hw1
      refine e_if_ne (pc := 37) dX4_isAnd_37 (t := 42) (by decide) (fun c_37 => ?_) (fun c_37 => ?_)
      · skip
        refine e_aloadn (pc := 42) dX4_isAnd_42 rfl ?_
        refine e_bipush (v := -12) (pc := 43) dX4_isAnd_43 (by decide) ?_
        refine e_cvY (pc := 45) (sp_x_putP hP2) dX4_isAnd_45 kX4_76 rfl rfl rfl rfl rfl (mc_CR_of (Nat.le_of_ble_eq_true rfl) (Nat.le_of_ble_eq_true rfl) (Nat.le_refl _) (Nat.le_refl _)) (Nat.le_of_ble_eq_true rfl) (fun w1 hw1 => ?_)
        obtain ⟨u3, c3, hP3, hk3, rfl⟩ := hw1
        refine e_incC2 (pc := 48) dX4_isAnd_48 (nI_1 i) (Nat.le_of_ble_eq_true rfl) rfl ?_
        refine e_goto (pc := 51) dX4_isAnd_51 (t := 12) (by decide) ?_
        exact ih (i + 1) _ _ _ _ (by omega) (by rw [show (-12 : Int32) = xtk1 R from by rw [← ht, c_25]] at hP3; exact hP3) (((hkb.trans hk1).trans hk2).trans hk3) (by rw [← hV, if_pos (show xM12 (xtk1 R) = true by rw [← ht, c_25]; decide), if_pos (mc_b1.mp c_37)])
      · skip
        refine e_iconst (v := 0) (pc := 40) dX4_isAnd_40 (by decide) ?_
        exact e_zret (pc := 41) dX4_isAnd_41 rfl (by rfl) (Nat.le_refl _) (Nat.le_refl _) ⟨by rw [← hV, if_pos (show xM12 (xtk1 R) = true by rw [← ht, c_25]; decide), if_neg (show ¬ ((xlv (xT a) N 1).2 (ynx (xT a) N R.2.1) o).1 = true by rw [mc_b0.mp c_37]; decide)]; rfl, u2, c2, by rw [← hV, if_pos (show xM12 (xtk1 R) = true by rw [← ht, c_25]; decide), if_neg (show ¬ ((xlv (xT a) N 1).2 (ynx (xT a) N R.2.1) o).1 = true by rw [mc_b0.mp c_37]; decide)]; exact hP2, (hkb.trans hk1).trans hk2, rfl⟩
theorem sp_x_and1 {s u m n : Nat → Int32} {a c b d : Nat → List Int32} {q : List (Option Nat)} {h : Nat} {z : mc_W} (hL : xL a) {N : Nat} (hN : s 5 = nI N) (hN1 : N ≤ 160) {R : xR} {o : List Int32} (hP : xPS N R o u c) : mc_T yX4_isAnd cX4_isAnd 3 (some .boolean) 18 [.ref 6, .int 4] (WW s a q u c h m b n d z) (some (.int (mc_b (xand (xT a) N (xlv (xT a) N 1).2 R o).1))) (fun w1 => ∃ u1 c1, xPS N (xand (xT a) N (xlv (xT a) N 1).2 R o).2.1 (xand (xT a) N (xlv (xT a) N 1).2 R o).2.2 u1 c1 ∧ xPK u u1 c c1 ∧ w1 = (WW s a q u1 c1 h m b n d z)) := by
  refine mc_start (own := RX4) (ini := false) rfl (by decide +kernel) (fun h => by cases h) (Nat.le_of_ble_eq_true rfl) ?_
  show mc_E _ _ _ _ _ [some (.ref 6), some (.int 4), none] [] _ _ _
  refine e_aloadn (pc := 0) dX4_isAnd_0 rfl ?_
  refine e_iloadn (pc := 1) dX4_isAnd_1 rfl ?_
  refine e_cvX (pc := 2) (sp_x_not1 hL hN hN1 hP) dX4_isAnd_2 kX4_80 rfl rfl rfl rfl rfl (mc_CR_of (Nat.le_of_ble_eq_true rfl) (Nat.le_of_ble_eq_true rfl) (Nat.le_refl _) (Nat.le_refl _)) (Nat.le_of_ble_eq_true rfl) (fun w1 hw1 => ?_)
  obtain ⟨u1, c1, hP1, hk1, rfl⟩ := hw1
  refine e_if_ne (pc := 5) dX4_isAnd_5 (t := 10) (by decide) (fun c_5 => ?_) (fun c_5 => ?_)
  · skip
    refine e_iconst (v := 0) (pc := 10) dX4_isAnd_10 (by decide) ?_
    refine e_isn2 (pc := 11) dX4_isAnd_11 (Nat.le_of_ble_eq_true rfl) rfl ?_
    have e : xand (xT a) N (xlv (xT a) N 1).2 R o = xlp (xT a) N (xlv (xT a) N 1).2 xM12 160 ((xlv (xT a) N 1).2 R o).2.1 ((xlv (xT a) N 1).2 R o).2.2 := if_pos (mc_b1.mp c_5)
    rw [e]
    exact lp_x_and1 hL hN hN1 160 0 _ _ u1 c1 (by omega) hP1 hk1 rfl
  · skip
    refine e_iconst (v := 0) (pc := 8) dX4_isAnd_8 (by decide) ?_
    exact e_zret (pc := 9) dX4_isAnd_9 rfl (by rfl) (Nat.le_refl _) (Nat.le_refl _) (have e : xand (xT a) N (xlv (xT a) N 1).2 R o = (false, ((xlv (xT a) N 1).2 R o).2) := if_neg (show ¬ ((xlv (xT a) N 1).2 R o).1 = true by rw [mc_b0.mp c_5]; decide); ⟨by rw [e]; rfl, u1, c1, by rw [e]; dsimp only; exact hP1, hk1, rfl⟩)
theorem lp_x_E1 {s m n : Nat → Int32} {a b d : Nat → List Int32} {q : List (Option Nat)} {h : Nat} {z : mc_W} (hL : xL a) {N : Nat} (hN : s 5 = nI N) (hN1 : N ≤ 160) {ub : Nat → Int32} {cb : Nat → List Int32} {V : Bool × xR × List Int32} :
    ∀ (f i : Nat) (R : xR) (o : List Int32) (u : Nat → Int32) (c : Nat → List Int32), i + f = 160 → xPS N R o u c → xPK ub u cb c → xlp (xT a) N (xand (xT a) N (xlv (xT a) N 1).2) xM11 f R o = V →
      mc_E RX4 cX4_isE 3 (mc_JM (some .boolean) false 19 0 0 (fun r' w' => r' = some (.int (mc_b V.1)) ∧ ∃ u1 c1, xPS N V.2.1 V.2.2 u1 c1 ∧ xPK ub u1 cb c1 ∧ w' = (WW s a q u1 c1 h m b n d z))) 12 [some (.ref 6), some (.int 4), some (.int (nI i))] [] (WW s a q u c h m b n d z) 0 0 := by
  intro f
  induction f with
  | zero =>
    intro i R o u c hi hP hkb hV
    have e : i = 160 := by omega
    subst e
    simp only [xlp] at hV
    subst hV
    refine e_iloadn (pc := 12) dX4_isE_12 rfl ?_
    refine e_sipush (v := 160) (pc := 13) dX4_isE_13 (by decide) ?_
    refine e_icmp_ge (pc := 16) dX4_isE_16 (t := 54) (by decide) (fun _ => ?_) (fun c_16 => absurd (by decide) c_16)
    refine e_iconst (v := 1) (pc := 54) dX4_isE_54 (by decide) ?_
    exact e_zret (pc := 55) dX4_isE_55 rfl (by rfl) (Nat.le_refl _) (Nat.le_refl _) ⟨rfl, u, c, hP, hkb, rfl⟩
  | succ f ih =>
    intro i R o u c hi hP hkb hV
    simp only [xlp] at hV
    have hi1 : i < 160 := by omega
    have ht := hP.2.2.1
    refine e_iloadn (pc := 12) dX4_isE_12 rfl ?_
    refine e_sipush (v := 160) (pc := 13) dX4_isE_13 (by decide) ?_
    refine e_icmp_ge (pc := 16) dX4_isE_16 (t := 54) (by decide) (fun c_16 => absurd c_16 (nI_ge hi1 (by decide))) (fun _ => ?_)
    refine e_aloadn (pc := 19) dX4_isE_19 rfl ?_
    refine e_get (pc := 20) dX4_isE_20 fX4_41 rfl rfl ?_
    refine e_bipush (v := -11) (pc := 23) dX4_isE_23 (by decide) ?_
    refine e_icmp_ne (pc := 25) dX4_isE_25 (t := 54) (by decide) (fun c_25 => ?_) (fun c_25 => ?_)
    · skip
      refine e_iconst (v := 1) (pc := 54) dX4_isE_54 (by decide) ?_
      exact e_zret (pc := 55) dX4_isE_55 rfl (by rfl) (Nat.le_refl _) (Nat.le_refl _) ⟨by rw [← hV, if_neg (show ¬ xM11 (xtk1 R) = true by rw [← ht]; unfold xM11; simp [c_25])]; rfl, u, c, by rw [← hV, if_neg (show ¬ xM11 (xtk1 R) = true by rw [← ht]; unfold xM11; simp [c_25])]; exact hP, hkb, rfl⟩
    · skip
      refine e_aloadn (pc := 28) dX4_isE_28 rfl ?_
      refine e_cvY (pc := 29) (sp_x_goOnP hL hN hN1 hP) dX4_isE_29 kX4_28 rfl rfl rfl rfl rfl (mc_CR_of (Nat.le_of_ble_eq_true rfl) (Nat.le_of_ble_eq_true rfl) (Nat.le_refl _) (Nat.le_refl _)) (Nat.le_of_ble_eq_true rfl) (fun w1 hw1 => ?_)
      obtain ⟨u1, c1, hP1, hk1, rfl⟩ := hw1
      refine e_aloadn (pc := 32) dX4_isE_32 rfl ?_
      refine e_iloadn (pc := 33) dX4_isE_33 rfl ?_
      refine e_cvX (pc := 34) (sp_x_and1 hL hN hN1 hP1) dX4_isE_34 kX4_73 rfl rfl rfl rfl rfl (mc_CR_of (Nat.le_of_ble_eq_true rfl) (Nat.le_of_ble_eq_true rfl) (Nat.le_refl _) (Nat.le_refl _)) (Nat.le_of_ble_eq_true rfl) (fun w1 hw1 => ?_)
      obtain ⟨u2, c2, hP2, hk2, rfl⟩ := hw1
      refine e_if_ne (pc := 37) dX4_isE_37 (t := 42) (by decide) (fun c_37 => ?_) (fun c_37 => ?_)
      · skip
        refine e_aloadn (pc := 42) dX4_isE_42 rfl ?_
        refine e_bipush (v := -11) (pc := 43) dX4_isE_43 (by decide) ?_
        refine e_cvY (pc := 45) (sp_x_putP hP2) dX4_isE_45 kX4_76 rfl rfl rfl rfl rfl (mc_CR_of (Nat.le_of_ble_eq_true rfl) (Nat.le_of_ble_eq_true rfl) (Nat.le_refl _) (Nat.le_refl _)) (Nat.le_of_ble_eq_true rfl) (fun w1 hw1 => ?_)
        obtain ⟨u3, c3, hP3, hk3, rfl⟩ := hw1
        refine e_incC2 (pc := 48) dX4_isE_48 (nI_1 i) (Nat.le_of_ble_eq_true rfl) rfl ?_
        refine e_goto (pc := 51) dX4_isE_51 (t := 12) (by decide) ?_
        exact ih (i + 1) _ _ _ _ (by omega) (by rw [show (-11 : Int32) = xtk1 R from by rw [← ht, c_25]] at hP3; exact hP3) (((hkb.trans hk1).trans hk2).trans hk3) (by rw [← hV, if_pos (show xM11 (xtk1 R) = true by rw [← ht, c_25]; decide), if_pos (mc_b1.mp c_37)])
      · skip
        refine e_iconst (v := 0) (pc := 40) dX4_isE_40 (by decide) ?_
        exact e_zret (pc := 41) dX4_isE_41 rfl (by rfl) (Nat.le_refl _) (Nat.le_refl _) ⟨by rw [← hV, if_pos (show xM11 (xtk1 R) = true by rw [← ht, c_25]; decide), if_neg (show ¬ ((xand (xT a) N (xlv (xT a) N 1).2) (ynx (xT a) N R.2.1) o).1 = true by rw [mc_b0.mp c_37]; decide)]; rfl, u2, c2, by rw [← hV, if_pos (show xM11 (xtk1 R) = true by rw [← ht, c_25]; decide), if_neg (show ¬ ((xand (xT a) N (xlv (xT a) N 1).2) (ynx (xT a) N R.2.1) o).1 = true by rw [mc_b0.mp c_37]; decide)]; exact hP2, (hkb.trans hk1).trans hk2, rfl⟩
theorem sp_x_E1 {s u m n : Nat → Int32} {a c b d : Nat → List Int32} {q : List (Option Nat)} {h : Nat} {z : mc_W} (hL : xL a) {N : Nat} (hN : s 5 = nI N) (hN1 : N ≤ 160) {R : xR} {o : List Int32} (hP : xPS N R o u c) : mc_T yX4_isE cX4_isE 3 (some .boolean) 19 [.ref 6, .int 4] (WW s a q u c h m b n d z) (some (.int (mc_b (xE (xT a) N (xlv (xT a) N 1).2 R o).1))) (fun w1 => ∃ u1 c1, xPS N (xE (xT a) N (xlv (xT a) N 1).2 R o).2.1 (xE (xT a) N (xlv (xT a) N 1).2 R o).2.2 u1 c1 ∧ xPK u u1 c c1 ∧ w1 = (WW s a q u1 c1 h m b n d z)) := by
  refine mc_start (own := RX4) (ini := false) rfl (by decide +kernel) (fun h => by cases h) (Nat.le_of_ble_eq_true rfl) ?_
  show mc_E _ _ _ _ _ [some (.ref 6), some (.int 4), none] [] _ _ _
  refine e_aloadn (pc := 0) dX4_isE_0 rfl ?_
  refine e_iloadn (pc := 1) dX4_isE_1 rfl ?_
  refine e_cvX (pc := 2) (sp_x_and1 hL hN hN1 hP) dX4_isE_2 kX4_73 rfl rfl rfl rfl rfl (mc_CR_of (Nat.le_of_ble_eq_true rfl) (Nat.le_of_ble_eq_true rfl) (Nat.le_refl _) (Nat.le_refl _)) (Nat.le_of_ble_eq_true rfl) (fun w1 hw1 => ?_)
  obtain ⟨u1, c1, hP1, hk1, rfl⟩ := hw1
  refine e_if_ne (pc := 5) dX4_isE_5 (t := 10) (by decide) (fun c_5 => ?_) (fun c_5 => ?_)
  · skip
    refine e_iconst (v := 0) (pc := 10) dX4_isE_10 (by decide) ?_
    refine e_isn2 (pc := 11) dX4_isE_11 (Nat.le_of_ble_eq_true rfl) rfl ?_
    have e : xE (xT a) N (xlv (xT a) N 1).2 R o = xlp (xT a) N (xand (xT a) N (xlv (xT a) N 1).2) xM11 160 ((xand (xT a) N (xlv (xT a) N 1).2) R o).2.1 ((xand (xT a) N (xlv (xT a) N 1).2) R o).2.2 := if_pos (mc_b1.mp c_5)
    rw [e]
    exact lp_x_E1 hL hN hN1 160 0 _ _ u1 c1 (by omega) hP1 hk1 rfl
  · skip
    refine e_iconst (v := 0) (pc := 8) dX4_isE_8 (by decide) ?_
    exact e_zret (pc := 9) dX4_isE_9 rfl (by rfl) (Nat.le_refl _) (Nat.le_refl _) (have e : xE (xT a) N (xlv (xT a) N 1).2 R o = (false, ((xand (xT a) N (xlv (xT a) N 1).2) R o).2) := if_neg (show ¬ ((xand (xT a) N (xlv (xT a) N 1).2) R o).1 = true by rw [mc_b0.mp c_5]; decide); ⟨by rw [e]; rfl, u1, c1, by rw [e]; dsimp only; exact hP1, hk1, rfl⟩)
end Zj_6n_x24_1
section Zj_6n_x24_2
theorem sp_x_one2 {s u m n : Nat → Int32} {a c b d : Nat → List Int32} {q : List (Option Nat)} {h : Nat} {z : mc_W} (hL : xL a) {N : Nat} (hN : s 5 = nI N) (hN1 : N ≤ 160) {R : xR} {o : List Int32} (hP : xPS N R o u c) : mc_T yX4_isOne cX4_isOne 2 (some .boolean) 20 [.ref 6, .int 3] (WW s a q u c h m b n d z) (some (.int (mc_b ((xlv (xT a) N 2).1 R o).1))) (fun w1 => ∃ u1 c1, xPS N ((xlv (xT a) N 2).1 R o).2.1 ((xlv (xT a) N 2).1 R o).2.2 u1 c1 ∧ xPK u u1 c c1 ∧ w1 = (WW s a q u1 c1 h m b n d z)) := by
  refine mc_start (own := RX4) (ini := false) rfl (by decide +kernel) (fun h => by cases h) (Nat.le_of_ble_eq_true rfl) ?_
  show mc_E _ _ _ _ _ [some (.ref 6), some (.int 3)] [] _ _ _
  have ht := hP.2.2.1
  refine e_aloadn (pc := 0) dX4_isOne_0 rfl ?_
  refine e_get (pc := 1) dX4_isOne_1 fX4_41 rfl rfl ?_
  refine e_bipush (v := -6) (pc := 4) dX4_isOne_4 (by decide) ?_
  refine e_icmp_lt (pc := 6) dX4_isOne_6 (t := 23) (by decide) (fun c_6 => ?_) (fun c_6 => ?_)
  · skip
    refine e_aloadn (pc := 23) dX4_isOne_23 rfl ?_
    refine e_get (pc := 24) dX4_isOne_24 fX4_41 rfl rfl ?_
    refine e_bipush (v := -17) (pc := 27) dX4_isOne_27 (by decide) ?_
    refine e_icmp_eq (pc := 29) dX4_isOne_29 (t := 41) (by decide) (fun c_29 => ?_) (fun c_29 => ?_)
    · skip
      refine e_iloadn (pc := 41) dX4_isOne_41 rfl ?_
      refine e_iconst (v := 5) (pc := 42) dX4_isOne_42 (by decide) ?_
      refine e_icmp_lt (pc := 43) dX4_isOne_43 (t := 48) (by decide) (fun _ => ?_) (fun c_43 => absurd (by decide) c_43)
      refine e_aloadn (pc := 48) dX4_isOne_48 rfl ?_
      refine e_get (pc := 49) dX4_isOne_49 fX4_41 rfl rfl ?_
      refine e_bipush (v := -20) (pc := 52) dX4_isOne_52 (by decide) ?_
      refine e_icmp_ne (pc := 54) dX4_isOne_54 (t := 88) (by decide) (fun c_54 => ?_) (fun c_54 => ?_)
      · skip
        refine e_aloadn (pc := 88) dX4_isOne_88 rfl ?_
        refine e_cvY (pc := 89) (sp_x_goOnP hL hN hN1 hP) dX4_isOne_89 kX4_28 rfl rfl rfl rfl rfl (mc_CR_of (Nat.le_of_ble_eq_true rfl) (Nat.le_of_ble_eq_true rfl) (Nat.le_refl _) (Nat.le_refl _)) (Nat.le_of_ble_eq_true rfl) (fun w1 hw1 => ?_)
        obtain ⟨u1, c1, hP1, hk1, rfl⟩ := hw1
        refine e_aloadn (pc := 92) dX4_isOne_92 rfl ?_
        refine e_iloadn (pc := 93) dX4_isOne_93 rfl ?_
        refine e_iconst (v := 1) (pc := 94) dX4_isOne_94 (by decide) ?_
        refine e_iadd (pc := 95) dX4_isOne_95 ?_
        refine e_top (y := 4) (by decide) ?_
        refine e_cvX (pc := 96) (sp_x_one1 hL hN hN1 hP1) dX4_isOne_96 kX4_89 rfl rfl rfl rfl rfl (mc_CR_of (Nat.le_of_ble_eq_true rfl) (Nat.le_of_ble_eq_true rfl) (Nat.le_refl _) (Nat.le_refl _)) (Nat.le_of_ble_eq_true rfl) (fun w1 hw1 => ?_)
        obtain ⟨u2, c2, hP2, hk2, rfl⟩ := hw1
        refine e_if_ne (pc := 99) dX4_isOne_99 (t := 104) (by decide) (fun c_99 => ?_) (fun c_99 => ?_)
        · skip
          refine e_aloadn (pc := 104) dX4_isOne_104 rfl ?_
          refine e_bipush (v := -19) (pc := 105) dX4_isOne_105 (by decide) ?_
          refine e_cvY (pc := 107) (sp_x_putP hP2) dX4_isOne_107 kX4_76 rfl rfl rfl rfl rfl (mc_CR_of (Nat.le_of_ble_eq_true rfl) (Nat.le_of_ble_eq_true rfl) (Nat.le_refl _) (Nat.le_refl _)) (Nat.le_of_ble_eq_true rfl) (fun w1 hw1 => ?_)
          obtain ⟨u3, c3, hP3, hk3, rfl⟩ := hw1
          refine e_iconst (v := 1) (pc := 110) dX4_isOne_110 (by decide) ?_
          exact e_zret (pc := 111) dX4_isOne_111 rfl (by rfl) (Nat.le_refl _) (Nat.le_refl _) (have e : (xlv (xT a) N 2).1 R o = (true, ((xlv (xT a) N 1).1 (ynx (xT a) N R.2.1) o).2.1, xput ((xlv (xT a) N 1).1 (ynx (xT a) N R.2.1) o).2.2 (-19)) := (by rw [xlv_oS]; simp only [xone]; rw [if_neg (show ¬ -6 ≤ xtk1 R by rw [← ht]; exact Int32.not_le.mpr c_6), if_neg (show ¬ xtk1 R = -20 by rw [← ht]; exact c_54), if_pos (show xtk1 R = -17 by rw [← ht]; exact c_29), if_pos (mc_b1.mp c_99)]); ⟨by rw [e]; rfl, u3, c3, by rw [e]; dsimp only; exact hP3, (hk1.trans hk2).trans hk3, rfl⟩)
        · skip
          refine e_iconst (v := 0) (pc := 102) dX4_isOne_102 (by decide) ?_
          exact e_zret (pc := 103) dX4_isOne_103 rfl (by rfl) (Nat.le_refl _) (Nat.le_refl _) (have e : (xlv (xT a) N 2).1 R o = (false, ((xlv (xT a) N 1).1 (ynx (xT a) N R.2.1) o).2) := (by rw [xlv_oS]; simp only [xone]; rw [if_neg (show ¬ -6 ≤ xtk1 R by rw [← ht]; exact Int32.not_le.mpr c_6), if_neg (show ¬ xtk1 R = -20 by rw [← ht]; exact c_54), if_pos (show xtk1 R = -17 by rw [← ht]; exact c_29), if_neg (show ¬ ((xlv (xT a) N 1).1 (ynx (xT a) N R.2.1) o).1 = true by rw [mc_b0.mp c_99]; decide)]); ⟨by rw [e]; rfl, u2, c2, by rw [e]; dsimp only; exact hP2, hk1.trans hk2, rfl⟩)
      · skip
        refine e_aloadn (pc := 57) dX4_isOne_57 rfl ?_
        refine e_cvY (pc := 58) (sp_x_goOnP hL hN hN1 hP) dX4_isOne_58 kX4_28 rfl rfl rfl rfl rfl (mc_CR_of (Nat.le_of_ble_eq_true rfl) (Nat.le_of_ble_eq_true rfl) (Nat.le_refl _) (Nat.le_refl _)) (Nat.le_of_ble_eq_true rfl) (fun w1 hw1 => ?_)
        obtain ⟨u1, c1, hP1, hk1, rfl⟩ := hw1
        refine e_aloadn (pc := 61) dX4_isOne_61 rfl ?_
        refine e_iloadn (pc := 62) dX4_isOne_62 rfl ?_
        refine e_iconst (v := 1) (pc := 63) dX4_isOne_63 (by decide) ?_
        refine e_iadd (pc := 64) dX4_isOne_64 ?_
        refine e_top (y := 4) (by decide) ?_
        refine e_cvX (pc := 65) (sp_x_E1 hL hN hN1 hP1) dX4_isOne_65 kX4_70 rfl rfl rfl rfl rfl (mc_CR_of (Nat.le_of_ble_eq_true rfl) (Nat.le_of_ble_eq_true rfl) (Nat.le_refl _) (Nat.le_refl _)) (Nat.le_of_ble_eq_true rfl) (fun w1 hw1 => ?_)
        obtain ⟨u2, c2, hP2, hk2, rfl⟩ := hw1
        refine e_if_eq (pc := 68) dX4_isOne_68 (t := 80) (by decide) (fun c_68 => ?_) (fun c_68 => ?_)
        · skip
          refine e_iconst (v := 0) (pc := 80) dX4_isOne_80 (by decide) ?_
          exact e_zret (pc := 81) dX4_isOne_81 rfl (by rfl) (Nat.le_refl _) (Nat.le_refl _) (have e : (xlv (xT a) N 2).1 R o = (false, (xE (xT a) N (xlv (xT a) N 1).2 (ynx (xT a) N R.2.1) o).2) := (by rw [xlv_oS]; simp only [xone]; rw [if_neg (show ¬ -6 ≤ xtk1 R by rw [← ht]; exact Int32.not_le.mpr c_6), if_pos (show xtk1 R = -20 by rw [← ht]; exact c_54), if_neg (show ¬ (xE (xT a) N (xlv (xT a) N 1).2 (ynx (xT a) N R.2.1) o).1 = true by rw [mc_b0.mp c_68]; decide)]); ⟨by rw [e]; rfl, u2, c2, by rw [e]; dsimp only; exact hP2, hk1.trans hk2, rfl⟩)
        · skip
          refine e_aloadn (pc := 71) dX4_isOne_71 rfl ?_
          refine e_get (pc := 72) dX4_isOne_72 fX4_41 rfl rfl ?_
          refine e_bipush (v := -21) (pc := 75) dX4_isOne_75 (by decide) ?_
          refine e_icmp_eq (pc := 77) dX4_isOne_77 (t := 82) (by decide) (fun c_77 => ?_) (fun c_77 => ?_)
          · skip
            refine e_aloadn (pc := 82) dX4_isOne_82 rfl ?_
            refine e_cvY (pc := 83) (sp_x_goOnP hL hN hN1 hP2) dX4_isOne_83 kX4_28 rfl rfl rfl rfl rfl (mc_CR_of (Nat.le_of_ble_eq_true rfl) (Nat.le_of_ble_eq_true rfl) (Nat.le_refl _) (Nat.le_refl _)) (Nat.le_of_ble_eq_true rfl) (fun w1 hw1 => ?_)
            obtain ⟨u3, c3, hP3, hk3, rfl⟩ := hw1
            refine e_iconst (v := 1) (pc := 86) dX4_isOne_86 (by decide) ?_
            exact e_zret (pc := 87) dX4_isOne_87 rfl (by rfl) (Nat.le_refl _) (Nat.le_refl _) (have e : (xlv (xT a) N 2).1 R o = (true, ynx (xT a) N (xE (xT a) N (xlv (xT a) N 1).2 (ynx (xT a) N R.2.1) o).2.1.2.1, (xE (xT a) N (xlv (xT a) N 1).2 (ynx (xT a) N R.2.1) o).2.2) := (by rw [xlv_oS]; simp only [xone]; rw [if_neg (show ¬ -6 ≤ xtk1 R by rw [← ht]; exact Int32.not_le.mpr c_6), if_pos (show xtk1 R = -20 by rw [← ht]; exact c_54), if_pos (mc_b1.mp c_68), if_pos (show xtk1 (xE (xT a) N (xlv (xT a) N 1).2 (ynx (xT a) N R.2.1) o).2.1 = -21 by rw [← hP2.2.2.1]; exact c_77)]); ⟨by rw [e]; rfl, u3, c3, by rw [e]; dsimp only; exact hP3, (hk1.trans hk2).trans hk3, rfl⟩)
          · skip
            refine e_iconst (v := 0) (pc := 80) dX4_isOne_80 (by decide) ?_
            exact e_zret (pc := 81) dX4_isOne_81 rfl (by rfl) (Nat.le_refl _) (Nat.le_refl _) (have e : (xlv (xT a) N 2).1 R o = (false, (xE (xT a) N (xlv (xT a) N 1).2 (ynx (xT a) N R.2.1) o).2) := (by rw [xlv_oS]; simp only [xone]; rw [if_neg (show ¬ -6 ≤ xtk1 R by rw [← ht]; exact Int32.not_le.mpr c_6), if_pos (show xtk1 R = -20 by rw [← ht]; exact c_54), if_pos (mc_b1.mp c_68), if_neg (show ¬ xtk1 (xE (xT a) N (xlv (xT a) N 1).2 (ynx (xT a) N R.2.1) o).2.1 = -21 by rw [← hP2.2.2.1]; exact c_77)]); ⟨by rw [e]; rfl, u2, c2, by rw [e]; dsimp only; exact hP2, hk1.trans hk2, rfl⟩)
    · skip
      refine e_aloadn (pc := 32) dX4_isOne_32 rfl ?_
      refine e_get (pc := 33) dX4_isOne_33 fX4_41 rfl rfl ?_
      refine e_bipush (v := -20) (pc := 36) dX4_isOne_36 (by decide) ?_
      refine e_icmp_ne (pc := 38) dX4_isOne_38 (t := 46) (by decide) (fun c_38 => ?_) (fun c_38 => ?_)
      · skip
        refine e_iconst (v := 0) (pc := 46) dX4_isOne_46 (by decide) ?_
        exact e_zret (pc := 47) dX4_isOne_47 rfl (by rfl) (Nat.le_refl _) (Nat.le_refl _) (have e : (xlv (xT a) N 2).1 R o = (false, R, o) := (by rw [xlv_oS]; simp only [xone]; rw [if_neg (show ¬ -6 ≤ xtk1 R by rw [← ht]; exact Int32.not_le.mpr c_6), if_neg (show ¬ xtk1 R = -20 by rw [← ht]; exact c_38), if_neg (show ¬ xtk1 R = -17 by rw [← ht]; exact c_29)]); ⟨by rw [e]; rfl, u, c, by rw [e]; dsimp only; exact hP, xPK_refl u c, rfl⟩)
      · skip
        refine e_iloadn (pc := 41) dX4_isOne_41 rfl ?_
        refine e_iconst (v := 5) (pc := 42) dX4_isOne_42 (by decide) ?_
        refine e_icmp_lt (pc := 43) dX4_isOne_43 (t := 48) (by decide) (fun _ => ?_) (fun c_43 => absurd (by decide) c_43)
        refine e_aloadn (pc := 48) dX4_isOne_48 rfl ?_
        refine e_get (pc := 49) dX4_isOne_49 fX4_41 rfl rfl ?_
        refine e_bipush (v := -20) (pc := 52) dX4_isOne_52 (by decide) ?_
        refine e_icmp_ne (pc := 54) dX4_isOne_54 (t := 88) (by decide) (fun c_54 => ?_) (fun c_54 => ?_)
        · skip
          refine e_aloadn (pc := 88) dX4_isOne_88 rfl ?_
          refine e_cvY (pc := 89) (sp_x_goOnP hL hN hN1 hP) dX4_isOne_89 kX4_28 rfl rfl rfl rfl rfl (mc_CR_of (Nat.le_of_ble_eq_true rfl) (Nat.le_of_ble_eq_true rfl) (Nat.le_refl _) (Nat.le_refl _)) (Nat.le_of_ble_eq_true rfl) (fun w1 hw1 => ?_)
          obtain ⟨u1, c1, hP1, hk1, rfl⟩ := hw1
          refine e_aloadn (pc := 92) dX4_isOne_92 rfl ?_
          refine e_iloadn (pc := 93) dX4_isOne_93 rfl ?_
          refine e_iconst (v := 1) (pc := 94) dX4_isOne_94 (by decide) ?_
          refine e_iadd (pc := 95) dX4_isOne_95 ?_
          refine e_top (y := 4) (by decide) ?_
          refine e_cvX (pc := 96) (sp_x_one1 hL hN hN1 hP1) dX4_isOne_96 kX4_89 rfl rfl rfl rfl rfl (mc_CR_of (Nat.le_of_ble_eq_true rfl) (Nat.le_of_ble_eq_true rfl) (Nat.le_refl _) (Nat.le_refl _)) (Nat.le_of_ble_eq_true rfl) (fun w1 hw1 => ?_)
          obtain ⟨u2, c2, hP2, hk2, rfl⟩ := hw1
          refine e_if_ne (pc := 99) dX4_isOne_99 (t := 104) (by decide) (fun c_99 => ?_) (fun c_99 => ?_)
          · skip
            refine e_aloadn (pc := 104) dX4_isOne_104 rfl ?_
            refine e_bipush (v := -19) (pc := 105) dX4_isOne_105 (by decide) ?_
            refine e_cvY (pc := 107) (sp_x_putP hP2) dX4_isOne_107 kX4_76 rfl rfl rfl rfl rfl (mc_CR_of (Nat.le_of_ble_eq_true rfl) (Nat.le_of_ble_eq_true rfl) (Nat.le_refl _) (Nat.le_refl _)) (Nat.le_of_ble_eq_true rfl) (fun w1 hw1 => ?_)
            obtain ⟨u3, c3, hP3, hk3, rfl⟩ := hw1
            refine e_iconst (v := 1) (pc := 110) dX4_isOne_110 (by decide) ?_
            exact e_zret (pc := 111) dX4_isOne_111 rfl (by rfl) (Nat.le_refl _) (Nat.le_refl _) (have e : (xlv (xT a) N 2).1 R o = (true, ((xlv (xT a) N 1).1 (ynx (xT a) N R.2.1) o).2.1, xput ((xlv (xT a) N 1).1 (ynx (xT a) N R.2.1) o).2.2 (-19)) := (by rw [xlv_oS]; simp only [xone]; rw [if_neg (show ¬ -6 ≤ xtk1 R by rw [← ht]; exact Int32.not_le.mpr c_6), if_neg (show ¬ xtk1 R = -20 by rw [← ht]; exact c_54), if_pos (show xtk1 R = -17 from absurd (show u 2 = -20 from c_38) c_54), if_pos (mc_b1.mp c_99)]); ⟨by rw [e]; rfl, u3, c3, by rw [e]; dsimp only; exact hP3, (hk1.trans hk2).trans hk3, rfl⟩)
          · skip
            refine e_iconst (v := 0) (pc := 102) dX4_isOne_102 (by decide) ?_
            exact e_zret (pc := 103) dX4_isOne_103 rfl (by rfl) (Nat.le_refl _) (Nat.le_refl _) (have e : (xlv (xT a) N 2).1 R o = (false, ((xlv (xT a) N 1).1 (ynx (xT a) N R.2.1) o).2) := (by rw [xlv_oS]; simp only [xone]; rw [if_neg (show ¬ -6 ≤ xtk1 R by rw [← ht]; exact Int32.not_le.mpr c_6), if_neg (show ¬ xtk1 R = -20 by rw [← ht]; exact c_54), if_pos (show xtk1 R = -17 from absurd (show u 2 = -20 from c_38) c_54), if_neg (show ¬ ((xlv (xT a) N 1).1 (ynx (xT a) N R.2.1) o).1 = true by rw [mc_b0.mp c_99]; decide)]); ⟨by rw [e]; rfl, u2, c2, by rw [e]; dsimp only; exact hP2, hk1.trans hk2, rfl⟩)
        · skip
          refine e_aloadn (pc := 57) dX4_isOne_57 rfl ?_
          refine e_cvY (pc := 58) (sp_x_goOnP hL hN hN1 hP) dX4_isOne_58 kX4_28 rfl rfl rfl rfl rfl (mc_CR_of (Nat.le_of_ble_eq_true rfl) (Nat.le_of_ble_eq_true rfl) (Nat.le_refl _) (Nat.le_refl _)) (Nat.le_of_ble_eq_true rfl) (fun w1 hw1 => ?_)
          obtain ⟨u1, c1, hP1, hk1, rfl⟩ := hw1
          refine e_aloadn (pc := 61) dX4_isOne_61 rfl ?_
          refine e_iloadn (pc := 62) dX4_isOne_62 rfl ?_
          refine e_iconst (v := 1) (pc := 63) dX4_isOne_63 (by decide) ?_
          refine e_iadd (pc := 64) dX4_isOne_64 ?_
          refine e_top (y := 4) (by decide) ?_
          refine e_cvX (pc := 65) (sp_x_E1 hL hN hN1 hP1) dX4_isOne_65 kX4_70 rfl rfl rfl rfl rfl (mc_CR_of (Nat.le_of_ble_eq_true rfl) (Nat.le_of_ble_eq_true rfl) (Nat.le_refl _) (Nat.le_refl _)) (Nat.le_of_ble_eq_true rfl) (fun w1 hw1 => ?_)
          obtain ⟨u2, c2, hP2, hk2, rfl⟩ := hw1
          refine e_if_eq (pc := 68) dX4_isOne_68 (t := 80) (by decide) (fun c_68 => ?_) (fun c_68 => ?_)
          · skip
            refine e_iconst (v := 0) (pc := 80) dX4_isOne_80 (by decide) ?_
            exact e_zret (pc := 81) dX4_isOne_81 rfl (by rfl) (Nat.le_refl _) (Nat.le_refl _) (have e : (xlv (xT a) N 2).1 R o = (false, (xE (xT a) N (xlv (xT a) N 1).2 (ynx (xT a) N R.2.1) o).2) := (by rw [xlv_oS]; simp only [xone]; rw [if_neg (show ¬ -6 ≤ xtk1 R by rw [← ht]; exact Int32.not_le.mpr c_6), if_pos (show xtk1 R = -20 by rw [← ht]; exact c_54), if_neg (show ¬ (xE (xT a) N (xlv (xT a) N 1).2 (ynx (xT a) N R.2.1) o).1 = true by rw [mc_b0.mp c_68]; decide)]); ⟨by rw [e]; rfl, u2, c2, by rw [e]; dsimp only; exact hP2, hk1.trans hk2, rfl⟩)
          · skip
            refine e_aloadn (pc := 71) dX4_isOne_71 rfl ?_
            refine e_get (pc := 72) dX4_isOne_72 fX4_41 rfl rfl ?_
            refine e_bipush (v := -21) (pc := 75) dX4_isOne_75 (by decide) ?_
            refine e_icmp_eq (pc := 77) dX4_isOne_77 (t := 82) (by decide) (fun c_77 => ?_) (fun c_77 => ?_)
            · skip
              refine e_aloadn (pc := 82) dX4_isOne_82 rfl ?_
              refine e_cvY (pc := 83) (sp_x_goOnP hL hN hN1 hP2) dX4_isOne_83 kX4_28 rfl rfl rfl rfl rfl (mc_CR_of (Nat.le_of_ble_eq_true rfl) (Nat.le_of_ble_eq_true rfl) (Nat.le_refl _) (Nat.le_refl _)) (Nat.le_of_ble_eq_true rfl) (fun w1 hw1 => ?_)
              obtain ⟨u3, c3, hP3, hk3, rfl⟩ := hw1
              refine e_iconst (v := 1) (pc := 86) dX4_isOne_86 (by decide) ?_
              exact e_zret (pc := 87) dX4_isOne_87 rfl (by rfl) (Nat.le_refl _) (Nat.le_refl _) (have e : (xlv (xT a) N 2).1 R o = (true, ynx (xT a) N (xE (xT a) N (xlv (xT a) N 1).2 (ynx (xT a) N R.2.1) o).2.1.2.1, (xE (xT a) N (xlv (xT a) N 1).2 (ynx (xT a) N R.2.1) o).2.2) := (by rw [xlv_oS]; simp only [xone]; rw [if_neg (show ¬ -6 ≤ xtk1 R by rw [← ht]; exact Int32.not_le.mpr c_6), if_pos (show xtk1 R = -20 by rw [← ht]; exact c_54), if_pos (mc_b1.mp c_68), if_pos (show xtk1 (xE (xT a) N (xlv (xT a) N 1).2 (ynx (xT a) N R.2.1) o).2.1 = -21 by rw [← hP2.2.2.1]; exact c_77)]); ⟨by rw [e]; rfl, u3, c3, by rw [e]; dsimp only; exact hP3, (hk1.trans hk2).trans hk3, rfl⟩)
            · skip
              refine e_iconst (v := 0) (pc := 80) dX4_isOne_80 (by decide) ?_
              exact e_zret (pc := 81) dX4_isOne_81 rfl (by rfl) (Nat.le_refl _) (Nat.le_refl _) (have e : (xlv (xT a) N 2).1 R o = (false, (xE (xT a) N (xlv (xT a) N 1).2 (ynx (xT a) N R.2.1) o).2) := (by rw [xlv_oS]; simp only [xone]; rw [if_neg (show ¬ -6 ≤ xtk1 R by rw [← ht]; exact Int32.not_le.mpr c_6), if_pos (show xtk1 R = -20 by rw [← ht]; exact c_54), if_pos (mc_b1.mp c_68), if_neg (show ¬ xtk1 (xE (xT a) N (xlv (xT a) N 1).2 (ynx (xT a) N R.2.1) o).2.1 = -21 by rw [← hP2.2.2.1]; exact c_77)]); ⟨by rw [e]; rfl, u2, c2, by rw [e]; dsimp only; exact hP2, hk1.trans hk2, rfl⟩)
  · skip
    refine e_aloadn (pc := 9) dX4_isOne_9 rfl ?_
    refine e_aloadn (pc := 10) dX4_isOne_10 rfl ?_
    refine e_get (pc := 11) dX4_isOne_11 fX4_41 rfl rfl ?_
    refine e_cvY (pc := 14) (sp_x_putP hP) dX4_isOne_14 kX4_76 rfl rfl rfl rfl rfl (mc_CR_of (Nat.le_of_ble_eq_true rfl) (Nat.le_of_ble_eq_true rfl) (Nat.le_refl _) (Nat.le_refl _)) (Nat.le_of_ble_eq_true rfl) (fun w1 hw1 => ?_)
    obtain ⟨u1, c1, hP1, hk1, rfl⟩ := hw1
    rw [ht] at hP1
    refine e_aloadn (pc := 17) dX4_isOne_17 rfl ?_
    refine e_cvY (pc := 18) (sp_x_goOnP hL hN hN1 hP1) dX4_isOne_18 kX4_28 rfl rfl rfl rfl rfl (mc_CR_of (Nat.le_of_ble_eq_true rfl) (Nat.le_of_ble_eq_true rfl) (Nat.le_refl _) (Nat.le_refl _)) (Nat.le_of_ble_eq_true rfl) (fun w1 hw1 => ?_)
    obtain ⟨u2, c2, hP2, hk2, rfl⟩ := hw1
    refine e_iconst (v := 1) (pc := 21) dX4_isOne_21 (by decide) ?_
    exact e_zret (pc := 22) dX4_isOne_22 rfl (by rfl) (Nat.le_refl _) (Nat.le_refl _) (have e : (xlv (xT a) N 2).1 R o = (true, ynx (xT a) N R.2.1, xput o (xtk1 R)) := (by rw [xlv_oS]; unfold xone; rw [if_pos (show -6 ≤ xtk1 R by rw [← ht]; exact Int32.not_lt.mp c_6)]); ⟨by rw [e]; rfl, u2, c2, by rw [e]; dsimp only; exact hP2, hk1.trans hk2, rfl⟩)
theorem lp_x_term2 {s m n : Nat → Int32} {a b d : Nat → List Int32} {q : List (Option Nat)} {h : Nat} {z : mc_W} (hL : xL a) {N : Nat} (hN : s 5 = nI N) (hN1 : N ≤ 160) {ub : Nat → Int32} {cb : Nat → List Int32} {V : Bool × xR × List Int32} :
    ∀ (f i : Nat) (R : xR) (o : List Int32) (u : Nat → Int32) (c : Nat → List Int32), i + f = 160 → xPS N R o u c → xPK ub u cb c → xlp (xT a) N (xlv (xT a) N 2).1 xM18 f R o = V →
      mc_E RX4 cX4_isTerm 3 (mc_JM (some .boolean) false 21 0 0 (fun r' w' => r' = some (.int (mc_b V.1)) ∧ ∃ u1 c1, xPS N V.2.1 V.2.2 u1 c1 ∧ xPK ub u1 cb c1 ∧ w' = (WW s a q u1 c1 h m b n d z))) 12 [some (.ref 6), some (.int 3), some (.int (nI i))] [] (WW s a q u c h m b n d z) 0 0 := by
  intro f
  induction f with
  | zero =>
    intro i R o u c hi hP hkb hV
    have e : i = 160 := by omega
    subst e
    simp only [xlp] at hV
    subst hV
    refine e_iloadn (pc := 12) dX4_isTerm_12 rfl ?_
    refine e_sipush (v := 160) (pc := 13) dX4_isTerm_13 (by decide) ?_
    refine e_icmp_ge (pc := 16) dX4_isTerm_16 (t := 54) (by decide) (fun _ => ?_) (fun c_16 => absurd (by decide) c_16)
    refine e_iconst (v := 1) (pc := 54) dX4_isTerm_54 (by decide) ?_
    exact e_zret (pc := 55) dX4_isTerm_55 rfl (by rfl) (Nat.le_refl _) (Nat.le_refl _) ⟨rfl, u, c, hP, hkb, rfl⟩
  | succ f ih =>
    intro i R o u c hi hP hkb hV
    simp only [xlp] at hV
    have hi1 : i < 160 := by omega
    have ht := hP.2.2.1
    refine e_iloadn (pc := 12) dX4_isTerm_12 rfl ?_
    refine e_sipush (v := 160) (pc := 13) dX4_isTerm_13 (by decide) ?_
    refine e_icmp_ge (pc := 16) dX4_isTerm_16 (t := 54) (by decide) (fun c_16 => absurd c_16 (nI_ge hi1 (by decide))) (fun _ => ?_)
    refine e_aloadn (pc := 19) dX4_isTerm_19 rfl ?_
    refine e_get (pc := 20) dX4_isTerm_20 fX4_41 rfl rfl ?_
    refine e_bipush (v := -18) (pc := 23) dX4_isTerm_23 (by decide) ?_
    refine e_icmp_ne (pc := 25) dX4_isTerm_25 (t := 54) (by decide) (fun c_25 => ?_) (fun c_25 => ?_)
    · skip
      refine e_iconst (v := 1) (pc := 54) dX4_isTerm_54 (by decide) ?_
      exact e_zret (pc := 55) dX4_isTerm_55 rfl (by rfl) (Nat.le_refl _) (Nat.le_refl _) ⟨by rw [← hV, if_neg (show ¬ xM18 (xtk1 R) = true by rw [← ht]; unfold xM18; simp [c_25])]; rfl, u, c, by rw [← hV, if_neg (show ¬ xM18 (xtk1 R) = true by rw [← ht]; unfold xM18; simp [c_25])]; exact hP, hkb, rfl⟩
    · skip
      refine e_aloadn (pc := 28) dX4_isTerm_28 rfl ?_
      refine e_cvY (pc := 29) (sp_x_goOnP hL hN hN1 hP) dX4_isTerm_29 kX4_28 rfl rfl rfl rfl rfl (mc_CR_of (Nat.le_of_ble_eq_true rfl) (Nat.le_of_ble_eq_true rfl) (Nat.le_refl _) (Nat.le_refl _)) (Nat.le_of_ble_eq_true rfl) (fun w1 hw1 => ?_)
      obtain ⟨u1, c1, hP1, hk1, rfl⟩ := hw1
      refine e_aloadn (pc := 32) dX4_isTerm_32 rfl ?_
      refine e_iloadn (pc := 33) dX4_isTerm_33 rfl ?_
      refine e_cvX (pc := 34) (sp_x_one2 hL hN hN1 hP1) dX4_isTerm_34 kX4_89 rfl rfl rfl rfl rfl (mc_CR_of (Nat.le_of_ble_eq_true rfl) (Nat.le_of_ble_eq_true rfl) (Nat.le_refl _) (Nat.le_refl _)) (Nat.le_of_ble_eq_true rfl) (fun w1 hw1 => ?_)
      obtain ⟨u2, c2, hP2, hk2, rfl⟩ := hw1
      refine e_if_ne (pc := 37) dX4_isTerm_37 (t := 42) (by decide) (fun c_37 => ?_) (fun c_37 => ?_)
      · skip
        refine e_aloadn (pc := 42) dX4_isTerm_42 rfl ?_
        refine e_bipush (v := -18) (pc := 43) dX4_isTerm_43 (by decide) ?_
        refine e_cvY (pc := 45) (sp_x_putP hP2) dX4_isTerm_45 kX4_76 rfl rfl rfl rfl rfl (mc_CR_of (Nat.le_of_ble_eq_true rfl) (Nat.le_of_ble_eq_true rfl) (Nat.le_refl _) (Nat.le_refl _)) (Nat.le_of_ble_eq_true rfl) (fun w1 hw1 => ?_)
        obtain ⟨u3, c3, hP3, hk3, rfl⟩ := hw1
        refine e_incC2 (pc := 48) dX4_isTerm_48 (nI_1 i) (Nat.le_of_ble_eq_true rfl) rfl ?_
        refine e_goto (pc := 51) dX4_isTerm_51 (t := 12) (by decide) ?_
        exact ih (i + 1) _ _ _ _ (by omega) (by rw [show (-18 : Int32) = xtk1 R from by rw [← ht, c_25]] at hP3; exact hP3) (((hkb.trans hk1).trans hk2).trans hk3) (by rw [← hV, if_pos (show xM18 (xtk1 R) = true by rw [← ht, c_25]; decide), if_pos (mc_b1.mp c_37)])
      · skip
        refine e_iconst (v := 0) (pc := 40) dX4_isTerm_40 (by decide) ?_
        exact e_zret (pc := 41) dX4_isTerm_41 rfl (by rfl) (Nat.le_refl _) (Nat.le_refl _) ⟨by rw [← hV, if_pos (show xM18 (xtk1 R) = true by rw [← ht, c_25]; decide), if_neg (show ¬ ((xlv (xT a) N 2).1 (ynx (xT a) N R.2.1) o).1 = true by rw [mc_b0.mp c_37]; decide)]; rfl, u2, c2, by rw [← hV, if_pos (show xM18 (xtk1 R) = true by rw [← ht, c_25]; decide), if_neg (show ¬ ((xlv (xT a) N 2).1 (ynx (xT a) N R.2.1) o).1 = true by rw [mc_b0.mp c_37]; decide)]; exact hP2, (hkb.trans hk1).trans hk2, rfl⟩
theorem sp_x_term2 {s u m n : Nat → Int32} {a c b d : Nat → List Int32} {q : List (Option Nat)} {h : Nat} {z : mc_W} (hL : xL a) {N : Nat} (hN : s 5 = nI N) (hN1 : N ≤ 160) {R : xR} {o : List Int32} (hP : xPS N R o u c) : mc_T yX4_isTerm cX4_isTerm 3 (some .boolean) 21 [.ref 6, .int 3] (WW s a q u c h m b n d z) (some (.int (mc_b (xterm (xT a) N (xlv (xT a) N 2).1 R o).1))) (fun w1 => ∃ u1 c1, xPS N (xterm (xT a) N (xlv (xT a) N 2).1 R o).2.1 (xterm (xT a) N (xlv (xT a) N 2).1 R o).2.2 u1 c1 ∧ xPK u u1 c c1 ∧ w1 = (WW s a q u1 c1 h m b n d z)) := by
  refine mc_start (own := RX4) (ini := false) rfl (by decide +kernel) (fun h => by cases h) (Nat.le_of_ble_eq_true rfl) ?_
  show mc_E _ _ _ _ _ [some (.ref 6), some (.int 3), none] [] _ _ _
  refine e_aloadn (pc := 0) dX4_isTerm_0 rfl ?_
  refine e_iloadn (pc := 1) dX4_isTerm_1 rfl ?_
  refine e_cvX (pc := 2) (sp_x_one2 hL hN hN1 hP) dX4_isTerm_2 kX4_89 rfl rfl rfl rfl rfl (mc_CR_of (Nat.le_of_ble_eq_true rfl) (Nat.le_of_ble_eq_true rfl) (Nat.le_refl _) (Nat.le_refl _)) (Nat.le_of_ble_eq_true rfl) (fun w1 hw1 => ?_)
  obtain ⟨u1, c1, hP1, hk1, rfl⟩ := hw1
  refine e_if_ne (pc := 5) dX4_isTerm_5 (t := 10) (by decide) (fun c_5 => ?_) (fun c_5 => ?_)
  · skip
    refine e_iconst (v := 0) (pc := 10) dX4_isTerm_10 (by decide) ?_
    refine e_isn2 (pc := 11) dX4_isTerm_11 (Nat.le_of_ble_eq_true rfl) rfl ?_
    have e : xterm (xT a) N (xlv (xT a) N 2).1 R o = xlp (xT a) N (xlv (xT a) N 2).1 xM18 160 ((xlv (xT a) N 2).1 R o).2.1 ((xlv (xT a) N 2).1 R o).2.2 := if_pos (mc_b1.mp c_5)
    rw [e]
    exact lp_x_term2 hL hN hN1 160 0 _ _ u1 c1 (by omega) hP1 hk1 rfl
  · skip
    refine e_iconst (v := 0) (pc := 8) dX4_isTerm_8 (by decide) ?_
    exact e_zret (pc := 9) dX4_isTerm_9 rfl (by rfl) (Nat.le_refl _) (Nat.le_refl _) (have e : xterm (xT a) N (xlv (xT a) N 2).1 R o = (false, ((xlv (xT a) N 2).1 R o).2) := if_neg (show ¬ ((xlv (xT a) N 2).1 R o).1 = true by rw [mc_b0.mp c_5]; decide); ⟨by rw [e]; rfl, u1, c1, by rw [e]; dsimp only; exact hP1, hk1, rfl⟩)
theorem lp_x_sum2 {s m n : Nat → Int32} {a b d : Nat → List Int32} {q : List (Option Nat)} {h : Nat} {z : mc_W} (hL : xL a) {N : Nat} (hN : s 5 = nI N) (hN1 : N ≤ 160) {ub : Nat → Int32} {cb : Nat → List Int32} {V : Bool × xR × List Int32} :
    ∀ (f i : Nat) (R : xR) (o : List Int32) (u : Nat → Int32) (c : Nat → List Int32) (x3 : Option Value), i + f = 160 → xPS N R o u c → xPK ub u cb c → xlp (xT a) N (xterm (xT a) N (xlv (xT a) N 2).1) xM16 f R o = V →
      mc_E RX4 cX4_isSum 4 (mc_JM (some .boolean) false 22 0 0 (fun r' w' => r' = some (.int (mc_b V.1)) ∧ ∃ u1 c1, xPS N V.2.1 V.2.2 u1 c1 ∧ xPK ub u1 cb c1 ∧ w' = (WW s a q u1 c1 h m b n d z))) 12 [some (.ref 6), some (.int 3), some (.int (nI i)), x3] [] (WW s a q u c h m b n d z) 0 0 := by
  intro f
  induction f with
  | zero =>
    intro i R o u c x3 hi hP hkb hV
    have e : i = 160 := by omega
    subst e
    simp only [xlp] at hV
    subst hV
    refine e_iloadn (pc := 12) dX4_isSum_12 rfl ?_
    refine e_sipush (v := 160) (pc := 13) dX4_isSum_13 (by decide) ?_
    refine e_icmp_ge (pc := 16) dX4_isSum_16 (t := 67) (by decide) (fun _ => ?_) (fun c_16 => absurd (by decide) c_16)
    refine e_iconst (v := 1) (pc := 67) dX4_isSum_67 (by decide) ?_
    exact e_zret (pc := 68) dX4_isSum_68 rfl (by rfl) (Nat.le_refl _) (Nat.le_refl _) ⟨rfl, u, c, hP, hkb, rfl⟩
  | succ f ih =>
    intro i R o u c x3 hi hP hkb hV
    simp only [xlp] at hV
    have hi1 : i < 160 := by omega
    have ht := hP.2.2.1
    refine e_iloadn (pc := 12) dX4_isSum_12 rfl ?_
    refine e_sipush (v := 160) (pc := 13) dX4_isSum_13 (by decide) ?_
    refine e_icmp_ge (pc := 16) dX4_isSum_16 (t := 67) (by decide) (fun c_16 => absurd c_16 (nI_ge hi1 (by decide))) (fun _ => ?_)
    refine e_aloadn (pc := 19) dX4_isSum_19 rfl ?_
    refine e_get (pc := 20) dX4_isSum_20 fX4_41 rfl rfl ?_
    refine e_bipush (v := -16) (pc := 23) dX4_isSum_23 (by decide) ?_
    refine e_icmp_eq (pc := 25) dX4_isSum_25 (t := 37) (by decide) (fun c_25 => ?_) (fun c_25 => ?_)
    · skip
      refine e_aloadn (pc := 37) dX4_isSum_37 rfl ?_
      refine e_get (pc := 38) dX4_isSum_38 fX4_41 rfl rfl ?_
      refine e_isn3 (pc := 41) dX4_isSum_41 (Nat.le_of_ble_eq_true rfl) rfl ?_
      refine e_aloadn (pc := 42) dX4_isSum_42 rfl ?_
      refine e_cvY (pc := 43) (sp_x_goOnP hL hN hN1 hP) dX4_isSum_43 kX4_28 rfl rfl rfl rfl rfl (mc_CR_of (Nat.le_of_ble_eq_true rfl) (Nat.le_of_ble_eq_true rfl) (Nat.le_refl _) (Nat.le_refl _)) (Nat.le_of_ble_eq_true rfl) (fun w1 hw1 => ?_)
      obtain ⟨u1, c1, hP1, hk1, rfl⟩ := hw1
      refine e_aloadn (pc := 46) dX4_isSum_46 rfl ?_
      refine e_iloadn (pc := 47) dX4_isSum_47 rfl ?_
      refine e_cvX (pc := 48) (sp_x_term2 hL hN hN1 hP1) dX4_isSum_48 kX4_86 rfl rfl rfl rfl rfl (mc_CR_of (Nat.le_of_ble_eq_true rfl) (Nat.le_of_ble_eq_true rfl) (Nat.le_refl _) (Nat.le_refl _)) (Nat.le_of_ble_eq_true rfl) (fun w1 hw1 => ?_)
      obtain ⟨u2, c2, hP2, hk2, rfl⟩ := hw1
      refine e_if_ne (pc := 51) dX4_isSum_51 (t := 56) (by decide) (fun c_51 => ?_) (fun c_51 => ?_)
      · skip
        refine e_aloadn (pc := 56) dX4_isSum_56 rfl ?_
        refine e_iloadn (pc := 57) dX4_isSum_57 rfl ?_
        refine e_cvY (pc := 58) (sp_x_putP hP2) dX4_isSum_58 kX4_76 rfl rfl rfl rfl rfl (mc_CR_of (Nat.le_of_ble_eq_true rfl) (Nat.le_of_ble_eq_true rfl) (Nat.le_refl _) (Nat.le_refl _)) (Nat.le_of_ble_eq_true rfl) (fun w1 hw1 => ?_)
        obtain ⟨u3, c3, hP3, hk3, rfl⟩ := hw1
        refine e_incC2 (pc := 61) dX4_isSum_61 (nI_1 i) (Nat.le_of_ble_eq_true rfl) rfl ?_
        refine e_goto (pc := 64) dX4_isSum_64 (t := 12) (by decide) ?_
        exact ih (i + 1) _ _ _ _ _ (by omega) (by rw [show u 2 = xtk1 R from ht] at hP3; exact hP3) (((hkb.trans hk1).trans hk2).trans hk3) (by rw [← hV, if_pos (show xM16 (xtk1 R) = true by rw [← ht, c_25]; decide), if_pos (mc_b1.mp c_51)])
      · skip
        refine e_iconst (v := 0) (pc := 54) dX4_isSum_54 (by decide) ?_
        exact e_zret (pc := 55) dX4_isSum_55 rfl (by rfl) (Nat.le_refl _) (Nat.le_refl _) ⟨by rw [← hV, if_pos (show xM16 (xtk1 R) = true by rw [← ht, c_25]; decide), if_neg (show ¬ ((xterm (xT a) N (xlv (xT a) N 2).1) (ynx (xT a) N R.2.1) o).1 = true by rw [mc_b0.mp c_51]; decide)]; rfl, u2, c2, by rw [← hV, if_pos (show xM16 (xtk1 R) = true by rw [← ht, c_25]; decide), if_neg (show ¬ ((xterm (xT a) N (xlv (xT a) N 2).1) (ynx (xT a) N R.2.1) o).1 = true by rw [mc_b0.mp c_51]; decide)]; exact hP2, (hkb.trans hk1).trans hk2, rfl⟩
    · skip
      refine e_aloadn (pc := 28) dX4_isSum_28 rfl ?_
      refine e_get (pc := 29) dX4_isSum_29 fX4_41 rfl rfl ?_
      refine e_bipush (v := -17) (pc := 32) dX4_isSum_32 (by decide) ?_
      refine e_icmp_ne (pc := 34) dX4_isSum_34 (t := 67) (by decide) (fun c_34 => ?_) (fun c_34 => ?_)
      · skip
        refine e_iconst (v := 1) (pc := 67) dX4_isSum_67 (by decide) ?_
        exact e_zret (pc := 68) dX4_isSum_68 rfl (by rfl) (Nat.le_refl _) (Nat.le_refl _) ⟨by rw [← hV, if_neg (show ¬ xM16 (xtk1 R) = true by rw [← ht]; unfold xM16; simp [c_25, c_34])]; rfl, u, c, by rw [← hV, if_neg (show ¬ xM16 (xtk1 R) = true by rw [← ht]; unfold xM16; simp [c_25, c_34])]; exact hP, hkb, rfl⟩
      · skip
        refine e_aloadn (pc := 37) dX4_isSum_37 rfl ?_
        refine e_get (pc := 38) dX4_isSum_38 fX4_41 rfl rfl ?_
        refine e_isn3 (pc := 41) dX4_isSum_41 (Nat.le_of_ble_eq_true rfl) rfl ?_
        refine e_aloadn (pc := 42) dX4_isSum_42 rfl ?_
        refine e_cvY (pc := 43) (sp_x_goOnP hL hN hN1 hP) dX4_isSum_43 kX4_28 rfl rfl rfl rfl rfl (mc_CR_of (Nat.le_of_ble_eq_true rfl) (Nat.le_of_ble_eq_true rfl) (Nat.le_refl _) (Nat.le_refl _)) (Nat.le_of_ble_eq_true rfl) (fun w1 hw1 => ?_)
        obtain ⟨u1, c1, hP1, hk1, rfl⟩ := hw1
        refine e_aloadn (pc := 46) dX4_isSum_46 rfl ?_
        refine e_iloadn (pc := 47) dX4_isSum_47 rfl ?_
        refine e_cvX (pc := 48) (sp_x_term2 hL hN hN1 hP1) dX4_isSum_48 kX4_86 rfl rfl rfl rfl rfl (mc_CR_of (Nat.le_of_ble_eq_true rfl) (Nat.le_of_ble_eq_true rfl) (Nat.le_refl _) (Nat.le_refl _)) (Nat.le_of_ble_eq_true rfl) (fun w1 hw1 => ?_)
        obtain ⟨u2, c2, hP2, hk2, rfl⟩ := hw1
        refine e_if_ne (pc := 51) dX4_isSum_51 (t := 56) (by decide) (fun c_51 => ?_) (fun c_51 => ?_)
        · skip
          refine e_aloadn (pc := 56) dX4_isSum_56 rfl ?_
          refine e_iloadn (pc := 57) dX4_isSum_57 rfl ?_
          refine e_cvY (pc := 58) (sp_x_putP hP2) dX4_isSum_58 kX4_76 rfl rfl rfl rfl rfl (mc_CR_of (Nat.le_of_ble_eq_true rfl) (Nat.le_of_ble_eq_true rfl) (Nat.le_refl _) (Nat.le_refl _)) (Nat.le_of_ble_eq_true rfl) (fun w1 hw1 => ?_)
          obtain ⟨u3, c3, hP3, hk3, rfl⟩ := hw1
          refine e_incC2 (pc := 61) dX4_isSum_61 (nI_1 i) (Nat.le_of_ble_eq_true rfl) rfl ?_
          refine e_goto (pc := 64) dX4_isSum_64 (t := 12) (by decide) ?_
          exact ih (i + 1) _ _ _ _ _ (by omega) (by rw [show u 2 = xtk1 R from ht] at hP3; exact hP3) (((hkb.trans hk1).trans hk2).trans hk3) (by rw [← hV, if_pos (show xM16 (xtk1 R) = true by rw [← ht, c_34]; decide), if_pos (mc_b1.mp c_51)])
        · skip
          refine e_iconst (v := 0) (pc := 54) dX4_isSum_54 (by decide) ?_
          exact e_zret (pc := 55) dX4_isSum_55 rfl (by rfl) (Nat.le_refl _) (Nat.le_refl _) ⟨by rw [← hV, if_pos (show xM16 (xtk1 R) = true by rw [← ht, c_34]; decide), if_neg (show ¬ ((xterm (xT a) N (xlv (xT a) N 2).1) (ynx (xT a) N R.2.1) o).1 = true by rw [mc_b0.mp c_51]; decide)]; rfl, u2, c2, by rw [← hV, if_pos (show xM16 (xtk1 R) = true by rw [← ht, c_34]; decide), if_neg (show ¬ ((xterm (xT a) N (xlv (xT a) N 2).1) (ynx (xT a) N R.2.1) o).1 = true by rw [mc_b0.mp c_51]; decide)]; exact hP2, (hkb.trans hk1).trans hk2, rfl⟩
theorem sp_x_sum2 {s u m n : Nat → Int32} {a c b d : Nat → List Int32} {q : List (Option Nat)} {h : Nat} {z : mc_W} (hL : xL a) {N : Nat} (hN : s 5 = nI N) (hN1 : N ≤ 160) {R : xR} {o : List Int32} (hP : xPS N R o u c) : mc_T yX4_isSum cX4_isSum 4 (some .boolean) 22 [.ref 6, .int 3] (WW s a q u c h m b n d z) (some (.int (mc_b (xsum (xT a) N (xlv (xT a) N 2).1 R o).1))) (fun w1 => ∃ u1 c1, xPS N (xsum (xT a) N (xlv (xT a) N 2).1 R o).2.1 (xsum (xT a) N (xlv (xT a) N 2).1 R o).2.2 u1 c1 ∧ xPK u u1 c c1 ∧ w1 = (WW s a q u1 c1 h m b n d z)) := by
  refine mc_start (own := RX4) (ini := false) rfl (by decide +kernel) (fun h => by cases h) (Nat.le_of_ble_eq_true rfl) ?_
  show mc_E _ _ _ _ _ [some (.ref 6), some (.int 3), none, none] [] _ _ _
  refine e_aloadn (pc := 0) dX4_isSum_0 rfl ?_
  refine e_iloadn (pc := 1) dX4_isSum_1 rfl ?_
  refine e_cvX (pc := 2) (sp_x_term2 hL hN hN1 hP) dX4_isSum_2 kX4_86 rfl rfl rfl rfl rfl (mc_CR_of (Nat.le_of_ble_eq_true rfl) (Nat.le_of_ble_eq_true rfl) (Nat.le_refl _) (Nat.le_refl _)) (Nat.le_of_ble_eq_true rfl) (fun w1 hw1 => ?_)
  obtain ⟨u1, c1, hP1, hk1, rfl⟩ := hw1
  refine e_if_ne (pc := 5) dX4_isSum_5 (t := 10) (by decide) (fun c_5 => ?_) (fun c_5 => ?_)
  · skip
    refine e_iconst (v := 0) (pc := 10) dX4_isSum_10 (by decide) ?_
    refine e_isn2 (pc := 11) dX4_isSum_11 (Nat.le_of_ble_eq_true rfl) rfl ?_
    have e : xsum (xT a) N (xlv (xT a) N 2).1 R o = xlp (xT a) N (xterm (xT a) N (xlv (xT a) N 2).1) xM16 160 ((xterm (xT a) N (xlv (xT a) N 2).1) R o).2.1 ((xterm (xT a) N (xlv (xT a) N 2).1) R o).2.2 := if_pos (mc_b1.mp c_5)
    rw [e]
    exact lp_x_sum2 hL hN hN1 160 0 _ _ u1 c1 _ (by omega) hP1 hk1 rfl
  · skip
    refine e_iconst (v := 0) (pc := 8) dX4_isSum_8 (by decide) ?_
    exact e_zret (pc := 9) dX4_isSum_9 rfl (by rfl) (Nat.le_refl _) (Nat.le_refl _) (have e : xsum (xT a) N (xlv (xT a) N 2).1 R o = (false, ((xterm (xT a) N (xlv (xT a) N 2).1) R o).2) := if_neg (show ¬ ((xterm (xT a) N (xlv (xT a) N 2).1) R o).1 = true by rw [mc_b0.mp c_5]; decide); ⟨by rw [e]; rfl, u1, c1, by rw [e]; dsimp only; exact hP1, hk1, rfl⟩)
theorem sp_x_not2 {s u m n : Nat → Int32} {a c b d : Nat → List Int32} {q : List (Option Nat)} {h : Nat} {z : mc_W} (hL : xL a) {N : Nat} (hN : s 5 = nI N) (hN1 : N ≤ 160) {R : xR} {o : List Int32} (hP : xPS N R o u c) : mc_T yX4_isNot cX4_isNot 3 (some .boolean) 23 [.ref 6, .int 3] (WW s a q u c h m b n d z) (some (.int (mc_b ((xlv (xT a) N 2).2 R o).1))) (fun w1 => ∃ u1 c1, xPS N ((xlv (xT a) N 2).2 R o).2.1 ((xlv (xT a) N 2).2 R o).2.2 u1 c1 ∧ xPK u u1 c c1 ∧ w1 = (WW s a q u1 c1 h m b n d z)) := by
  refine mc_start (own := RX4) (ini := false) rfl (by decide +kernel) (fun h => by cases h) (Nat.le_of_ble_eq_true rfl) ?_
  show mc_E _ _ _ _ _ [some (.ref 6), some (.int 3), none] [] _ _ _
  have ht := hP.2.2.1
  refine e_aloadn (pc := 0) dX4_isNot_0 rfl ?_
  refine e_get (pc := 1) dX4_isNot_1 fX4_41 rfl rfl ?_
  refine e_bipush (v := -13) (pc := 4) dX4_isNot_4 (by decide) ?_
  refine e_icmp_ne (pc := 6) dX4_isNot_6 (t := 40) (by decide) (fun c_6 => ?_) (fun c_6 => ?_)
  · skip
    refine e_aloadn (pc := 40) dX4_isNot_40 rfl ?_
    refine e_iloadn (pc := 41) dX4_isNot_41 rfl ?_
    refine e_cvX (pc := 42) (sp_x_sum2 hL hN hN1 hP) dX4_isNot_42 kX4_83 rfl rfl rfl rfl rfl (mc_CR_of (Nat.le_of_ble_eq_true rfl) (Nat.le_of_ble_eq_true rfl) (Nat.le_refl _) (Nat.le_refl _)) (Nat.le_of_ble_eq_true rfl) (fun w1 hw1 => ?_)
    obtain ⟨u1, c1, hP1, hk1, rfl⟩ := hw1
    refine e_if_ne (pc := 45) dX4_isNot_45 (t := 50) (by decide) (fun c_45 => ?_) (fun c_45 => ?_)
    · skip
      refine e_aloadn (pc := 50) dX4_isNot_50 rfl ?_
      refine e_get (pc := 51) dX4_isNot_51 fX4_41 rfl rfl ?_
      refine e_isn2 (pc := 54) dX4_isNot_54 (Nat.le_of_ble_eq_true rfl) rfl ?_
      refine e_iloadn (pc := 55) dX4_isNot_55 rfl ?_
      refine e_bipush (v := -14) (pc := 56) dX4_isNot_56 (by decide) ?_
      refine e_icmp_eq (pc := 58) dX4_isNot_58 (t := 67) (by decide) (fun c_58 => ?_) (fun c_58 => ?_)
      · skip
        refine e_aloadn (pc := 67) dX4_isNot_67 rfl ?_
        refine e_cvY (pc := 68) (sp_x_goOnP hL hN hN1 hP1) dX4_isNot_68 kX4_28 rfl rfl rfl rfl rfl (mc_CR_of (Nat.le_of_ble_eq_true rfl) (Nat.le_of_ble_eq_true rfl) (Nat.le_refl _) (Nat.le_refl _)) (Nat.le_of_ble_eq_true rfl) (fun w1 hw1 => ?_)
        obtain ⟨u2, c2, hP2, hk2, rfl⟩ := hw1
        refine e_aloadn (pc := 71) dX4_isNot_71 rfl ?_
        refine e_iloadn (pc := 72) dX4_isNot_72 rfl ?_
        refine e_cvX (pc := 73) (sp_x_sum2 hL hN hN1 hP2) dX4_isNot_73 kX4_83 rfl rfl rfl rfl rfl (mc_CR_of (Nat.le_of_ble_eq_true rfl) (Nat.le_of_ble_eq_true rfl) (Nat.le_refl _) (Nat.le_refl _)) (Nat.le_of_ble_eq_true rfl) (fun w1 hw1 => ?_)
        obtain ⟨u3, c3, hP3, hk3, rfl⟩ := hw1
        refine e_if_ne (pc := 76) dX4_isNot_76 (t := 81) (by decide) (fun c_76 => ?_) (fun c_76 => ?_)
        · skip
          refine e_aloadn (pc := 81) dX4_isNot_81 rfl ?_
          refine e_iloadn (pc := 82) dX4_isNot_82 rfl ?_
          refine e_cvY (pc := 83) (sp_x_putP hP3) dX4_isNot_83 kX4_76 rfl rfl rfl rfl rfl (mc_CR_of (Nat.le_of_ble_eq_true rfl) (Nat.le_of_ble_eq_true rfl) (Nat.le_refl _) (Nat.le_refl _)) (Nat.le_of_ble_eq_true rfl) (fun w1 hw1 => ?_)
          obtain ⟨u4, c4, hP4, hk4, rfl⟩ := hw1
          refine e_iconst (v := 1) (pc := 86) dX4_isNot_86 (by decide) ?_
          exact e_zret (pc := 87) dX4_isNot_87 rfl (by rfl) (Nat.le_refl _) (Nat.le_refl _) (have e : (xlv (xT a) N 2).2 R o = (true, (xsum (xT a) N (xlv (xT a) N 2).1 (ynx (xT a) N (xsum (xT a) N (xlv (xT a) N 2).1 R o).2.1.2.1) (xsum (xT a) N (xlv (xT a) N 2).1 R o).2.2).2.1, xput (xsum (xT a) N (xlv (xT a) N 2).1 (ynx (xT a) N (xsum (xT a) N (xlv (xT a) N 2).1 R o).2.1.2.1) (xsum (xT a) N (xlv (xT a) N 2).1 R o).2.2).2.2 (xtk1 (xsum (xT a) N (xlv (xT a) N 2).1 R o).2.1)) := (by rw [xlv_nS]; simp only [xnot]; rw [if_neg (show ¬ xtk1 R = -13 by rw [← ht]; exact c_6), if_pos (mc_b1.mp c_45), if_pos (show xM14 (xtk1 (xsum (xT a) N (xlv (xT a) N 2).1 R o).2.1) = true by rw [← hP1.2.2.1, c_58]; decide), if_pos (mc_b1.mp c_76)]); ⟨by rw [e]; rfl, u4, c4, (hP1.2.2.1 ▸ hP4 : xPS N (xsum (xT a) N (xlv (xT a) N 2).1 (ynx (xT a) N (xsum (xT a) N (xlv (xT a) N 2).1 R o).2.1.2.1) (xsum (xT a) N (xlv (xT a) N 2).1 R o).2.2).2.1 (xput (xsum (xT a) N (xlv (xT a) N 2).1 (ynx (xT a) N (xsum (xT a) N (xlv (xT a) N 2).1 R o).2.1.2.1) (xsum (xT a) N (xlv (xT a) N 2).1 R o).2.2).2.2 (xtk1 (xsum (xT a) N (xlv (xT a) N 2).1 R o).2.1)) u4 c4) |> (fun t => by rw [e]; dsimp only; exact t), ((hk1.trans hk2).trans hk3).trans hk4, rfl⟩)
        · skip
          refine e_iconst (v := 0) (pc := 79) dX4_isNot_79 (by decide) ?_
          exact e_zret (pc := 80) dX4_isNot_80 rfl (by rfl) (Nat.le_refl _) (Nat.le_refl _) (have e : (xlv (xT a) N 2).2 R o = (false, (xsum (xT a) N (xlv (xT a) N 2).1 (ynx (xT a) N (xsum (xT a) N (xlv (xT a) N 2).1 R o).2.1.2.1) (xsum (xT a) N (xlv (xT a) N 2).1 R o).2.2).2) := (by rw [xlv_nS]; simp only [xnot]; rw [if_neg (show ¬ xtk1 R = -13 by rw [← ht]; exact c_6), if_pos (mc_b1.mp c_45), if_pos (show xM14 (xtk1 (xsum (xT a) N (xlv (xT a) N 2).1 R o).2.1) = true by rw [← hP1.2.2.1, c_58]; decide), if_neg (show ¬ (xsum (xT a) N (xlv (xT a) N 2).1 (ynx (xT a) N (xsum (xT a) N (xlv (xT a) N 2).1 R o).2.1.2.1) (xsum (xT a) N (xlv (xT a) N 2).1 R o).2.2).1 = true by rw [mc_b0.mp c_76]; decide)]); ⟨by rw [e]; rfl, u3, c3, by rw [e]; dsimp only; exact hP3, (hk1.trans hk2).trans hk3, rfl⟩)
      · skip
        refine e_iloadn (pc := 61) dX4_isNot_61 rfl ?_
        refine e_bipush (v := -15) (pc := 62) dX4_isNot_62 (by decide) ?_
        refine e_icmp_ne (pc := 64) dX4_isNot_64 (t := 86) (by decide) (fun c_64 => ?_) (fun c_64 => ?_)
        · skip
          refine e_iconst (v := 1) (pc := 86) dX4_isNot_86 (by decide) ?_
          exact e_zret (pc := 87) dX4_isNot_87 rfl (by rfl) (Nat.le_refl _) (Nat.le_refl _) (have e : (xlv (xT a) N 2).2 R o = (true, (xsum (xT a) N (xlv (xT a) N 2).1 R o).2) := (by rw [xlv_nS]; simp only [xnot]; rw [if_neg (show ¬ xtk1 R = -13 by rw [← ht]; exact c_6), if_pos (mc_b1.mp c_45), if_neg (show ¬ xM14 (xtk1 (xsum (xT a) N (xlv (xT a) N 2).1 R o).2.1) = true by rw [← hP1.2.2.1]; unfold xM14; simp [c_58, c_64])]); ⟨by rw [e]; rfl, u1, c1, by rw [e]; dsimp only; exact hP1, hk1, rfl⟩)
        · skip
          refine e_aloadn (pc := 67) dX4_isNot_67 rfl ?_
          refine e_cvY (pc := 68) (sp_x_goOnP hL hN hN1 hP1) dX4_isNot_68 kX4_28 rfl rfl rfl rfl rfl (mc_CR_of (Nat.le_of_ble_eq_true rfl) (Nat.le_of_ble_eq_true rfl) (Nat.le_refl _) (Nat.le_refl _)) (Nat.le_of_ble_eq_true rfl) (fun w1 hw1 => ?_)
          obtain ⟨u2, c2, hP2, hk2, rfl⟩ := hw1
          refine e_aloadn (pc := 71) dX4_isNot_71 rfl ?_
          refine e_iloadn (pc := 72) dX4_isNot_72 rfl ?_
          refine e_cvX (pc := 73) (sp_x_sum2 hL hN hN1 hP2) dX4_isNot_73 kX4_83 rfl rfl rfl rfl rfl (mc_CR_of (Nat.le_of_ble_eq_true rfl) (Nat.le_of_ble_eq_true rfl) (Nat.le_refl _) (Nat.le_refl _)) (Nat.le_of_ble_eq_true rfl) (fun w1 hw1 => ?_)
          obtain ⟨u3, c3, hP3, hk3, rfl⟩ := hw1
          refine e_if_ne (pc := 76) dX4_isNot_76 (t := 81) (by decide) (fun c_76 => ?_) (fun c_76 => ?_)
          · skip
            refine e_aloadn (pc := 81) dX4_isNot_81 rfl ?_
            refine e_iloadn (pc := 82) dX4_isNot_82 rfl ?_
            refine e_cvY (pc := 83) (sp_x_putP hP3) dX4_isNot_83 kX4_76 rfl rfl rfl rfl rfl (mc_CR_of (Nat.le_of_ble_eq_true rfl) (Nat.le_of_ble_eq_true rfl) (Nat.le_refl _) (Nat.le_refl _)) (Nat.le_of_ble_eq_true rfl) (fun w1 hw1 => ?_)
            obtain ⟨u4, c4, hP4, hk4, rfl⟩ := hw1
            refine e_iconst (v := 1) (pc := 86) dX4_isNot_86 (by decide) ?_
            exact e_zret (pc := 87) dX4_isNot_87 rfl (by rfl) (Nat.le_refl _) (Nat.le_refl _) (have e : (xlv (xT a) N 2).2 R o = (true, (xsum (xT a) N (xlv (xT a) N 2).1 (ynx (xT a) N (xsum (xT a) N (xlv (xT a) N 2).1 R o).2.1.2.1) (xsum (xT a) N (xlv (xT a) N 2).1 R o).2.2).2.1, xput (xsum (xT a) N (xlv (xT a) N 2).1 (ynx (xT a) N (xsum (xT a) N (xlv (xT a) N 2).1 R o).2.1.2.1) (xsum (xT a) N (xlv (xT a) N 2).1 R o).2.2).2.2 (xtk1 (xsum (xT a) N (xlv (xT a) N 2).1 R o).2.1)) := (by rw [xlv_nS]; simp only [xnot]; rw [if_neg (show ¬ xtk1 R = -13 by rw [← ht]; exact c_6), if_pos (mc_b1.mp c_45), if_pos (show xM14 (xtk1 (xsum (xT a) N (xlv (xT a) N 2).1 R o).2.1) = true by rw [← hP1.2.2.1, c_64]; decide), if_pos (mc_b1.mp c_76)]); ⟨by rw [e]; rfl, u4, c4, (hP1.2.2.1 ▸ hP4 : xPS N (xsum (xT a) N (xlv (xT a) N 2).1 (ynx (xT a) N (xsum (xT a) N (xlv (xT a) N 2).1 R o).2.1.2.1) (xsum (xT a) N (xlv (xT a) N 2).1 R o).2.2).2.1 (xput (xsum (xT a) N (xlv (xT a) N 2).1 (ynx (xT a) N (xsum (xT a) N (xlv (xT a) N 2).1 R o).2.1.2.1) (xsum (xT a) N (xlv (xT a) N 2).1 R o).2.2).2.2 (xtk1 (xsum (xT a) N (xlv (xT a) N 2).1 R o).2.1)) u4 c4) |> (fun t => by rw [e]; dsimp only; exact t), ((hk1.trans hk2).trans hk3).trans hk4, rfl⟩)
          · skip
            refine e_iconst (v := 0) (pc := 79) dX4_isNot_79 (by decide) ?_
            exact e_zret (pc := 80) dX4_isNot_80 rfl (by rfl) (Nat.le_refl _) (Nat.le_refl _) (have e : (xlv (xT a) N 2).2 R o = (false, (xsum (xT a) N (xlv (xT a) N 2).1 (ynx (xT a) N (xsum (xT a) N (xlv (xT a) N 2).1 R o).2.1.2.1) (xsum (xT a) N (xlv (xT a) N 2).1 R o).2.2).2) := (by rw [xlv_nS]; simp only [xnot]; rw [if_neg (show ¬ xtk1 R = -13 by rw [← ht]; exact c_6), if_pos (mc_b1.mp c_45), if_pos (show xM14 (xtk1 (xsum (xT a) N (xlv (xT a) N 2).1 R o).2.1) = true by rw [← hP1.2.2.1, c_64]; decide), if_neg (show ¬ (xsum (xT a) N (xlv (xT a) N 2).1 (ynx (xT a) N (xsum (xT a) N (xlv (xT a) N 2).1 R o).2.1.2.1) (xsum (xT a) N (xlv (xT a) N 2).1 R o).2.2).1 = true by rw [mc_b0.mp c_76]; decide)]); ⟨by rw [e]; rfl, u3, c3, by rw [e]; dsimp only; exact hP3, (hk1.trans hk2).trans hk3, rfl⟩)
    · skip
      refine e_iconst (v := 0) (pc := 48) dX4_isNot_48 (by decide) ?_
      exact e_zret (pc := 49) dX4_isNot_49 rfl (by rfl) (Nat.le_refl _) (Nat.le_refl _) (have e : (xlv (xT a) N 2).2 R o = (false, (xsum (xT a) N (xlv (xT a) N 2).1 R o).2) := (by rw [xlv_nS]; simp only [xnot]; rw [if_neg (show ¬ xtk1 R = -13 by rw [← ht]; exact c_6), if_neg (show ¬ (xsum (xT a) N (xlv (xT a) N 2).1 R o).1 = true by rw [mc_b0.mp c_45]; decide)]); ⟨by rw [e]; rfl, u1, c1, by rw [e]; dsimp only; exact hP1, hk1, rfl⟩)
  · skip
    refine e_iloadn (pc := 9) dX4_isNot_9 rfl ?_
    refine e_iconst (v := 5) (pc := 10) dX4_isNot_10 (by decide) ?_
    refine e_icmp_lt (pc := 11) dX4_isNot_11 (t := 16) (by decide) (fun _ => ?_) (fun c_11 => absurd (by decide) c_11)
    refine e_aloadn (pc := 16) dX4_isNot_16 rfl ?_
    refine e_cvY (pc := 17) (sp_x_goOnP hL hN hN1 hP) dX4_isNot_17 kX4_28 rfl rfl rfl rfl rfl (mc_CR_of (Nat.le_of_ble_eq_true rfl) (Nat.le_of_ble_eq_true rfl) (Nat.le_refl _) (Nat.le_refl _)) (Nat.le_of_ble_eq_true rfl) (fun w1 hw1 => ?_)
    obtain ⟨u1, c1, hP1, hk1, rfl⟩ := hw1
    refine e_aloadn (pc := 20) dX4_isNot_20 rfl ?_
    refine e_iloadn (pc := 21) dX4_isNot_21 rfl ?_
    refine e_iconst (v := 1) (pc := 22) dX4_isNot_22 (by decide) ?_
    refine e_iadd (pc := 23) dX4_isNot_23 ?_
    refine e_top (y := 4) (by decide) ?_
    refine e_cvX (pc := 24) (sp_x_not1 hL hN hN1 hP1) dX4_isNot_24 kX4_80 rfl rfl rfl rfl rfl (mc_CR_of (Nat.le_of_ble_eq_true rfl) (Nat.le_of_ble_eq_true rfl) (Nat.le_refl _) (Nat.le_refl _)) (Nat.le_of_ble_eq_true rfl) (fun w1 hw1 => ?_)
    obtain ⟨u2, c2, hP2, hk2, rfl⟩ := hw1
    refine e_if_ne (pc := 27) dX4_isNot_27 (t := 32) (by decide) (fun c_27 => ?_) (fun c_27 => ?_)
    · skip
      refine e_aloadn (pc := 32) dX4_isNot_32 rfl ?_
      refine e_bipush (v := -13) (pc := 33) dX4_isNot_33 (by decide) ?_
      refine e_cvY (pc := 35) (sp_x_putP hP2) dX4_isNot_35 kX4_76 rfl rfl rfl rfl rfl (mc_CR_of (Nat.le_of_ble_eq_true rfl) (Nat.le_of_ble_eq_true rfl) (Nat.le_refl _) (Nat.le_refl _)) (Nat.le_of_ble_eq_true rfl) (fun w1 hw1 => ?_)
      obtain ⟨u3, c3, hP3, hk3, rfl⟩ := hw1
      refine e_iconst (v := 1) (pc := 38) dX4_isNot_38 (by decide) ?_
      exact e_zret (pc := 39) dX4_isNot_39 rfl (by rfl) (Nat.le_refl _) (Nat.le_refl _) (have e : (xlv (xT a) N 2).2 R o = (true, ((xlv (xT a) N 1).2 (ynx (xT a) N R.2.1) o).2.1, xput ((xlv (xT a) N 1).2 (ynx (xT a) N R.2.1) o).2.2 (-13)) := (by rw [xlv_nS]; simp only [xnot]; rw [if_pos (show xtk1 R = -13 by rw [← ht]; exact c_6), if_pos (mc_b1.mp c_27)]); ⟨by rw [e]; rfl, u3, c3, by rw [e]; dsimp only; exact hP3, (hk1.trans hk2).trans hk3, rfl⟩)
    · skip
      refine e_iconst (v := 0) (pc := 30) dX4_isNot_30 (by decide) ?_
      exact e_zret (pc := 31) dX4_isNot_31 rfl (by rfl) (Nat.le_refl _) (Nat.le_refl _) (have e : (xlv (xT a) N 2).2 R o = (false, ((xlv (xT a) N 1).2 (ynx (xT a) N R.2.1) o).2) := (by rw [xlv_nS]; simp only [xnot]; rw [if_pos (show xtk1 R = -13 by rw [← ht]; exact c_6), if_neg (show ¬ ((xlv (xT a) N 1).2 (ynx (xT a) N R.2.1) o).1 = true by rw [mc_b0.mp c_27]; decide)]); ⟨by rw [e]; rfl, u2, c2, by rw [e]; dsimp only; exact hP2, hk1.trans hk2, rfl⟩)
theorem lp_x_and2 {s m n : Nat → Int32} {a b d : Nat → List Int32} {q : List (Option Nat)} {h : Nat} {z : mc_W} (hL : xL a) {N : Nat} (hN : s 5 = nI N) (hN1 : N ≤ 160) {ub : Nat → Int32} {cb : Nat → List Int32} {V : Bool × xR × List Int32} :
    ∀ (f i : Nat) (R : xR) (o : List Int32) (u : Nat → Int32) (c : Nat → List Int32), i + f = 160 → xPS N R o u c → xPK ub u cb c → xlp (xT a) N (xlv (xT a) N 2).2 xM12 f R o = V →
      mc_E RX4 cX4_isAnd 3 (mc_JM (some .boolean) false 24 0 0 (fun r' w' => r' = some (.int (mc_b V.1)) ∧ ∃ u1 c1, xPS N V.2.1 V.2.2 u1 c1 ∧ xPK ub u1 cb c1 ∧ w' = (WW s a q u1 c1 h m b n d z))) 12 [some (.ref 6), some (.int 3), some (.int (nI i))] [] (WW s a q u c h m b n d z) 0 0 := by
  intro f
  induction f with
  | zero =>
    intro i R o u c hi hP hkb hV
    have e : i = 160 := by omega
    subst e
    simp only [xlp] at hV
    subst hV
    refine e_iloadn (pc := 12) dX4_isAnd_12 rfl ?_
    refine e_sipush (v := 160) (pc := 13) dX4_isAnd_13 (by decide) ?_
    refine e_icmp_ge (pc := 16) dX4_isAnd_16 (t := 54) (by decide) (fun _ => ?_) (fun c_16 => absurd (by decide) c_16)
    refine e_iconst (v := 1) (pc := 54) dX4_isAnd_54 (by decide) ?_
    exact e_zret (pc := 55) dX4_isAnd_55 rfl (by rfl) (Nat.le_refl _) (Nat.le_refl _) ⟨rfl, u, c, hP, hkb, rfl⟩
  | succ f ih =>
    intro i R o u c hi hP hkb hV
    simp only [xlp] at hV
    have hi1 : i < 160 := by omega
    have ht := hP.2.2.1
    refine e_iloadn (pc := 12) dX4_isAnd_12 rfl ?_
    refine e_sipush (v := 160) (pc := 13) dX4_isAnd_13 (by decide) ?_
    refine e_icmp_ge (pc := 16) dX4_isAnd_16 (t := 54) (by decide) (fun c_16 => absurd c_16 (nI_ge hi1 (by decide))) (fun _ => ?_)
    refine e_aloadn (pc := 19) dX4_isAnd_19 rfl ?_
    refine e_get (pc := 20) dX4_isAnd_20 fX4_41 rfl rfl ?_
    refine e_bipush (v := -12) (pc := 23) dX4_isAnd_23 (by decide) ?_
    refine e_icmp_ne (pc := 25) dX4_isAnd_25 (t := 54) (by decide) (fun c_25 => ?_) (fun c_25 => ?_)
    · skip
      refine e_iconst (v := 1) (pc := 54) dX4_isAnd_54 (by decide) ?_
      exact e_zret (pc := 55) dX4_isAnd_55 rfl (by rfl) (Nat.le_refl _) (Nat.le_refl _) ⟨by rw [← hV, if_neg (show ¬ xM12 (xtk1 R) = true by rw [← ht]; unfold xM12; simp [c_25])]; rfl, u, c, by rw [← hV, if_neg (show ¬ xM12 (xtk1 R) = true by rw [← ht]; unfold xM12; simp [c_25])]; exact hP, hkb, rfl⟩
    · skip
      refine e_aloadn (pc := 28) dX4_isAnd_28 rfl ?_
      refine e_cvY (pc := 29) (sp_x_goOnP hL hN hN1 hP) dX4_isAnd_29 kX4_28 rfl rfl rfl rfl rfl (mc_CR_of (Nat.le_of_ble_eq_true rfl) (Nat.le_of_ble_eq_true rfl) (Nat.le_refl _) (Nat.le_refl _)) (Nat.le_of_ble_eq_true rfl) (fun w1 hw1 => ?_)
      obtain ⟨u1, c1, hP1, hk1, rfl⟩ := hw1
      refine e_aloadn (pc := 32) dX4_isAnd_32 rfl ?_
      refine e_iloadn (pc := 33) dX4_isAnd_33 rfl ?_
      refine e_cvX (pc := 34) (sp_x_not2 hL hN hN1 hP1) dX4_isAnd_34 kX4_80 rfl rfl rfl rfl rfl (mc_CR_of (Nat.le_of_ble_eq_true rfl) (Nat.le_of_ble_eq_true rfl) (Nat.le_refl _) (Nat.le_refl _)) (Nat.le_of_ble_eq_true rfl) (fun w1 hw1 => ?_)
      obtain ⟨u2, c2, hP2, hk2, rfl⟩ := hw1
      refine e_if_ne (pc := 37) dX4_isAnd_37 (t := 42) (by decide) (fun c_37 => ?_) (fun c_37 => ?_)
      · skip
        refine e_aloadn (pc := 42) dX4_isAnd_42 rfl ?_
        refine e_bipush (v := -12) (pc := 43) dX4_isAnd_43 (by decide) ?_
        refine e_cvY (pc := 45) (sp_x_putP hP2) dX4_isAnd_45 kX4_76 rfl rfl rfl rfl rfl (mc_CR_of (Nat.le_of_ble_eq_true rfl) (Nat.le_of_ble_eq_true rfl) (Nat.le_refl _) (Nat.le_refl _)) (Nat.le_of_ble_eq_true rfl) (fun w1 hw1 => ?_)
        obtain ⟨u3, c3, hP3, hk3, rfl⟩ := hw1
        refine e_incC2 (pc := 48) dX4_isAnd_48 (nI_1 i) (Nat.le_of_ble_eq_true rfl) rfl ?_
        refine e_goto (pc := 51) dX4_isAnd_51 (t := 12) (by decide) ?_
        exact ih (i + 1) _ _ _ _ (by omega) (by rw [show (-12 : Int32) = xtk1 R from by rw [← ht, c_25]] at hP3; exact hP3) (((hkb.trans hk1).trans hk2).trans hk3) (by rw [← hV, if_pos (show xM12 (xtk1 R) = true by rw [← ht, c_25]; decide), if_pos (mc_b1.mp c_37)])
      · skip
        refine e_iconst (v := 0) (pc := 40) dX4_isAnd_40 (by decide) ?_
        exact e_zret (pc := 41) dX4_isAnd_41 rfl (by rfl) (Nat.le_refl _) (Nat.le_refl _) ⟨by rw [← hV, if_pos (show xM12 (xtk1 R) = true by rw [← ht, c_25]; decide), if_neg (show ¬ ((xlv (xT a) N 2).2 (ynx (xT a) N R.2.1) o).1 = true by rw [mc_b0.mp c_37]; decide)]; rfl, u2, c2, by rw [← hV, if_pos (show xM12 (xtk1 R) = true by rw [← ht, c_25]; decide), if_neg (show ¬ ((xlv (xT a) N 2).2 (ynx (xT a) N R.2.1) o).1 = true by rw [mc_b0.mp c_37]; decide)]; exact hP2, (hkb.trans hk1).trans hk2, rfl⟩
theorem sp_x_and2 {s u m n : Nat → Int32} {a c b d : Nat → List Int32} {q : List (Option Nat)} {h : Nat} {z : mc_W} (hL : xL a) {N : Nat} (hN : s 5 = nI N) (hN1 : N ≤ 160) {R : xR} {o : List Int32} (hP : xPS N R o u c) : mc_T yX4_isAnd cX4_isAnd 3 (some .boolean) 24 [.ref 6, .int 3] (WW s a q u c h m b n d z) (some (.int (mc_b (xand (xT a) N (xlv (xT a) N 2).2 R o).1))) (fun w1 => ∃ u1 c1, xPS N (xand (xT a) N (xlv (xT a) N 2).2 R o).2.1 (xand (xT a) N (xlv (xT a) N 2).2 R o).2.2 u1 c1 ∧ xPK u u1 c c1 ∧ w1 = (WW s a q u1 c1 h m b n d z)) := by
  refine mc_start (own := RX4) (ini := false) rfl (by decide +kernel) (fun h => by cases h) (Nat.le_of_ble_eq_true rfl) ?_
  show mc_E _ _ _ _ _ [some (.ref 6), some (.int 3), none] [] _ _ _
  refine e_aloadn (pc := 0) dX4_isAnd_0 rfl ?_
  refine e_iloadn (pc := 1) dX4_isAnd_1 rfl ?_
  refine e_cvX (pc := 2) (sp_x_not2 hL hN hN1 hP) dX4_isAnd_2 kX4_80 rfl rfl rfl rfl rfl (mc_CR_of (Nat.le_of_ble_eq_true rfl) (Nat.le_of_ble_eq_true rfl) (Nat.le_refl _) (Nat.le_refl _)) (Nat.le_of_ble_eq_true rfl) (fun w1 hw1 => ?_)
  obtain ⟨u1, c1, hP1, hk1, rfl⟩ := hw1
  refine e_if_ne (pc := 5) dX4_isAnd_5 (t := 10) (by decide) (fun c_5 => ?_) (fun c_5 => ?_)
  · skip
    refine e_iconst (v := 0) (pc := 10) dX4_isAnd_10 (by decide) ?_
    refine e_isn2 (pc := 11) dX4_isAnd_11 (Nat.le_of_ble_eq_true rfl) rfl ?_
    have e : xand (xT a) N (xlv (xT a) N 2).2 R o = xlp (xT a) N (xlv (xT a) N 2).2 xM12 160 ((xlv (xT a) N 2).2 R o).2.1 ((xlv (xT a) N 2).2 R o).2.2 := if_pos (mc_b1.mp c_5)
    rw [e]
    exact lp_x_and2 hL hN hN1 160 0 _ _ u1 c1 (by omega) hP1 hk1 rfl
  · skip
    refine e_iconst (v := 0) (pc := 8) dX4_isAnd_8 (by decide) ?_
    exact e_zret (pc := 9) dX4_isAnd_9 rfl (by rfl) (Nat.le_refl _) (Nat.le_refl _) (have e : xand (xT a) N (xlv (xT a) N 2).2 R o = (false, ((xlv (xT a) N 2).2 R o).2) := if_neg (show ¬ ((xlv (xT a) N 2).2 R o).1 = true by rw [mc_b0.mp c_5]; decide); ⟨by rw [e]; rfl, u1, c1, by rw [e]; dsimp only; exact hP1, hk1, rfl⟩)
theorem lp_x_E2 {s m n : Nat → Int32} {a b d : Nat → List Int32} {q : List (Option Nat)} {h : Nat} {z : mc_W} (hL : xL a) {N : Nat} (hN : s 5 = nI N) (hN1 : N ≤ 160) {ub : Nat → Int32} {cb : Nat → List Int32} {V : Bool × xR × List Int32} :
    ∀ (f i : Nat) (R : xR) (o : List Int32) (u : Nat → Int32) (c : Nat → List Int32), i + f = 160 → xPS N R o u c → xPK ub u cb c → xlp (xT a) N (xand (xT a) N (xlv (xT a) N 2).2) xM11 f R o = V →
      mc_E RX4 cX4_isE 3 (mc_JM (some .boolean) false 25 0 0 (fun r' w' => r' = some (.int (mc_b V.1)) ∧ ∃ u1 c1, xPS N V.2.1 V.2.2 u1 c1 ∧ xPK ub u1 cb c1 ∧ w' = (WW s a q u1 c1 h m b n d z))) 12 [some (.ref 6), some (.int 3), some (.int (nI i))] [] (WW s a q u c h m b n d z) 0 0 := by
  intro f
  induction f with
  | zero =>
    intro i R o u c hi hP hkb hV
    have e : i = 160 := by omega
    subst e
    simp only [xlp] at hV
    subst hV
    refine e_iloadn (pc := 12) dX4_isE_12 rfl ?_
    refine e_sipush (v := 160) (pc := 13) dX4_isE_13 (by decide) ?_
    refine e_icmp_ge (pc := 16) dX4_isE_16 (t := 54) (by decide) (fun _ => ?_) (fun c_16 => absurd (by decide) c_16)
    refine e_iconst (v := 1) (pc := 54) dX4_isE_54 (by decide) ?_
    exact e_zret (pc := 55) dX4_isE_55 rfl (by rfl) (Nat.le_refl _) (Nat.le_refl _) ⟨rfl, u, c, hP, hkb, rfl⟩
  | succ f ih =>
    intro i R o u c hi hP hkb hV
    simp only [xlp] at hV
    have hi1 : i < 160 := by omega
    have ht := hP.2.2.1
    refine e_iloadn (pc := 12) dX4_isE_12 rfl ?_
    refine e_sipush (v := 160) (pc := 13) dX4_isE_13 (by decide) ?_
    refine e_icmp_ge (pc := 16) dX4_isE_16 (t := 54) (by decide) (fun c_16 => absurd c_16 (nI_ge hi1 (by decide))) (fun _ => ?_)
    refine e_aloadn (pc := 19) dX4_isE_19 rfl ?_
    refine e_get (pc := 20) dX4_isE_20 fX4_41 rfl rfl ?_
    refine e_bipush (v := -11) (pc := 23) dX4_isE_23 (by decide) ?_
    refine e_icmp_ne (pc := 25) dX4_isE_25 (t := 54) (by decide) (fun c_25 => ?_) (fun c_25 => ?_)
    · skip
      refine e_iconst (v := 1) (pc := 54) dX4_isE_54 (by decide) ?_
      exact e_zret (pc := 55) dX4_isE_55 rfl (by rfl) (Nat.le_refl _) (Nat.le_refl _) ⟨by rw [← hV, if_neg (show ¬ xM11 (xtk1 R) = true by rw [← ht]; unfold xM11; simp [c_25])]; rfl, u, c, by rw [← hV, if_neg (show ¬ xM11 (xtk1 R) = true by rw [← ht]; unfold xM11; simp [c_25])]; exact hP, hkb, rfl⟩
    · skip
      refine e_aloadn (pc := 28) dX4_isE_28 rfl ?_
      refine e_cvY (pc := 29) (sp_x_goOnP hL hN hN1 hP) dX4_isE_29 kX4_28 rfl rfl rfl rfl rfl (mc_CR_of (Nat.le_of_ble_eq_true rfl) (Nat.le_of_ble_eq_true rfl) (Nat.le_refl _) (Nat.le_refl _)) (Nat.le_of_ble_eq_true rfl) (fun w1 hw1 => ?_)
      obtain ⟨u1, c1, hP1, hk1, rfl⟩ := hw1
      refine e_aloadn (pc := 32) dX4_isE_32 rfl ?_
      refine e_iloadn (pc := 33) dX4_isE_33 rfl ?_
      refine e_cvX (pc := 34) (sp_x_and2 hL hN hN1 hP1) dX4_isE_34 kX4_73 rfl rfl rfl rfl rfl (mc_CR_of (Nat.le_of_ble_eq_true rfl) (Nat.le_of_ble_eq_true rfl) (Nat.le_refl _) (Nat.le_refl _)) (Nat.le_of_ble_eq_true rfl) (fun w1 hw1 => ?_)
      obtain ⟨u2, c2, hP2, hk2, rfl⟩ := hw1
      refine e_if_ne (pc := 37) dX4_isE_37 (t := 42) (by decide) (fun c_37 => ?_) (fun c_37 => ?_)
      · skip
        refine e_aloadn (pc := 42) dX4_isE_42 rfl ?_
        refine e_bipush (v := -11) (pc := 43) dX4_isE_43 (by decide) ?_
        refine e_cvY (pc := 45) (sp_x_putP hP2) dX4_isE_45 kX4_76 rfl rfl rfl rfl rfl (mc_CR_of (Nat.le_of_ble_eq_true rfl) (Nat.le_of_ble_eq_true rfl) (Nat.le_refl _) (Nat.le_refl _)) (Nat.le_of_ble_eq_true rfl) (fun w1 hw1 => ?_)
        obtain ⟨u3, c3, hP3, hk3, rfl⟩ := hw1
        refine e_incC2 (pc := 48) dX4_isE_48 (nI_1 i) (Nat.le_of_ble_eq_true rfl) rfl ?_
        refine e_goto (pc := 51) dX4_isE_51 (t := 12) (by decide) ?_
        exact ih (i + 1) _ _ _ _ (by omega) (by rw [show (-11 : Int32) = xtk1 R from by rw [← ht, c_25]] at hP3; exact hP3) (((hkb.trans hk1).trans hk2).trans hk3) (by rw [← hV, if_pos (show xM11 (xtk1 R) = true by rw [← ht, c_25]; decide), if_pos (mc_b1.mp c_37)])
      · skip
        refine e_iconst (v := 0) (pc := 40) dX4_isE_40 (by decide) ?_
        exact e_zret (pc := 41) dX4_isE_41 rfl (by rfl) (Nat.le_refl _) (Nat.le_refl _) ⟨by rw [← hV, if_pos (show xM11 (xtk1 R) = true by rw [← ht, c_25]; decide), if_neg (show ¬ ((xand (xT a) N (xlv (xT a) N 2).2) (ynx (xT a) N R.2.1) o).1 = true by rw [mc_b0.mp c_37]; decide)]; rfl, u2, c2, by rw [← hV, if_pos (show xM11 (xtk1 R) = true by rw [← ht, c_25]; decide), if_neg (show ¬ ((xand (xT a) N (xlv (xT a) N 2).2) (ynx (xT a) N R.2.1) o).1 = true by rw [mc_b0.mp c_37]; decide)]; exact hP2, (hkb.trans hk1).trans hk2, rfl⟩
theorem sp_x_E2 {s u m n : Nat → Int32} {a c b d : Nat → List Int32} {q : List (Option Nat)} {h : Nat} {z : mc_W} (hL : xL a) {N : Nat} (hN : s 5 = nI N) (hN1 : N ≤ 160) {R : xR} {o : List Int32} (hP : xPS N R o u c) : mc_T yX4_isE cX4_isE 3 (some .boolean) 25 [.ref 6, .int 3] (WW s a q u c h m b n d z) (some (.int (mc_b (xE (xT a) N (xlv (xT a) N 2).2 R o).1))) (fun w1 => ∃ u1 c1, xPS N (xE (xT a) N (xlv (xT a) N 2).2 R o).2.1 (xE (xT a) N (xlv (xT a) N 2).2 R o).2.2 u1 c1 ∧ xPK u u1 c c1 ∧ w1 = (WW s a q u1 c1 h m b n d z)) := by
  refine mc_start (own := RX4) (ini := false) rfl (by decide +kernel) (fun h => by cases h) (Nat.le_of_ble_eq_true rfl) ?_
  show mc_E _ _ _ _ _ [some (.ref 6), some (.int 3), none] [] _ _ _
  refine e_aloadn (pc := 0) dX4_isE_0 rfl ?_
  refine e_iloadn (pc := 1) dX4_isE_1 rfl ?_
  refine e_cvX (pc := 2) (sp_x_and2 hL hN hN1 hP) dX4_isE_2 kX4_73 rfl rfl rfl rfl rfl (mc_CR_of (Nat.le_of_ble_eq_true rfl) (Nat.le_of_ble_eq_true rfl) (Nat.le_refl _) (Nat.le_refl _)) (Nat.le_of_ble_eq_true rfl) (fun w1 hw1 => ?_)
  obtain ⟨u1, c1, hP1, hk1, rfl⟩ := hw1
  refine e_if_ne (pc := 5) dX4_isE_5 (t := 10) (by decide) (fun c_5 => ?_) (fun c_5 => ?_)
  · skip
    refine e_iconst (v := 0) (pc := 10) dX4_isE_10 (by decide) ?_
    refine e_isn2 (pc := 11) dX4_isE_11 (Nat.le_of_ble_eq_true rfl) rfl ?_
    have e : xE (xT a) N (xlv (xT a) N 2).2 R o = xlp (xT a) N (xand (xT a) N (xlv (xT a) N 2).2) xM11 160 ((xand (xT a) N (xlv (xT a) N 2).2) R o).2.1 ((xand (xT a) N (xlv (xT a) N 2).2) R o).2.2 := if_pos (mc_b1.mp c_5)
    rw [e]
    exact lp_x_E2 hL hN hN1 160 0 _ _ u1 c1 (by omega) hP1 hk1 rfl
  · skip
    refine e_iconst (v := 0) (pc := 8) dX4_isE_8 (by decide) ?_
    exact e_zret (pc := 9) dX4_isE_9 rfl (by rfl) (Nat.le_refl _) (Nat.le_refl _) (have e : xE (xT a) N (xlv (xT a) N 2).2 R o = (false, ((xand (xT a) N (xlv (xT a) N 2).2) R o).2) := if_neg (show ¬ ((xand (xT a) N (xlv (xT a) N 2).2) R o).1 = true by rw [mc_b0.mp c_5]; decide); ⟨by rw [e]; rfl, u1, c1, by rw [e]; dsimp only; exact hP1, hk1, rfl⟩)
end Zj_6n_x24_2
