/-! ===== cells, copies, clerks by a sheet ===== -/
def xcl1 (s : Nat → Int32) (k : Nat) (i : Int32) : Int32 := if xmis s k = true then -11 else if xhas i (s (12 + 2 * k)) = false then -12 else 1
def xcla (s : Nat → Int32) (a : Nat → List Int32) (k : Nat) (i v : Int32) : Nat → List Int32 := if xcl1 s k i = 1 then xsto a s k i v else a
theorem sp_x_cell {s u m n : Nat → Int32} {a c b d : Nat → List Int32} {q : List (Option Nat)} {h : Nat} {z : mc_W} {k : Nat} (hk : k < 4) (hL : xL a)  {i v : Int32} : mc_D yX6_cell cX6_cell 6 (some .int) 5 [.ref 0, .int (nI k), .int i, .int v] (WW s a q u c h m b n d z) (some (.int (xcl1 s k i))) (WW s (xcla s a k i v) q u c h m b n d z) := by
  refine mc_start (own := RX6) (ini := false) rfl (by decide +kernel) (fun h => by cases h) (Nat.le_of_ble_eq_true rfl) ?_
  show mc_E _ _ _ _ _ [some (.ref 0), some (.int (nI k)), some (.int i), some (.int v), none, none] [] _ _ _
  refine e_aloadn (pc := 0) dX6_cell_0 rfl ?_
  refine e_iloadn (pc := 1) dX6_cell_1 rfl ?_
  refine e_cvD (pc := 2) (sp_x_refSheet hk) dX6_cell_2 kX6_228 rfl rfl rfl rfl rfl (mc_CR_of (Nat.le_of_ble_eq_true rfl) (Nat.le_of_ble_eq_true rfl) (Nat.le_refl _) (Nat.le_refl _)) (Nat.le_of_ble_eq_true rfl) ?_
  refine e_isw4 (pc := 5) dX6_cell_5 (Nat.le_of_ble_eq_true rfl) rfl ?_
  refine e_iload (pc := 7) dX6_cell_7 rfl ?_
  refine e_if_eq (pc := 9) dX6_cell_9 (t := 15) (by decide) (fun c_9 => ?_) (fun c_9 => ?_)
  · skip
    refine e_aloadn (pc := 15) dX6_cell_15 rfl ?_
    refine e_iloadn (pc := 16) dX6_cell_16 rfl ?_
    refine e_cvD (pc := 17) (sp_x_sheetAt hk) dX6_cell_17 kX6_171 rfl rfl rfl rfl rfl (mc_CR_of (Nat.le_of_ble_eq_true rfl) (Nat.le_of_ble_eq_true rfl) (Nat.le_refl _) (Nat.le_refl _)) (Nat.le_of_ble_eq_true rfl) ?_
    refine e_asw5 (pc := 20) dX6_cell_20 (Nat.le_of_ble_eq_true rfl) rfl ?_
    refine e_aload (pc := 22) dX6_cell_22 rfl ?_
    refine e_iloadn (pc := 24) dX6_cell_24 rfl ?_
    refine e_cvD (pc := 25) (sp_x_has hk hL) dX6_cell_25 kX6_329 (WW_sh hk) rfl rfl rfl rfl (mc_CR_of (Nat.le_of_ble_eq_true rfl) (Nat.le_of_ble_eq_true rfl) (Nat.le_refl _) (Nat.le_refl _)) (Nat.le_of_ble_eq_true rfl) ?_
    refine e_if_ne (pc := 28) dX6_cell_28 (t := 34) (by decide) (fun c_28 => ?_) (fun c_28 => ?_)
    · skip
      refine e_aload (pc := 34) dX6_cell_34 rfl ?_
      refine e_iloadn (pc := 36) dX6_cell_36 rfl ?_
      refine e_iloadn (pc := 37) dX6_cell_37 rfl ?_
      refine e_cvU (pc := 38) (sp_x_store hk hL) dX6_cell_38 kX6_294 (WW_sh hk) rfl rfl rfl rfl (mc_CR_of (Nat.le_of_ble_eq_true rfl) (Nat.le_of_ble_eq_true rfl) (Nat.le_refl _) (Nat.le_refl _)) (Nat.le_of_ble_eq_true rfl) ?_
      refine e_iconst (v := 1) (pc := 41) dX6_cell_41 (by decide) ?_
      exact e_iret (pc := 42) dX6_cell_42 rfl (Nat.le_refl _) (Nat.le_refl _) (have e : xcl1 s k i = 1 := (by unfold xcl1; rw [if_neg (show ¬ xmis s k = true from fun q => by rw [if_pos q] at c_9; exact absurd c_9 (by decide)), if_neg (show ¬ xhas i (s (12 + 2 * k)) = false by rw [mc_b1.mp c_28]; decide)]); ⟨by rw [e], by unfold xcla; rw [if_pos e]⟩)
    · skip
      refine e_bipush (v := -12) (pc := 31) dX6_cell_31 (by decide) ?_
      exact e_iret (pc := 33) dX6_cell_33 rfl (Nat.le_refl _) (Nat.le_refl _) (have e : xcl1 s k i = -12 := (by unfold xcl1; rw [if_neg (show ¬ xmis s k = true from fun q => by rw [if_pos q] at c_9; exact absurd c_9 (by decide)), if_pos (mc_b0.mp c_28)]); ⟨by rw [e], by unfold xcla; rw [e, if_neg (by decide)]⟩)
  · skip
    refine e_iload (pc := 12) dX6_cell_12 rfl ?_
    exact e_iret (pc := 14) dX6_cell_14 rfl (Nat.le_refl _) (Nat.le_refl _) (have e : xcl1 s k i = -11 := (by unfold xcl1; by_cases hm : xmis s k = true <;> simp_all); ⟨by rw [e]; by_cases hm : xmis s k = true <;> simp_all, by unfold xcla; rw [e, if_neg (by decide)]⟩)
theorem sp_x_cell0 {s u m n : Nat → Int32} {a c b d : Nat → List Int32} {q : List (Option Nat)} {h : Nat} {z : mc_W} {x0 i v : Int32} (hv : mc_wi x0 0 3 = false) : mc_D yX6_cell cX6_cell 6 (some .int) 5 [.ref 0, .int x0, .int i, .int v] (WW s a q u c h m b n d z) (some (.int (-2))) (WW s a q u c h m b n d z) := by
  refine mc_start (own := RX6) (ini := false) rfl (by decide +kernel) (fun h => by cases h) (Nat.le_of_ble_eq_true rfl) ?_
  show mc_E _ _ _ _ _ [some (.ref 0), some (.int x0), some (.int i), some (.int v), none, none] [] _ _ _
  refine e_aloadn (pc := 0) dX6_cell_0 rfl ?_
  refine e_iloadn (pc := 1) dX6_cell_1 rfl ?_
  refine e_cvD (pc := 2) (sp_x_refSheet0 hv) dX6_cell_2 kX6_228 rfl rfl rfl rfl rfl (mc_CR_of (Nat.le_of_ble_eq_true rfl) (Nat.le_of_ble_eq_true rfl) (Nat.le_refl _) (Nat.le_refl _)) (Nat.le_of_ble_eq_true rfl) ?_
  refine e_isw4 (pc := 5) dX6_cell_5 (Nat.le_of_ble_eq_true rfl) rfl ?_
  refine e_iload (pc := 7) dX6_cell_7 rfl ?_
  refine e_if_eq (pc := 9) dX6_cell_9 (t := 15) (by decide) (fun c_9 => absurd c_9 (by decide)) (fun _ => ?_)
  refine e_iload (pc := 12) dX6_cell_12 rfl ?_
  exact e_iret (pc := 14) dX6_cell_14 rfl (Nat.le_refl _) (Nat.le_refl _) ⟨rfl, rfl⟩
theorem xrun_in {f g N : Int32} (hN : 0 ≤ N.toInt ∧ N.toInt ≤ 40) (h : xrun f g N = true) : ¬ f < 0 ∧ ¬ g < 0 ∧ f.toNatClampNeg + g.toNatClampNeg ≤ 40 ∧ (f.toInt + g.toInt ≤ N.toInt) := by
  unfold xrun at h
  simp only [Bool.and_eq_true, decide_eq_true_eq, Int32.le_iff_toInt_le, i0] at h
  obtain ⟨h1, h2, h3, h4⟩ := h
  rw [i32_sub (by omega) (by omega)] at h4
  have t1 := tnc h1
  have t2 := tnc h2
  refine ⟨?_, ?_, by omega, by omega⟩
  · rw [Int32.lt_iff_toInt_lt, i0]; omega
  · rw [Int32.lt_iff_toInt_lt, i0]; omega
def xcpa (a : Nat → List Int32) (k p : Nat) (i j n : Int32) : Nat → List Int32 := mc_up a (5 + p) (mc_cpy (a (5 + k)) (a (5 + p)) i.toNatClampNeg j.toNatClampNeg n.toNatClampNeg)
theorem sp_x_copyTo {s u m n : Nat → Int32} {a c b d : Nat → List Int32} {q : List (Option Nat)} {h : Nat} {z : mc_W} {k p : Nat} (hk : k < 4) (hp : p < 4) (hL : xL a) (hS : xS s) {i j g : Int32} (hr1 : xrun i g (s (12 + 2 * k)) = true) (hr2 : xrun j g (s (12 + 2 * p)) = true) : mc_D yX3_copyTo cX3_copyTo 5 none 2 [.ref (21 + 2 * k), .ref (21 + 2 * p), .int i, .int j, .int g] (WW s a q u c h m b n d z) none (WW s (xcpa a k p i j g) q u c h m b n d z) := by
  refine mc_start (own := RX3) (ini := false) rfl (by decide +kernel) (fun h => by cases h) (Nat.le_of_ble_eq_true rfl) ?_
  show mc_E _ _ _ _ _ [some (.ref (21 + 2 * k)), some (.ref (21 + 2 * p)), some (.int i), some (.int j), some (.int g)] [] _ _ _
  refine e_aloadn (pc := 0) dX3_copyTo_0 rfl ?_
  refine e_iloadn (pc := 1) dX3_copyTo_1 rfl ?_
  refine e_iload (pc := 2) dX3_copyTo_2 rfl ?_
  refine e_cvD (pc := 4) (sp_x_hasRun hk) dX3_copyTo_4 kX3_41 (WW_sh hk) rfl rfl rfl rfl (mc_CR_of (Nat.le_of_ble_eq_true rfl) (Nat.le_of_ble_eq_true rfl) (Nat.le_refl _) (Nat.le_refl _)) (Nat.le_of_ble_eq_true rfl) ?_
  refine e_if_eq (pc := 7) dX3_copyTo_7 (t := 35) (by decide) (fun c_7 => absurd c_7 (by rw [hr1]; decide)) (fun _ => ?_)
  refine e_aloadn (pc := 10) dX3_copyTo_10 rfl ?_
  refine e_iloadn (pc := 11) dX3_copyTo_11 rfl ?_
  refine e_iload (pc := 12) dX3_copyTo_12 rfl ?_
  refine e_cvD (pc := 14) (sp_x_hasRun hp) dX3_copyTo_14 kX3_41 (WW_sh hp) rfl rfl rfl rfl (mc_CR_of (Nat.le_of_ble_eq_true rfl) (Nat.le_of_ble_eq_true rfl) (Nat.le_refl _) (Nat.le_refl _)) (Nat.le_of_ble_eq_true rfl) ?_
  refine e_if_eq (pc := 17) dX3_copyTo_17 (t := 35) (by decide) (fun c_17 => absurd c_17 (by rw [hr2]; decide)) (fun _ => ?_)
  refine e_aloadn (pc := 20) dX3_copyTo_20 rfl ?_
  refine e_get (pc := 21) dX3_copyTo_21 fX3_9 (WW_sh (by assumption)) rfl ?_
  refine e_iloadn (pc := 24) dX3_copyTo_24 rfl ?_
  refine e_aloadn (pc := 25) dX3_copyTo_25 rfl ?_
  refine e_get (pc := 26) dX3_copyTo_26 fX3_9 (WW_sh (by assumption)) rfl ?_
  refine e_iloadn (pc := 29) dX3_copyTo_29 rfl ?_
  refine e_iload (pc := 30) dX3_copyTo_30 rfl ?_
  have r1 := xrun_in (hS k hk) hr1
  have r2 := xrun_in (hS p hp) hr2
  refine e_copy (pc := 32) (a0 := 22 + 2 * k) (a := 22 + 2 * p) (xs := a (5 + k)) (ys := a (5 + p)) (sp := i) (dp := j) (n := g) dX3_copyTo_32 oX3_45 nat_cpy sta_cpy ini_Sys (WW_num hk) (WW_num hp) r1.1 r2.1 r1.2.1 (by rw [hL.2.2.2.2.2 k hk]; exact r1.2.2.1) (by rw [hL.2.2.2.2.2 p hp]; exact r2.2.2.1) ⟨Nat.le_of_ble_eq_true rfl, Nat.le_of_ble_eq_true rfl⟩ (Nat.le_of_ble_eq_true rfl) ?_
  exact e_vret (pc := 35) dX3_copyTo_35 rfl (Nat.le_refl _) (Nat.le_refl _) ⟨rfl, WW_numset hp⟩
def xcyr (s : Nat → Int32) (k p : Nat) (i j g : Int32) : Int32 := if xmis s k = true then -11 else if xmis s p = true then -11 else if ¬ s (11 + 2 * k) = s (11 + 2 * p) then -13
  else if xrun i g (s (12 + 2 * k)) = false then -12 else if xrun j g (s (12 + 2 * p)) = false then -12 else 0
def xcy1 (s : Nat → Int32) (k p : Nat) (i j g : Int32) : Int32 := if xcyr s k p i j g = 0 then g else xcyr s k p i j g
def xcya (s : Nat → Int32) (a : Nat → List Int32) (k p : Nat) (i j g : Int32) : Nat → List Int32 := if xcyr s k p i j g = 0 then xcpa a k p i j g else a
theorem xcy_no {s : Nat → Int32} {a : Nat → List Int32} {k p : Nat} {i j g v : Int32} (e : xcyr s k p i j g = v) (hv : ¬ v = 0) : xcy1 s k p i j g = v ∧ xcya s a k p i j g = a := by
  unfold xcy1 xcya
  rw [e, if_neg hv, if_neg hv]
  exact ⟨rfl, rfl⟩
theorem sp_x_copy {s u m n : Nat → Int32} {a c b d : Nat → List Int32} {q : List (Option Nat)} {h : Nat} {z : mc_W} {k p : Nat} (hk : k < 4) (hp : p < 4) (hL : xL a) (hS : xS s) {i j g : Int32} : mc_D yX6_copy cX6_copy 8 (some .int) 4 [.ref 0, .int (nI k), .int i, .int (nI p), .int j, .int g] (WW s a q u c h m b n d z) (some (.int (xcy1 s k p i j g))) (WW s (xcya s a k p i j g) q u c h m b n d z) := by
  refine mc_start (own := RX6) (ini := false) rfl (by decide +kernel) (fun h => by cases h) (Nat.le_of_ble_eq_true rfl) ?_
  show mc_E _ _ _ _ _ [some (.ref 0), some (.int (nI k)), some (.int i), some (.int (nI p)), some (.int j), some (.int g), none, none] [] _ _ _
  refine e_iloadn (pc := 0) dX6_copy_0 rfl ?_
  refine e_csD (pc := 1) (sp_isSheet) dX6_copy_1 kX6_289 rfl rfl (mc_CR_of (Nat.le_of_ble_eq_true rfl) (Nat.le_of_ble_eq_true rfl) (Nat.le_refl _) (Nat.le_refl _)) (Nat.le_of_ble_eq_true rfl) ?_
  refine e_if_eq (pc := 4) dX6_copy_4 (t := 14) (by decide) (fun c_4 => absurd c_4 (mc_b1.mpr (wi_nk hk))) (fun _ => ?_)
  refine e_iloadn (pc := 7) dX6_copy_7 rfl ?_
  refine e_csD (pc := 8) (sp_isSheet) dX6_copy_8 kX6_289 rfl rfl (mc_CR_of (Nat.le_of_ble_eq_true rfl) (Nat.le_of_ble_eq_true rfl) (Nat.le_refl _) (Nat.le_refl _)) (Nat.le_of_ble_eq_true rfl) ?_
  refine e_if_ne (pc := 11) dX6_copy_11 (t := 17) (by decide) (fun _ => ?_) (fun c_11 => absurd c_11 (mc_b1.mpr (wi_nk hp)))
  refine e_aloadn (pc := 17) dX6_copy_17 rfl ?_
  refine e_iloadn (pc := 18) dX6_copy_18 rfl ?_
  refine e_cvD (pc := 19) (sp_x_sheetAt hk) dX6_copy_19 kX6_171 rfl rfl rfl rfl rfl (mc_CR_of (Nat.le_of_ble_eq_true rfl) (Nat.le_of_ble_eq_true rfl) (Nat.le_refl _) (Nat.le_refl _)) (Nat.le_of_ble_eq_true rfl) ?_
  refine e_asw6 (pc := 22) dX6_copy_22 (Nat.le_of_ble_eq_true rfl) rfl ?_
  refine e_aloadn (pc := 24) dX6_copy_24 rfl ?_
  refine e_iloadn (pc := 25) dX6_copy_25 rfl ?_
  refine e_cvD (pc := 26) (sp_x_sheetAt hp) dX6_copy_26 kX6_171 rfl rfl rfl rfl rfl (mc_CR_of (Nat.le_of_ble_eq_true rfl) (Nat.le_of_ble_eq_true rfl) (Nat.le_refl _) (Nat.le_refl _)) (Nat.le_of_ble_eq_true rfl) ?_
  refine e_asw7 (pc := 29) dX6_copy_29 (Nat.le_of_ble_eq_true rfl) rfl ?_
  refine e_aload (pc := 31) dX6_copy_31 rfl ?_
  refine e_cvD (pc := 33) (sp_x_missing hk) dX6_copy_33 kX6_332 (WW_sh hk) rfl rfl rfl rfl (mc_CR_of (Nat.le_of_ble_eq_true rfl) (Nat.le_of_ble_eq_true rfl) (Nat.le_refl _) (Nat.le_refl _)) (Nat.le_of_ble_eq_true rfl) ?_
  refine e_if_ne (pc := 36) dX6_copy_36 (t := 47) (by decide) (fun c_36 => ?_) (fun c_36 => ?_)
  · skip
    refine e_bipush (v := -11) (pc := 47) dX6_copy_47 (by decide) ?_
    exact e_iret (pc := 49) dX6_copy_49 rfl (Nat.le_refl _) (Nat.le_refl _) (have e : xcyr s k p i j g = -11 := (by unfold xcyr; rw [if_pos (show xmis s k = true from mc_b1.mp c_36)]); ⟨by rw [(xcy_no (a := a) e (by decide)).1], by rw [(xcy_no (a := a) e (by decide)).2]⟩)
  · skip
    refine e_aload (pc := 39) dX6_copy_39 rfl ?_
    refine e_cvD (pc := 41) (sp_x_missing hp) dX6_copy_41 kX6_332 (WW_sh hp) rfl rfl rfl rfl (mc_CR_of (Nat.le_of_ble_eq_true rfl) (Nat.le_of_ble_eq_true rfl) (Nat.le_refl _) (Nat.le_refl _)) (Nat.le_of_ble_eq_true rfl) ?_
    refine e_if_eq (pc := 44) dX6_copy_44 (t := 50) (by decide) (fun c_44 => ?_) (fun c_44 => ?_)
    · skip
      refine e_aload (pc := 50) dX6_copy_50 rfl ?_
      refine e_cvD (pc := 52) (sp_x_sort hk) dX6_copy_52 kX6_335 (WW_sh hk) rfl rfl rfl rfl (mc_CR_of (Nat.le_of_ble_eq_true rfl) (Nat.le_of_ble_eq_true rfl) (Nat.le_refl _) (Nat.le_refl _)) (Nat.le_of_ble_eq_true rfl) ?_
      refine e_aload (pc := 55) dX6_copy_55 rfl ?_
      refine e_cvD (pc := 57) (sp_x_sort hp) dX6_copy_57 kX6_335 (WW_sh hp) rfl rfl rfl rfl (mc_CR_of (Nat.le_of_ble_eq_true rfl) (Nat.le_of_ble_eq_true rfl) (Nat.le_refl _) (Nat.le_refl _)) (Nat.le_of_ble_eq_true rfl) ?_
      refine e_icmp_eq (pc := 60) dX6_copy_60 (t := 66) (by decide) (fun c_60 => ?_) (fun c_60 => ?_)
      · skip
        refine e_aload (pc := 66) dX6_copy_66 rfl ?_
        refine e_iloadn (pc := 68) dX6_copy_68 rfl ?_
        refine e_iload (pc := 69) dX6_copy_69 rfl ?_
        refine e_cvD (pc := 71) (sp_x_hasRun hk) dX6_copy_71 kX6_338 (WW_sh hk) rfl rfl rfl rfl (mc_CR_of (Nat.le_of_ble_eq_true rfl) (Nat.le_of_ble_eq_true rfl) (Nat.le_refl _) (Nat.le_refl _)) (Nat.le_of_ble_eq_true rfl) ?_
        refine e_if_eq (pc := 74) dX6_copy_74 (t := 89) (by decide) (fun c_74 => ?_) (fun c_74 => ?_)
        · skip
          refine e_bipush (v := -12) (pc := 89) dX6_copy_89 (by decide) ?_
          exact e_iret (pc := 91) dX6_copy_91 rfl (Nat.le_refl _) (Nat.le_refl _) (have e : xcyr s k p i j g = -12 := (by unfold xcyr; rw [if_neg (show ¬ xmis s k = true by rw [show xmis s k = false from mc_b0.mp c_36]; decide), if_neg (show ¬ xmis s p = true by rw [show xmis s p = false from mc_b0.mp c_44]; decide), if_neg (show ¬ ¬ s (11 + 2 * k) = s (11 + 2 * p) from fun q => q c_60), if_pos (mc_b0.mp c_74)]); ⟨by rw [(xcy_no (a := a) e (by decide)).1], by rw [(xcy_no (a := a) e (by decide)).2]⟩)
        · skip
          refine e_aload (pc := 77) dX6_copy_77 rfl ?_
          refine e_iload (pc := 79) dX6_copy_79 rfl ?_
          refine e_iload (pc := 81) dX6_copy_81 rfl ?_
          refine e_cvD (pc := 83) (sp_x_hasRun hp) dX6_copy_83 kX6_338 (WW_sh hp) rfl rfl rfl rfl (mc_CR_of (Nat.le_of_ble_eq_true rfl) (Nat.le_of_ble_eq_true rfl) (Nat.le_refl _) (Nat.le_refl _)) (Nat.le_of_ble_eq_true rfl) ?_
          refine e_if_ne (pc := 86) dX6_copy_86 (t := 92) (by decide) (fun c_86 => ?_) (fun c_86 => ?_)
          · skip
            refine e_aload (pc := 92) dX6_copy_92 rfl ?_
            refine e_aload (pc := 94) dX6_copy_94 rfl ?_
            refine e_iloadn (pc := 96) dX6_copy_96 rfl ?_
            refine e_iload (pc := 97) dX6_copy_97 rfl ?_
            refine e_iload (pc := 99) dX6_copy_99 rfl ?_
            refine e_cvU (pc := 101) (sp_x_copyTo hk hp hL hS (mc_b1.mp c_74) (mc_b1.mp c_86)) dX6_copy_101 kX6_341 (WW_sh hk) rfl rfl rfl rfl (mc_CR_of (Nat.le_of_ble_eq_true rfl) (Nat.le_of_ble_eq_true rfl) (Nat.le_refl _) (Nat.le_refl _)) (Nat.le_of_ble_eq_true rfl) ?_
            refine e_iload (pc := 104) dX6_copy_104 rfl ?_
            exact e_iret (pc := 106) dX6_copy_106 rfl (Nat.le_refl _) (Nat.le_refl _) (have e : xcyr s k p i j g = 0 := (by unfold xcyr; rw [if_neg (show ¬ xmis s k = true by rw [show xmis s k = false from mc_b0.mp c_36]; decide), if_neg (show ¬ xmis s p = true by rw [show xmis s p = false from mc_b0.mp c_44]; decide), if_neg (show ¬ ¬ s (11 + 2 * k) = s (11 + 2 * p) from fun q => q c_60), if_neg (show ¬ xrun i g (s (12 + 2 * k)) = false by rw [mc_b1.mp c_74]; decide), if_neg (show ¬ xrun j g (s (12 + 2 * p)) = false by rw [mc_b1.mp c_86]; decide)]); ⟨by unfold xcy1; rw [if_pos e], by unfold xcya; rw [if_pos e]⟩)
          · skip
            refine e_bipush (v := -12) (pc := 89) dX6_copy_89 (by decide) ?_
            exact e_iret (pc := 91) dX6_copy_91 rfl (Nat.le_refl _) (Nat.le_refl _) (have e : xcyr s k p i j g = -12 := (by unfold xcyr; rw [if_neg (show ¬ xmis s k = true by rw [show xmis s k = false from mc_b0.mp c_36]; decide), if_neg (show ¬ xmis s p = true by rw [show xmis s p = false from mc_b0.mp c_44]; decide), if_neg (show ¬ ¬ s (11 + 2 * k) = s (11 + 2 * p) from fun q => q c_60), if_neg (show ¬ xrun i g (s (12 + 2 * k)) = false by rw [mc_b1.mp c_74]; decide), if_pos (mc_b0.mp c_86)]); ⟨by rw [(xcy_no (a := a) e (by decide)).1], by rw [(xcy_no (a := a) e (by decide)).2]⟩)
      · skip
        refine e_bipush (v := -13) (pc := 63) dX6_copy_63 (by decide) ?_
        exact e_iret (pc := 65) dX6_copy_65 rfl (Nat.le_refl _) (Nat.le_refl _) (have e : xcyr s k p i j g = -13 := (by unfold xcyr; rw [if_neg (show ¬ xmis s k = true by rw [show xmis s k = false from mc_b0.mp c_36]; decide), if_neg (show ¬ xmis s p = true by rw [show xmis s p = false from mc_b0.mp c_44]; decide), if_pos (show ¬ s (11 + 2 * k) = s (11 + 2 * p) from c_60)]); ⟨by rw [(xcy_no (a := a) e (by decide)).1], by rw [(xcy_no (a := a) e (by decide)).2]⟩)
    · skip
      refine e_bipush (v := -11) (pc := 47) dX6_copy_47 (by decide) ?_
      exact e_iret (pc := 49) dX6_copy_49 rfl (Nat.le_refl _) (Nat.le_refl _) (have e : xcyr s k p i j g = -11 := (by unfold xcyr; rw [if_neg (show ¬ xmis s k = true by rw [show xmis s k = false from mc_b0.mp c_36]; decide), if_pos (show xmis s p = true from mc_b1.mp c_44)]); ⟨by rw [(xcy_no (a := a) e (by decide)).1], by rw [(xcy_no (a := a) e (by decide)).2]⟩)
theorem sp_x_copy0 {s u m n : Nat → Int32} {a c b d : Nat → List Int32} {q : List (Option Nat)} {h : Nat} {z : mc_W} {x0 x1 i j g : Int32} (hv : (mc_wi x0 0 3 && mc_wi x1 0 3) = false) : mc_D yX6_copy cX6_copy 8 (some .int) 3 [.ref 0, .int x0, .int i, .int x1, .int j, .int g] (WW s a q u c h m b n d z) (some (.int (-2))) (WW s a q u c h m b n d z) := by
  refine mc_start (own := RX6) (ini := false) rfl (by decide +kernel) (fun h => by cases h) (Nat.le_of_ble_eq_true rfl) ?_
  show mc_E _ _ _ _ _ [some (.ref 0), some (.int x0), some (.int i), some (.int x1), some (.int j), some (.int g), none, none] [] _ _ _
  refine e_iloadn (pc := 0) dX6_copy_0 rfl ?_
  refine e_csD (pc := 1) (sp_isSheet) dX6_copy_1 kX6_289 rfl rfl (mc_CR_of (Nat.le_of_ble_eq_true rfl) (Nat.le_of_ble_eq_true rfl) (Nat.le_refl _) (Nat.le_refl _)) (Nat.le_of_ble_eq_true rfl) ?_
  refine e_if_eq (pc := 4) dX6_copy_4 (t := 14) (by decide) (fun c_4 => ?_) (fun c_4 => ?_)
  · skip
    refine e_bipush (v := -2) (pc := 14) dX6_copy_14 (by decide) ?_
    exact e_iret (pc := 16) dX6_copy_16 rfl (Nat.le_refl _) (Nat.le_refl _) ⟨rfl, rfl⟩
  · skip
    refine e_iloadn (pc := 7) dX6_copy_7 rfl ?_
    refine e_csD (pc := 8) (sp_isSheet) dX6_copy_8 kX6_289 rfl rfl (mc_CR_of (Nat.le_of_ble_eq_true rfl) (Nat.le_of_ble_eq_true rfl) (Nat.le_refl _) (Nat.le_refl _)) (Nat.le_of_ble_eq_true rfl) ?_
    refine e_if_ne (pc := 11) dX6_copy_11 (t := 17) (by decide) (fun c_11 => ?_) (fun c_11 => ?_)
    · skip
      simp only [mc_b0, mc_b1, Bool.not_eq_false] at *
      simp_all
    · skip
      refine e_bipush (v := -2) (pc := 14) dX6_copy_14 (by decide) ?_
      exact e_iret (pc := 16) dX6_copy_16 rfl (Nat.le_refl _) (Nat.le_refl _) ⟨rfl, rfl⟩
theorem ckm_o {s : Nat → Int32} {k mo : Int32} {i : Nat} (h : i ≠ 2) : yy_ckm s k mo i = s i := by
  unfold yy_ckm
  split
  · exact upn h
  · rfl
theorem ckb_o {s : Nat → Int32} {a : Nat → List Int32} {k mo : Int32} {i : Nat} (h0 : i ≠ 0) (h1 : i ≠ 1) : yy_ckb s a k mo i = a i := by
  unfold yy_ckb
  split
  · rw [upn h1, upn h0]
  · rfl
theorem ckb_len {s : Nat → Int32} {a : Nat → List Int32} {k mo : Int32} (h : xL a) : xL (yy_ckb s a k mo) := by
  obtain ⟨l0, l1, l2, l3, l4, l5⟩ := h
  refine ⟨?_, ?_, ?_, ?_, ?_, fun p hp => ?_⟩
  · unfold yy_ckb; split
    · show ((a 0).set _ _).length = 5; rw [List.length_set]; exact l0
    · exact l0
  · unfold yy_ckb; split
    · show ((a 1).set _ _).length = 5; rw [List.length_set]; exact l1
    · exact l1
  · rw [ckb_o (by omega) (by omega)]; exact l2
  · rw [ckb_o (by omega) (by omega)]; exact l3
  · rw [ckb_o (by omega) (by omega)]; exact l4
  · rw [ckb_o (by omega) (by omega)]; exact l5 p hp
def xpl (fr : Int32) (i : Nat) : Int32 := fr + 2 * nI i
def xcb (k : Nat) (fr : Int32) : Nat → Nat → Int32 → (Nat → Int32) → (Nat → List Int32) → Int32 × (Nat → Int32) × (Nat → List Int32)
  | 0, _, S, s, a => (S, s, a)
  | g + 1, i, S, s, a => if xhas (fr + 2 * nI i) (s (12 + 2 * k)) = false ∨ xhas (fr + 2 * nI i + 1) (s (12 + 2 * k)) = false then (-12, s, a)
      else xcb k fr g (i + 1) (S + (if yy_ck1 s (xat a s k (fr + 2 * nI i)) (xat a s k (fr + 2 * nI i + 1)) < 0 then 0 else 1)) (yy_ckm s (xat a s k (fr + 2 * nI i)) (xat a s k (fr + 2 * nI i + 1))) (yy_ckb s a (xat a s k (fr + 2 * nI i)) (xat a s k (fr + 2 * nI i + 1)))
def xcby (s : Nat → Int32) (a : Nat → List Int32) (k : Nat) (so fr n : Int32) : Int32 × (Nat → Int32) × (Nat → List Int32) :=
  if (mc_wi so 0 2 && mc_wi n 0 5) = false then (-2, s, a) else if xmis s k = true then (-11, s, a) else if ¬ s (11 + 2 * k) = so then (-13, s, a) else xcb k fr n.toNatClampNeg 0 0 s a
theorem lp_x_cb {u m n : Nat → Int32} {c b d : Nat → List Int32} {q : List (Option Nat)} {h : Nat} {z : mc_W} {k N : Nat} {so fr : Int32} {V : Int32 × (Nat → Int32) × (Nat → List Int32)} (hk : k < 4) (hN : N ≤ 5) :
    ∀ (f i : Nat) (S : Int32) (s : Nat → Int32) (a : Nat → List Int32) (x8 : Option Value), xL a → yC s → i + f = N → xcb k fr f i S s a = V →
      mc_E RX6 cX6_clerksBy 9 (mc_JM (some .int) false 5 0 0 (fun r' w' => r' = some (.int V.1) ∧ w' = (WW V.2.1 V.2.2 q u c h m b n d z))) 65 [some (.ref 0), some (.int (nI k)), some (.int so), some (.int fr), some (.int (nI N)), some (.ref (21 + 2 * k)), some (.int S), some (.int (nI i)), x8] [] (WW s a q u c h m b n d z) 0 0 := by
  intro f
  induction f with
  | zero =>
    intro i S s a x8 hL hC hi hV
    have e : i = N := by omega
    subst e
    simp only [xcb] at hV
    subst hV
    refine e_iload (pc := 65) dX6_clerksBy_65 rfl ?_
    refine e_iload (pc := 67) dX6_clerksBy_67 rfl ?_
    refine e_icmp_ge (pc := 69) dX6_clerksBy_69 (t := 137) (by decide) (fun _ => ?_) (fun c_69 => absurd (nI_le (Nat.le_refl _) (by omega)) c_69)
    refine e_iload (pc := 137) dX6_clerksBy_137 rfl ?_
    exact e_iret (pc := 139) dX6_clerksBy_139 rfl (Nat.le_refl _) (Nat.le_refl _) ⟨rfl, rfl⟩
  | succ f ih =>
    intro i S s a x8 hL hC hi hV
    simp only [xcb] at hV
    refine e_iload (pc := 65) dX6_clerksBy_65 rfl ?_
    refine e_iload (pc := 67) dX6_clerksBy_67 rfl ?_
    refine e_icmp_ge (pc := 69) dX6_clerksBy_69 (t := 137) (by decide) (fun c_69 => absurd c_69 (nI_ge (by omega) (by omega))) (fun _ => ?_)
    refine e_iloadn (pc := 72) dX6_clerksBy_72 rfl ?_
    refine e_iconst (v := 2) (pc := 73) dX6_clerksBy_73 (by decide) ?_
    refine e_iload (pc := 74) dX6_clerksBy_74 rfl ?_
    refine e_imul (pc := 76) dX6_clerksBy_76 ?_
    refine e_iadd (pc := 77) dX6_clerksBy_77 ?_
    refine e_isw8 (pc := 78) dX6_clerksBy_78 (Nat.le_of_ble_eq_true rfl) rfl ?_
    refine e_aload (pc := 80) dX6_clerksBy_80 rfl ?_
    refine e_iload (pc := 82) dX6_clerksBy_82 rfl ?_
    refine e_cvD (pc := 84) (sp_x_has hk hL) dX6_clerksBy_84 kX6_329 (WW_sh hk) rfl rfl rfl rfl (mc_CR_of (Nat.le_of_ble_eq_true rfl) (Nat.le_of_ble_eq_true rfl) (Nat.le_refl _) (Nat.le_refl _)) (Nat.le_of_ble_eq_true rfl) ?_
    refine e_if_eq (pc := 87) dX6_clerksBy_87 (t := 102) (by decide) (fun c_87 => ?_) (fun c_87 => ?_)
    · skip
      refine e_bipush (v := -12) (pc := 102) dX6_clerksBy_102 (by decide) ?_
      exact e_iret (pc := 104) dX6_clerksBy_104 rfl (Nat.le_refl _) (Nat.le_refl _) ⟨by rw [← hV, if_pos (Or.inl (mc_b0.mp c_87))], by rw [← hV, if_pos (Or.inl (mc_b0.mp c_87))]⟩
    · skip
      refine e_aload (pc := 90) dX6_clerksBy_90 rfl ?_
      refine e_iload (pc := 92) dX6_clerksBy_92 rfl ?_
      refine e_iconst (v := 1) (pc := 94) dX6_clerksBy_94 (by decide) ?_
      refine e_iadd (pc := 95) dX6_clerksBy_95 ?_
      refine e_cvD (pc := 96) (sp_x_has hk hL) dX6_clerksBy_96 kX6_329 (WW_sh hk) rfl rfl rfl rfl (mc_CR_of (Nat.le_of_ble_eq_true rfl) (Nat.le_of_ble_eq_true rfl) (Nat.le_refl _) (Nat.le_refl _)) (Nat.le_of_ble_eq_true rfl) ?_
      refine e_if_ne (pc := 99) dX6_clerksBy_99 (t := 105) (by decide) (fun c_99 => ?_) (fun c_99 => ?_)
      · skip
        refine e_aloadn (pc := 105) dX6_clerksBy_105 rfl ?_
        refine e_aload (pc := 106) dX6_clerksBy_106 rfl ?_
        refine e_iload (pc := 108) dX6_clerksBy_108 rfl ?_
        refine e_cvD (pc := 110) (sp_x_at hk hL) dX6_clerksBy_110 kX6_199 (WW_sh hk) rfl rfl rfl rfl (mc_CR_of (Nat.le_of_ble_eq_true rfl) (Nat.le_of_ble_eq_true rfl) (Nat.le_refl _) (Nat.le_refl _)) (Nat.le_of_ble_eq_true rfl) ?_
        refine e_aload (pc := 113) dX6_clerksBy_113 rfl ?_
        refine e_iload (pc := 115) dX6_clerksBy_115 rfl ?_
        refine e_iconst (v := 1) (pc := 117) dX6_clerksBy_117 (by decide) ?_
        refine e_iadd (pc := 118) dX6_clerksBy_118 ?_
        refine e_cvD (pc := 119) (sp_x_at hk hL) dX6_clerksBy_119 kX6_199 (WW_sh hk) rfl rfl rfl rfl (mc_CR_of (Nat.le_of_ble_eq_true rfl) (Nat.le_of_ble_eq_true rfl) (Nat.le_refl _) (Nat.le_refl _)) (Nat.le_of_ble_eq_true rfl) ?_
        refine e_cvD (pc := 122) (sp_x_clerk hL hC) dX6_clerksBy_122 kX6_345 rfl rfl rfl rfl rfl (mc_CR_of (Nat.le_of_ble_eq_true rfl) (Nat.le_of_ble_eq_true rfl) (Nat.le_refl _) (Nat.le_refl _)) (Nat.le_of_ble_eq_true rfl) ?_
        refine e_if_lt (pc := 125) dX6_clerksBy_125 (t := 131) (by decide) (fun c_125 => ?_) (fun c_125 => ?_)
        · skip
          refine e_incC7 (pc := 131) dX6_clerksBy_131 (nI_1 i) (Nat.le_of_ble_eq_true rfl) rfl ?_
          refine e_goto (pc := 134) dX6_clerksBy_134 (t := 65) (by decide) ?_
          exact ih (i + 1) S _ _ _ (ckb_len hL) (yC_ck hC) (by omega) (by rw [← hV, if_neg (fun q => q.elim (fun r => absurd (mc_b1.mp c_87) (by rw [r]; decide)) (fun r => absurd (mc_b1.mp c_99) (by rw [r]; decide))), if_pos c_125, Int32.add_zero])
        · skip
          refine e_incC6 (pc := 128) dX6_clerksBy_128 (show S + Int32.ofInt 1 = S + 1 from rfl) (Nat.le_of_ble_eq_true rfl) rfl ?_
          refine e_incC7 (pc := 131) dX6_clerksBy_131 (nI_1 i) (Nat.le_of_ble_eq_true rfl) rfl ?_
          refine e_goto (pc := 134) dX6_clerksBy_134 (t := 65) (by decide) ?_
          exact ih (i + 1) (S + 1) _ _ _ (ckb_len hL) (yC_ck hC) (by omega) (by rw [← hV, if_neg (fun q => q.elim (fun r => absurd (mc_b1.mp c_87) (by rw [r]; decide)) (fun r => absurd (mc_b1.mp c_99) (by rw [r]; decide))), if_neg c_125])
      · skip
        refine e_bipush (v := -12) (pc := 102) dX6_clerksBy_102 (by decide) ?_
        exact e_iret (pc := 104) dX6_clerksBy_104 rfl (Nat.le_refl _) (Nat.le_refl _) ⟨by rw [← hV, if_pos (Or.inr (mc_b0.mp c_99))], by rw [← hV, if_pos (Or.inr (mc_b0.mp c_99))]⟩
theorem sp_x_clerksBy {s u m n : Nat → Int32} {a c b d : Nat → List Int32} {q : List (Option Nat)} {h : Nat} {z : mc_W} {k : Nat} (hk : k < 4) (hL : xL a) (hC : yC s) {so fr g : Int32} : mc_D yX6_clerksBy cX6_clerksBy 9 (some .int) 5 [.ref 0, .int (nI k), .int so, .int fr, .int g] (WW s a q u c h m b n d z) (some (.int (xcby s a k so fr g).1)) (WW (xcby s a k so fr g).2.1 (xcby s a k so fr g).2.2 q u c h m b n d z) := by
  refine mc_start (own := RX6) (ini := false) rfl (by decide +kernel) (fun h => by cases h) (Nat.le_of_ble_eq_true rfl) ?_
  show mc_E _ _ _ _ _ [some (.ref 0), some (.int (nI k)), some (.int so), some (.int fr), some (.int g), none, none, none, none] [] _ _ _
  refine e_iloadn (pc := 0) dX6_clerksBy_0 rfl ?_
  refine e_csD (pc := 1) (sp_isSheet) dX6_clerksBy_1 kX6_289 rfl rfl (mc_CR_of (Nat.le_of_ble_eq_true rfl) (Nat.le_of_ble_eq_true rfl) (Nat.le_refl _) (Nat.le_refl _)) (Nat.le_of_ble_eq_true rfl) ?_
  refine e_if_eq (pc := 4) dX6_clerksBy_4 (t := 26) (by decide) (fun c_4 => absurd c_4 (mc_b1.mpr (wi_nk hk))) (fun _ => ?_)
  refine e_iloadn (pc := 7) dX6_clerksBy_7 rfl ?_
  refine e_iconst (v := 0) (pc := 8) dX6_clerksBy_8 (by decide) ?_
  refine e_iconst (v := 2) (pc := 9) dX6_clerksBy_9 (by decide) ?_
  refine e_csD (pc := 10) (sp_isWithin) dX6_clerksBy_10 kX6_86 rfl rfl (mc_CR_of (Nat.le_of_ble_eq_true rfl) (Nat.le_of_ble_eq_true rfl) (Nat.le_refl _) (Nat.le_refl _)) (Nat.le_of_ble_eq_true rfl) ?_
  refine e_if_eq (pc := 13) dX6_clerksBy_13 (t := 26) (by decide) (fun c_13 => ?_) (fun c_13 => ?_)
  · skip
    refine e_bipush (v := -2) (pc := 26) dX6_clerksBy_26 (by decide) ?_
    exact e_iret (pc := 28) dX6_clerksBy_28 rfl (Nat.le_refl _) (Nat.le_refl _) (have e : xcby s a k so fr g = (-2, s, a) := (by unfold xcby; rw [if_pos (by rw [mc_b0.mp c_13]; simp)]); ⟨by rw [e], by rw [e]⟩)
  · skip
    refine e_iload (pc := 16) dX6_clerksBy_16 rfl ?_
    refine e_iconst (v := 0) (pc := 18) dX6_clerksBy_18 (by decide) ?_
    refine e_iconst (v := 5) (pc := 19) dX6_clerksBy_19 (by decide) ?_
    refine e_csD (pc := 20) (sp_isWithin) dX6_clerksBy_20 kX6_86 rfl rfl (mc_CR_of (Nat.le_of_ble_eq_true rfl) (Nat.le_of_ble_eq_true rfl) (Nat.le_refl _) (Nat.le_refl _)) (Nat.le_of_ble_eq_true rfl) ?_
    refine e_if_ne (pc := 23) dX6_clerksBy_23 (t := 29) (by decide) (fun c_23 => ?_) (fun c_23 => ?_)
    · skip
      refine e_aloadn (pc := 29) dX6_clerksBy_29 rfl ?_
      refine e_iloadn (pc := 30) dX6_clerksBy_30 rfl ?_
      refine e_cvD (pc := 31) (sp_x_sheetAt hk) dX6_clerksBy_31 kX6_171 rfl rfl rfl rfl rfl (mc_CR_of (Nat.le_of_ble_eq_true rfl) (Nat.le_of_ble_eq_true rfl) (Nat.le_refl _) (Nat.le_refl _)) (Nat.le_of_ble_eq_true rfl) ?_
      refine e_asw5 (pc := 34) dX6_clerksBy_34 (Nat.le_of_ble_eq_true rfl) rfl ?_
      refine e_aload (pc := 36) dX6_clerksBy_36 rfl ?_
      refine e_cvD (pc := 38) (sp_x_missing hk) dX6_clerksBy_38 kX6_332 (WW_sh hk) rfl rfl rfl rfl (mc_CR_of (Nat.le_of_ble_eq_true rfl) (Nat.le_of_ble_eq_true rfl) (Nat.le_refl _) (Nat.le_refl _)) (Nat.le_of_ble_eq_true rfl) ?_
      refine e_if_eq (pc := 41) dX6_clerksBy_41 (t := 47) (by decide) (fun c_41 => ?_) (fun c_41 => ?_)
      · skip
        refine e_aload (pc := 47) dX6_clerksBy_47 rfl ?_
        refine e_cvD (pc := 49) (sp_x_sort hk) dX6_clerksBy_49 kX6_335 (WW_sh hk) rfl rfl rfl rfl (mc_CR_of (Nat.le_of_ble_eq_true rfl) (Nat.le_of_ble_eq_true rfl) (Nat.le_refl _) (Nat.le_refl _)) (Nat.le_of_ble_eq_true rfl) ?_
        refine e_iloadn (pc := 52) dX6_clerksBy_52 rfl ?_
        refine e_icmp_eq (pc := 53) dX6_clerksBy_53 (t := 59) (by decide) (fun c_53 => ?_) (fun c_53 => ?_)
        · skip
          refine e_iconst (v := 0) (pc := 59) dX6_clerksBy_59 (by decide) ?_
          refine e_isw6 (pc := 60) dX6_clerksBy_60 (Nat.le_of_ble_eq_true rfl) rfl ?_
          refine e_iconst (v := 0) (pc := 62) dX6_clerksBy_62 (by decide) ?_
          refine e_isw7 (pc := 63) dX6_clerksBy_63 (Nat.le_of_ble_eq_true rfl) rfl ?_
          have q1 : mc_wi so 0 2 = true := by simpa [mc_b0] using c_13
          have q2 := mc_b1.mp c_23
          have e : xcby s a k so fr g = xcb k fr g.toNatClampNeg 0 0 s a := by unfold xcby; rw [if_neg (show ¬ (mc_wi so 0 2 && mc_wi g 0 5) = false by rw [q1, q2]; decide), if_neg (show ¬ xmis s k = true by rw [show xmis s k = false from mc_b0.mp c_41]; decide), if_neg (show ¬ ¬ s (11 + 2 * k) = so from fun q => q c_53)]
          rw [e]
          have hb := mc_wi_iff.mp q2
          rw [i0, show (5 : Int32).toInt = 5 from rfl] at hb
          obtain ⟨N, hN⟩ : ∃ N, g.toNatClampNeg = N := ⟨_, rfl⟩
          have t := tnc hb.1
          have ey : g = nI N := by rw [← hN]; exact nI_back hb.1
          rw [hN]
          clear e
          subst ey
          exact lp_x_cb hk (by omega) N 0 0 s a _ hL hC (by omega) rfl
        · skip
          refine e_bipush (v := -13) (pc := 56) dX6_clerksBy_56 (by decide) ?_
          exact e_iret (pc := 58) dX6_clerksBy_58 rfl (Nat.le_refl _) (Nat.le_refl _) (have e : xcby s a k so fr g = (-13, s, a) := (by unfold xcby; rw [if_neg (show ¬ (mc_wi so 0 2 && mc_wi g 0 5) = false by simp only [mc_b0, mc_b1, Bool.not_eq_false] at *; simp_all), if_neg (show ¬ xmis s k = true by rw [show xmis s k = false from mc_b0.mp c_41]; decide), if_pos (show ¬ s (11 + 2 * k) = so from c_53)]); ⟨by rw [e], by rw [e]⟩)
      · skip
        refine e_bipush (v := -11) (pc := 44) dX6_clerksBy_44 (by decide) ?_
        exact e_iret (pc := 46) dX6_clerksBy_46 rfl (Nat.le_refl _) (Nat.le_refl _) (have e : xcby s a k so fr g = (-11, s, a) := (by unfold xcby; rw [if_neg (show ¬ (mc_wi so 0 2 && mc_wi g 0 5) = false by simp only [mc_b0, mc_b1, Bool.not_eq_false] at *; simp_all), if_pos (show xmis s k = true from mc_b1.mp c_41)]); ⟨by rw [e], by rw [e]⟩)
    · skip
      refine e_bipush (v := -2) (pc := 26) dX6_clerksBy_26 (by decide) ?_
      exact e_iret (pc := 28) dX6_clerksBy_28 rfl (Nat.le_refl _) (Nat.le_refl _) (have e : xcby s a k so fr g = (-2, s, a) := (by unfold xcby; rw [if_pos (by rw [mc_b0.mp c_23]; simp)]); ⟨by rw [e], by rw [e]⟩)
theorem sp_x_clerksBy0 {s u m n : Nat → Int32} {a c b d : Nat → List Int32} {q : List (Option Nat)} {h : Nat} {z : mc_W} {x0 so fr g : Int32} (hv : mc_wi x0 0 3 = false) : mc_D yX6_clerksBy cX6_clerksBy 9 (some .int) 3 [.ref 0, .int x0, .int so, .int fr, .int g] (WW s a q u c h m b n d z) (some (.int (-2))) (WW s a q u c h m b n d z) := by
  refine mc_start (own := RX6) (ini := false) rfl (by decide +kernel) (fun h => by cases h) (Nat.le_of_ble_eq_true rfl) ?_
  show mc_E _ _ _ _ _ [some (.ref 0), some (.int x0), some (.int so), some (.int fr), some (.int g), none, none, none, none] [] _ _ _
  refine e_iloadn (pc := 0) dX6_clerksBy_0 rfl ?_
  refine e_csD (pc := 1) (sp_isSheet) dX6_clerksBy_1 kX6_289 rfl rfl (mc_CR_of (Nat.le_of_ble_eq_true rfl) (Nat.le_of_ble_eq_true rfl) (Nat.le_refl _) (Nat.le_refl _)) (Nat.le_of_ble_eq_true rfl) ?_
  refine e_if_eq (pc := 4) dX6_clerksBy_4 (t := 26) (by decide) (fun _ => ?_) (fun c_4 => absurd (by rw [mc_b0.mpr hv]) c_4)
  refine e_bipush (v := -2) (pc := 26) dX6_clerksBy_26 (by decide) ?_
  exact e_iret (pc := 28) dX6_clerksBy_28 rfl (Nat.le_refl _) (Nat.le_refl _) ⟨rfl, rfl⟩
