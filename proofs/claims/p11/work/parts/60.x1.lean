/-! ===== the class: its small questions; what its numbers and rows are beside the other side's ===== -/
/-- the other side's numbers, read off the class's -/
def Ms (s : Nat → Int32) : Nat → Int32 := fun k => match k with
  | 0 => s 0 | 1 => s 1 | 2 => s 2 | 3 => s 5 | 4 => s 3 | 5 => s 4 | 6 => s 6 | 7 => s 9 | 8 => s 7 | 9 => s 8 | 10 => s 10 | _ => 0
/-- the other side's rows, read off the class's; its tape, codes and starts are its own -/
def Bs (s : Nat → Int32) (a : Nat → List Int32) (t3 t4 t5 : List Int32) : Nat → List Int32 := fun k => match k with
  | 0 => a 0 | 1 => a 1 | 2 => a 3 | 3 => t3 | 4 => t4 | 5 => t5 | 6 => a 4 | 7 => [s 11, s 13, s 15, s 17] | 8 => [s 12, s 14, s 16, s 18] | 9 => a 5 ++ (a 6 ++ (a 7 ++ a 8)) | _ => []
theorem sp_isWithin {w : mc_W} {v lo hi : Int32} : mc_D yX6_isWithin cX6_isWithin 3 (some .boolean) 1 [.int v, .int lo, .int hi] w (some (.int (mc_b (mc_wi v lo hi)))) w := by
  refine mc_start (own := RX6) (ini := false) rfl (by decide +kernel) (fun h => by cases h) (Nat.le_of_ble_eq_true rfl) ?_
  show mc_E _ _ _ _ _ [some (.int v), some (.int lo), some (.int hi)] [] _ _ _
  refine e_iloadn (pc := 0) dX6_isWithin_0 rfl ?_
  refine e_iloadn (pc := 1) dX6_isWithin_1 rfl ?_
  refine e_icmp_lt (pc := 2) dX6_isWithin_2 (t := 14) (by decide) (fun c_2 => ?_) (fun c_2 => ?_)
  · skip
    refine e_iconst (v := 0) (pc := 14) dX6_isWithin_14 (by decide) ?_
    exact e_zret (pc := 15) dX6_isWithin_15 rfl (by rfl) (Nat.le_refl _) (Nat.le_refl _) ⟨by first | rw [mc_wi_lt (by assumption)]; rfl | rw [mc_wi_gt (by assumption)]; rfl | rw [mc_wi_in (by assumption) (by assumption)]; rfl, rfl⟩
  · skip
    refine e_iloadn (pc := 5) dX6_isWithin_5 rfl ?_
    refine e_iloadn (pc := 6) dX6_isWithin_6 rfl ?_
    refine e_icmp_gt (pc := 7) dX6_isWithin_7 (t := 14) (by decide) (fun c_7 => ?_) (fun c_7 => ?_)
    · skip
      refine e_iconst (v := 0) (pc := 14) dX6_isWithin_14 (by decide) ?_
      exact e_zret (pc := 15) dX6_isWithin_15 rfl (by rfl) (Nat.le_refl _) (Nat.le_refl _) ⟨by first | rw [mc_wi_lt (by assumption)]; rfl | rw [mc_wi_gt (by assumption)]; rfl | rw [mc_wi_in (by assumption) (by assumption)]; rfl, rfl⟩
    · skip
      refine e_iconst (v := 1) (pc := 10) dX6_isWithin_10 (by decide) ?_
      refine e_goto (pc := 11) dX6_isWithin_11 (t := 15) (by decide) ?_
      exact e_zret (pc := 15) dX6_isWithin_15 rfl (by rfl) (Nat.le_refl _) (Nat.le_refl _) ⟨by first | rw [mc_wi_lt (by assumption)]; rfl | rw [mc_wi_gt (by assumption)]; rfl | rw [mc_wi_in (by assumption) (by assumption)]; rfl, rfl⟩
theorem sp_isNumber {w : mc_W} {v : Int32} : mc_D yX6_isNumber cX6_isNumber 1 (some .boolean) 2 [.int v] w (some (.int (mc_b (mc_wi v 0 99999)))) w := by
  refine mc_start (own := RX6) (ini := false) rfl (by decide +kernel) (fun h => by cases h) (Nat.le_of_ble_eq_true rfl) ?_
  show mc_E _ _ _ _ _ [some (.int v)] [] _ _ _
  refine e_iloadn (pc := 0) dX6_isNumber_0 rfl ?_
  refine e_iconst (v := 0) (pc := 1) dX6_isNumber_1 (by decide) ?_
  refine e_ldcw (pc := 2) dX6_isNumber_2 qX6_354 ?_
  refine e_csD (pc := 5) (sp_isWithin) dX6_isNumber_5 kX6_86 rfl rfl (mc_CR_of (Nat.le_of_ble_eq_true rfl) (Nat.le_of_ble_eq_true rfl) (Nat.le_refl _) (Nat.le_refl _)) (Nat.le_of_ble_eq_true rfl) ?_
  exact e_zret (pc := 8) dX6_isNumber_8 rfl (by exact mc_bnar) (Nat.le_refl _) (Nat.le_refl _) ⟨rfl, rfl⟩
theorem sp_isByte {w : mc_W} {v : Int32} : mc_D yX6_isByte cX6_isByte 1 (some .boolean) 2 [.int v] w (some (.int (mc_b (mc_wi v 0 255)))) w := by
  refine mc_start (own := RX6) (ini := false) rfl (by decide +kernel) (fun h => by cases h) (Nat.le_of_ble_eq_true rfl) ?_
  show mc_E _ _ _ _ _ [some (.int v)] [] _ _ _
  refine e_iloadn (pc := 0) dX6_isByte_0 rfl ?_
  refine e_iconst (v := 0) (pc := 1) dX6_isByte_1 (by decide) ?_
  refine e_sipush (v := 255) (pc := 2) dX6_isByte_2 (by decide) ?_
  refine e_csD (pc := 5) (sp_isWithin) dX6_isByte_5 kX6_86 rfl rfl (mc_CR_of (Nat.le_of_ble_eq_true rfl) (Nat.le_of_ble_eq_true rfl) (Nat.le_refl _) (Nat.le_refl _)) (Nat.le_of_ble_eq_true rfl) ?_
  exact e_zret (pc := 8) dX6_isByte_8 rfl (by exact mc_bnar) (Nat.le_refl _) (Nat.le_refl _) ⟨rfl, rfl⟩
theorem sp_isFolk {w : mc_W} {v : Int32} : mc_D yX6_isFolk cX6_isFolk 1 (some .boolean) 2 [.int v] w (some (.int (mc_b (mc_wi v 0 5)))) w := by
  refine mc_start (own := RX6) (ini := false) rfl (by decide +kernel) (fun h => by cases h) (Nat.le_of_ble_eq_true rfl) ?_
  show mc_E _ _ _ _ _ [some (.int v)] [] _ _ _
  refine e_iloadn (pc := 0) dX6_isFolk_0 rfl ?_
  refine e_iconst (v := 0) (pc := 1) dX6_isFolk_1 (by decide) ?_
  refine e_iconst (v := 5) (pc := 2) dX6_isFolk_2 (by decide) ?_
  refine e_csD (pc := 3) (sp_isWithin) dX6_isFolk_3 kX6_86 rfl rfl (mc_CR_of (Nat.le_of_ble_eq_true rfl) (Nat.le_of_ble_eq_true rfl) (Nat.le_refl _) (Nat.le_refl _)) (Nat.le_of_ble_eq_true rfl) ?_
  exact e_zret (pc := 6) dX6_isFolk_6 rfl (by exact mc_bnar) (Nat.le_refl _) (Nat.le_refl _) ⟨rfl, rfl⟩
theorem sp_isSheet {w : mc_W} {v : Int32} : mc_D yX6_isSheet cX6_isSheet 1 (some .boolean) 2 [.int v] w (some (.int (mc_b (mc_wi v 0 3)))) w := by
  refine mc_start (own := RX6) (ini := false) rfl (by decide +kernel) (fun h => by cases h) (Nat.le_of_ble_eq_true rfl) ?_
  show mc_E _ _ _ _ _ [some (.int v)] [] _ _ _
  refine e_iloadn (pc := 0) dX6_isSheet_0 rfl ?_
  refine e_iconst (v := 0) (pc := 1) dX6_isSheet_1 (by decide) ?_
  refine e_iconst (v := 3) (pc := 2) dX6_isSheet_2 (by decide) ?_
  refine e_csD (pc := 3) (sp_isWithin) dX6_isSheet_3 kX6_86 rfl rfl (mc_CR_of (Nat.le_of_ble_eq_true rfl) (Nat.le_of_ble_eq_true rfl) (Nat.le_refl _) (Nat.le_refl _)) (Nat.le_of_ble_eq_true rfl) ?_
  exact e_zret (pc := 6) dX6_isSheet_6 rfl (by exact mc_bnar) (Nat.le_refl _) (Nat.le_refl _) ⟨rfl, rfl⟩
theorem mc_wi_01 {v : Int32} : mc_wi v 0 1 = (v == 0 || v == 1) := by
  by_cases h0 : v = 0
  · subst h0; decide
  · by_cases h1 : v = 1
    · subst h1; decide
    · have e : (v == 0 || v == 1) = false := by simp [h0, h1]
      rw [e, mc_wi_iffF]
      have a0 : ¬ v.toInt = 0 := fun q => h0 (Int32.toInt_inj.mp q)
      have a1 : ¬ v.toInt = 1 := fun q => h1 (Int32.toInt_inj.mp q)
      show v.toInt < 0 ∨ 1 < v.toInt
      omega
theorem sp_isTwofold {w : mc_W} {v : Int32} : mc_D yX6_isTwofold cX6_isTwofold 1 (some .boolean) 1 [.int v] w (some (.int (mc_b (mc_wi v 0 1)))) w := by
  refine mc_start (own := RX6) (ini := false) rfl (by decide +kernel) (fun h => by cases h) (Nat.le_of_ble_eq_true rfl) ?_
  show mc_E _ _ _ _ _ [some (.int v)] [] _ _ _
  refine e_iloadn (pc := 0) dX6_isTwofold_0 rfl ?_
  refine e_if_eq (pc := 1) dX6_isTwofold_1 (t := 9) (by decide) (fun c_1 => ?_) (fun c_1 => ?_)
  · skip
    refine e_iconst (v := 1) (pc := 9) dX6_isTwofold_9 (by decide) ?_
    refine e_goto (pc := 10) dX6_isTwofold_10 (t := 14) (by decide) ?_
    exact e_zret (pc := 14) dX6_isTwofold_14 rfl (by rfl) (Nat.le_refl _) (Nat.le_refl _) ⟨by rw [mc_wi_01]; simp_all [mc_b], rfl⟩
  · skip
    refine e_iloadn (pc := 4) dX6_isTwofold_4 rfl ?_
    refine e_iconst (v := 1) (pc := 5) dX6_isTwofold_5 (by decide) ?_
    refine e_icmp_ne (pc := 6) dX6_isTwofold_6 (t := 13) (by decide) (fun c_6 => ?_) (fun c_6 => ?_)
    · skip
      refine e_iconst (v := 0) (pc := 13) dX6_isTwofold_13 (by decide) ?_
      exact e_zret (pc := 14) dX6_isTwofold_14 rfl (by rfl) (Nat.le_refl _) (Nat.le_refl _) ⟨by rw [mc_wi_01]; simp_all [mc_b], rfl⟩
    · skip
      refine e_iconst (v := 1) (pc := 9) dX6_isTwofold_9 (by decide) ?_
      refine e_goto (pc := 10) dX6_isTwofold_10 (t := 14) (by decide) ?_
      exact e_zret (pc := 14) dX6_isTwofold_14 rfl (by rfl) (Nat.le_refl _) (Nat.le_refl _) ⟨by rw [mc_wi_01]; simp_all [mc_b], rfl⟩
theorem sp_isYear {w : mc_W} {v : Int32} : mc_D yX6_isYear cX6_isYear 1 (some .boolean) 2 [.int v] w (some (.int (mc_b (yy_yr v)))) w := by
  refine mc_start (own := RX6) (ini := false) rfl (by decide +kernel) (fun h => by cases h) (Nat.le_of_ble_eq_true rfl) ?_
  show mc_E _ _ _ _ _ [some (.int v)] [] _ _ _
  refine e_iloadn (pc := 0) dX6_isYear_0 rfl ?_
  refine e_if_eq (pc := 1) dX6_isYear_1 (t := 21) (by decide) (fun c_1 => ?_) (fun c_1 => ?_)
  · skip
    refine e_iconst (v := 0) (pc := 21) dX6_isYear_21 (by decide) ?_
    exact e_zret (pc := 22) dX6_isYear_22 rfl (by rfl) (Nat.le_refl _) (Nat.le_refl _) ⟨by simp_all [mc_b, yy_yr], rfl⟩
  · skip
    refine e_iloadn (pc := 4) dX6_isYear_4 rfl ?_
    refine e_sipush (v := -999) (pc := 5) dX6_isYear_5 (by decide) ?_
    refine e_sipush (v := 999) (pc := 8) dX6_isYear_8 (by decide) ?_
    refine e_csD (pc := 11) (sp_isWithin) dX6_isYear_11 kX6_86 rfl rfl (mc_CR_of (Nat.le_of_ble_eq_true rfl) (Nat.le_of_ble_eq_true rfl) (Nat.le_refl _) (Nat.le_refl _)) (Nat.le_of_ble_eq_true rfl) ?_
    refine e_if_eq (pc := 14) dX6_isYear_14 (t := 21) (by decide) (fun c_14 => ?_) (fun c_14 => ?_)
    · skip
      refine e_iconst (v := 0) (pc := 21) dX6_isYear_21 (by decide) ?_
      exact e_zret (pc := 22) dX6_isYear_22 rfl (by rfl) (Nat.le_refl _) (Nat.le_refl _) ⟨by simp_all [mc_b, yy_yr], rfl⟩
    · skip
      refine e_iconst (v := 1) (pc := 17) dX6_isYear_17 (by decide) ?_
      refine e_goto (pc := 18) dX6_isYear_18 (t := 22) (by decide) ?_
      exact e_zret (pc := 22) dX6_isYear_22 rfl (by rfl) (Nat.le_refl _) (Nat.le_refl _) ⟨by simp_all [mc_b, yy_yr], rfl⟩
theorem sp_areTwoFolk {w : mc_W} {f g : Int32} : mc_D yX6_areTwoFolk cX6_areTwoFolk 2 (some .boolean) 3 [.int f, .int g] w (some (.int (mc_b (yy_fo f g)))) w := by
  refine mc_start (own := RX6) (ini := false) rfl (by decide +kernel) (fun h => by cases h) (Nat.le_of_ble_eq_true rfl) ?_
  show mc_E _ _ _ _ _ [some (.int f), some (.int g)] [] _ _ _
  refine e_iloadn (pc := 0) dX6_areTwoFolk_0 rfl ?_
  refine e_csD (pc := 1) (sp_isFolk) dX6_areTwoFolk_1 kX6_355 rfl rfl (mc_CR_of (Nat.le_of_ble_eq_true rfl) (Nat.le_of_ble_eq_true rfl) (Nat.le_refl _) (Nat.le_refl _)) (Nat.le_of_ble_eq_true rfl) ?_
  refine e_if_eq (pc := 4) dX6_areTwoFolk_4 (t := 23) (by decide) (fun c_4 => ?_) (fun c_4 => ?_)
  · skip
    refine e_iconst (v := 0) (pc := 23) dX6_areTwoFolk_23 (by decide) ?_
    exact e_zret (pc := 24) dX6_areTwoFolk_24 rfl (by rfl) (Nat.le_refl _) (Nat.le_refl _) ⟨by simp_all [mc_b, yy_fo], rfl⟩
  · skip
    refine e_iloadn (pc := 7) dX6_areTwoFolk_7 rfl ?_
    refine e_csD (pc := 8) (sp_isFolk) dX6_areTwoFolk_8 kX6_355 rfl rfl (mc_CR_of (Nat.le_of_ble_eq_true rfl) (Nat.le_of_ble_eq_true rfl) (Nat.le_refl _) (Nat.le_refl _)) (Nat.le_of_ble_eq_true rfl) ?_
    refine e_if_eq (pc := 11) dX6_areTwoFolk_11 (t := 23) (by decide) (fun c_11 => ?_) (fun c_11 => ?_)
    · skip
      refine e_iconst (v := 0) (pc := 23) dX6_areTwoFolk_23 (by decide) ?_
      exact e_zret (pc := 24) dX6_areTwoFolk_24 rfl (by rfl) (Nat.le_refl _) (Nat.le_refl _) ⟨by simp_all [mc_b, yy_fo], rfl⟩
    · skip
      refine e_iloadn (pc := 14) dX6_areTwoFolk_14 rfl ?_
      refine e_iloadn (pc := 15) dX6_areTwoFolk_15 rfl ?_
      refine e_icmp_eq (pc := 16) dX6_areTwoFolk_16 (t := 23) (by decide) (fun c_16 => ?_) (fun c_16 => ?_)
      · skip
        refine e_iconst (v := 0) (pc := 23) dX6_areTwoFolk_23 (by decide) ?_
        exact e_zret (pc := 24) dX6_areTwoFolk_24 rfl (by rfl) (Nat.le_refl _) (Nat.le_refl _) ⟨by simp_all [mc_b, yy_fo], rfl⟩
      · skip
        refine e_iconst (v := 1) (pc := 19) dX6_areTwoFolk_19 (by decide) ?_
        refine e_goto (pc := 20) dX6_areTwoFolk_20 (t := 24) (by decide) ?_
        exact e_zret (pc := 24) dX6_areTwoFolk_24 rfl (by rfl) (Nat.le_refl _) (Nat.le_refl _) ⟨by simp_all [mc_b, yy_fo], rfl⟩
def xx_py (y : Int32) : Int32 := if 0 < y then y - 1 else y
def xx_yp (p : Int32) : Int32 := if 0 ≤ p then p + 1 else p
theorem sp_placeOfYear {w : mc_W} {y : Int32} : mc_D yX6_placeOfYear cX6_placeOfYear 1 (some .int) 1 [.int y] w (some (.int (xx_py y))) w := by
  refine mc_start (own := RX6) (ini := false) rfl (by decide +kernel) (fun h => by cases h) (Nat.le_of_ble_eq_true rfl) ?_
  show mc_E _ _ _ _ _ [some (.int y)] [] _ _ _
  refine e_iloadn (pc := 0) dX6_placeOfYear_0 rfl ?_
  refine e_if_le (pc := 1) dX6_placeOfYear_1 (t := 10) (by decide) (fun c_1 => ?_) (fun c_1 => ?_)
  · skip
    refine e_iloadn (pc := 10) dX6_placeOfYear_10 rfl ?_
    exact e_iret (pc := 11) dX6_placeOfYear_11 rfl (Nat.le_refl _) (Nat.le_refl _) ⟨(by first | rfl | (simp [xx_py, *]; done) | ((try simp only [mc_cmp_le, mc_cmp_ge, mc_cmp_eq, mc_cmp_lt, mc_cmp_gt, mc_b0, mc_b1, Bool.not_eq_false, Bool.not_eq_true] at *); (try simp only [← Int32.not_lt, ← Int64.not_lt, Classical.not_not] at *); simp [xx_py, *]; done) | (simp_all [xx_py, mc_b0]; done) | (simp_all [xx_py, Int32.le_iff_toInt_le, Int32.lt_iff_toInt_lt] <;> omega)), rfl⟩
  · skip
    refine e_iloadn (pc := 4) dX6_placeOfYear_4 rfl ?_
    refine e_iconst (v := 1) (pc := 5) dX6_placeOfYear_5 (by decide) ?_
    refine e_isub (pc := 6) dX6_placeOfYear_6 ?_
    refine e_goto (pc := 7) dX6_placeOfYear_7 (t := 11) (by decide) ?_
    exact e_iret (pc := 11) dX6_placeOfYear_11 rfl (Nat.le_refl _) (Nat.le_refl _) ⟨(by first | rfl | (simp [xx_py, *]; done) | ((try simp only [mc_cmp_le, mc_cmp_ge, mc_cmp_eq, mc_cmp_lt, mc_cmp_gt, mc_b0, mc_b1, Bool.not_eq_false, Bool.not_eq_true] at *); (try simp only [← Int32.not_lt, ← Int64.not_lt, Classical.not_not] at *); simp [xx_py, *]; done) | (simp_all [xx_py, mc_b0]; done) | (simp_all [xx_py, Int32.le_iff_toInt_le, Int32.lt_iff_toInt_lt] <;> omega)), rfl⟩
theorem sp_yearAtPlace {w : mc_W} {y : Int32} : mc_D yX6_yearAtPlace cX6_yearAtPlace 1 (some .int) 1 [.int y] w (some (.int (xx_yp y))) w := by
  refine mc_start (own := RX6) (ini := false) rfl (by decide +kernel) (fun h => by cases h) (Nat.le_of_ble_eq_true rfl) ?_
  show mc_E _ _ _ _ _ [some (.int y)] [] _ _ _
  refine e_iloadn (pc := 0) dX6_yearAtPlace_0 rfl ?_
  refine e_if_lt (pc := 1) dX6_yearAtPlace_1 (t := 10) (by decide) (fun c_1 => ?_) (fun c_1 => ?_)
  · skip
    refine e_iloadn (pc := 10) dX6_yearAtPlace_10 rfl ?_
    exact e_iret (pc := 11) dX6_yearAtPlace_11 rfl (Nat.le_refl _) (Nat.le_refl _) ⟨(by first | rfl | (simp [xx_yp, *]; done) | ((try simp only [mc_cmp_le, mc_cmp_ge, mc_cmp_eq, mc_cmp_lt, mc_cmp_gt, mc_b0, mc_b1, Bool.not_eq_false, Bool.not_eq_true] at *); (try simp only [← Int32.not_lt, ← Int64.not_lt, Classical.not_not] at *); simp [xx_yp, *]; done) | (simp_all [xx_yp, mc_b0]; done) | (simp_all [xx_yp, Int32.le_iff_toInt_le, Int32.lt_iff_toInt_lt] <;> omega)), rfl⟩
  · skip
    refine e_iloadn (pc := 4) dX6_yearAtPlace_4 rfl ?_
    refine e_iconst (v := 1) (pc := 5) dX6_yearAtPlace_5 (by decide) ?_
    refine e_iadd (pc := 6) dX6_yearAtPlace_6 ?_
    refine e_goto (pc := 7) dX6_yearAtPlace_7 (t := 11) (by decide) ?_
    exact e_iret (pc := 11) dX6_yearAtPlace_11 rfl (Nat.le_refl _) (Nat.le_refl _) ⟨(by first | rfl | (simp [xx_yp, *]; done) | ((try simp only [mc_cmp_le, mc_cmp_ge, mc_cmp_eq, mc_cmp_lt, mc_cmp_gt, mc_b0, mc_b1, Bool.not_eq_false, Bool.not_eq_true] at *); (try simp only [← Int32.not_lt, ← Int64.not_lt, Classical.not_not] at *); simp [xx_yp, *]; done) | (simp_all [xx_yp, mc_b0]; done) | (simp_all [xx_yp, Int32.le_iff_toInt_le, Int32.lt_iff_toInt_lt] <;> omega)), rfl⟩
theorem yr_rng {v : Int32} (h : yy_yr v = true) : -999 ≤ v.toInt ∧ v.toInt ≤ 999 ∧ ¬ v.toInt = 0 := by
  unfold yy_yr at h
  rw [Bool.and_eq_true, mc_wi_iff] at h
  refine ⟨h.1.1, h.1.2, fun q => ?_⟩
  have : v = 0 := Int32.toInt_inj.mp q
  rw [this] at h
  exact absurd h.2 (by decide)
theorem i32_add {x y : Int32} (h1 : -1073741824 ≤ x.toInt ∧ x.toInt ≤ 1073741823) (h2 : -1073741824 ≤ y.toInt ∧ y.toInt ≤ 1073741823) : (x + y).toInt = x.toInt + y.toInt := by
  rw [Int32.toInt_add, Int.bmod_eq_of_le] <;> omega
theorem i32_sub {x y : Int32} (h1 : -1073741824 ≤ x.toInt ∧ x.toInt ≤ 1073741823) (h2 : -1073741824 ≤ y.toInt ∧ y.toInt ≤ 1073741823) : (x - y).toInt = x.toInt - y.toInt := by
  rw [Int32.toInt_sub, Int.bmod_eq_of_le] <;> omega
theorem i1 : (1 : Int32).toInt = 1 := rfl
theorem i0 : (0 : Int32).toInt = 0 := rfl
/-- the class's line of years beside the other side's -/
theorem xx_py_az {y : Int32} (h : ¬ y = 0) (hy : -2000000 ≤ y.toInt ∧ y.toInt ≤ 2000000) : xx_py y = yy_az y - 1 := by
  unfold xx_py yy_az
  have h0 : ¬ y.toInt = 0 := fun q => h (Int32.toInt_inj.mp q)
  by_cases h1 : 0 < y
  · rw [if_pos h1, if_neg (by rw [Int32.lt_iff_toInt_lt] at *; rw [i0] at *; omega)]
  · rw [if_neg h1, if_pos (by rw [Int32.lt_iff_toInt_lt] at *; rw [i0] at *; omega)]
    simp
theorem xx_az_rng {y : Int32} (hy : -2000000 ≤ y.toInt ∧ y.toInt ≤ 2000000) : -2000000 ≤ (yy_az y).toInt ∧ (yy_az y).toInt ≤ 2000001 := by
  unfold yy_az
  split
  · rw [i32_add (by omega) (by decide), i1]; omega
  · omega
theorem xx_yp_ay {p : Int32} (hp : -20000000 ≤ p.toInt ∧ p.toInt ≤ 20000000) : xx_yp p = yy_ay (p + 1) := by
  unfold xx_yp yy_ay
  have e : (p + 1).toInt = p.toInt + 1 := by rw [i32_add (by omega) (by decide), i1]
  by_cases h1 : 0 ≤ p
  · rw [if_pos h1, if_neg (by rw [Int32.lt_iff_toInt_lt, e, i1]; rw [Int32.le_iff_toInt_le, i0] at h1; omega)]
  · rw [if_neg h1, if_pos (by rw [Int32.lt_iff_toInt_lt, e, i1]; rw [Int32.le_iff_toInt_le, i0] at h1; omega)]
    simp
theorem xx_span {f g : Int32} (hf : yy_yr f = true) (hg : yy_yr g = true) : xx_py g - xx_py f = yy_az g - yy_az f := by
  have f1 := yr_rng hf; have g1 := yr_rng hg
  have f2 := xx_az_rng (y := f) (by omega)
  have g2 := xx_az_rng (y := g) (by omega)
  rw [xx_py_az (y := g) (fun q => g1.2.2 (by rw [q]; rfl)) (by omega), xx_py_az (y := f) (fun q => f1.2.2 (by rw [q]; rfl)) (by omega)]
  have e1 : (yy_az g - 1).toInt = (yy_az g).toInt - 1 := by rw [i32_sub (by omega) (by decide), i1]
  have e2 : (yy_az f - 1).toInt = (yy_az f).toInt - 1 := by rw [i32_sub (by omega) (by decide), i1]
  apply Int32.toInt_inj.mp
  rw [i32_sub (x := yy_az g - 1) (y := yy_az f - 1) (by omega) (by omega), i32_sub (x := yy_az g) (y := yy_az f) (by omega) (by omega), e1, e2]
  omega
theorem xx_behind {f g : Int32} (hf : yy_yr f = true) (hg : -3000 ≤ g.toInt ∧ g.toInt ≤ 3000) : xx_yp (xx_py f + g) = yy_ay (yy_az f + g) := by
  have f1 := yr_rng hf
  have f2 := xx_az_rng (y := f) (by omega)
  have e : (yy_az f - 1).toInt = (yy_az f).toInt - 1 := by rw [i32_sub (by omega) (by decide), i1]
  rw [xx_py_az (fun q => f1.2.2 (by rw [q]; rfl)) (by omega), xx_yp_ay (by rw [i32_add (by omega) (by omega), e]; omega)]
  congr 1
  rw [Int32.add_assoc, Int32.sub_eq_add_neg, Int32.add_assoc, Int32.add_comm (-1) (g + 1), Int32.add_assoc]
  simp
theorem sp_x_span {s u m n : Nat → Int32} {a c b d : Nat → List Int32} {q : List (Option Nat)} {h : Nat} {z : mc_W} {f g : Int32} : mc_D yX6_span cX6_span 3 (some .int) 3 [.ref 0, .int f, .int g] (WW s a q u c h m b n d z) (some (.int (if yy_yr f && yy_yr g then yy_az g - yy_az f else -100000))) (WW s a q u c h m b n d z) := by
  refine mc_start (own := RX6) (ini := false) rfl (by decide +kernel) (fun h => by cases h) (Nat.le_of_ble_eq_true rfl) ?_
  show mc_E _ _ _ _ _ [some (.ref 0), some (.int f), some (.int g)] [] _ _ _
  refine e_iloadn (pc := 0) dX6_span_0 rfl ?_
  refine e_csD (pc := 1) (sp_isYear) dX6_span_1 kX6_90 rfl rfl (mc_CR_of (Nat.le_of_ble_eq_true rfl) (Nat.le_of_ble_eq_true rfl) (Nat.le_refl _) (Nat.le_refl _)) (Nat.le_of_ble_eq_true rfl) ?_
  refine e_if_eq (pc := 4) dX6_span_4 (t := 14) (by decide) (fun c_4 => ?_) (fun c_4 => ?_)
  · skip
    refine e_ldcw (pc := 14) dX6_span_14 qX6_261 ?_
    exact e_iret (pc := 17) dX6_span_17 rfl (Nat.le_refl _) (Nat.le_refl _) ⟨(by first | (simp_all [mc_b0, mc_b1]; done) | (simp only [mc_b0, mc_b1, Bool.not_eq_false] at *; rw [xx_span (by assumption) (by assumption)]; simp_all)), rfl⟩
  · skip
    refine e_iloadn (pc := 7) dX6_span_7 rfl ?_
    refine e_csD (pc := 8) (sp_isYear) dX6_span_8 kX6_90 rfl rfl (mc_CR_of (Nat.le_of_ble_eq_true rfl) (Nat.le_of_ble_eq_true rfl) (Nat.le_refl _) (Nat.le_refl _)) (Nat.le_of_ble_eq_true rfl) ?_
    refine e_if_ne (pc := 11) dX6_span_11 (t := 18) (by decide) (fun c_11 => ?_) (fun c_11 => ?_)
    · skip
      refine e_iloadn (pc := 18) dX6_span_18 rfl ?_
      refine e_csD (pc := 19) (sp_placeOfYear) dX6_span_19 kX6_262 rfl rfl (mc_CR_of (Nat.le_of_ble_eq_true rfl) (Nat.le_of_ble_eq_true rfl) (Nat.le_refl _) (Nat.le_refl _)) (Nat.le_of_ble_eq_true rfl) ?_
      refine e_iloadn (pc := 22) dX6_span_22 rfl ?_
      refine e_csD (pc := 23) (sp_placeOfYear) dX6_span_23 kX6_262 rfl rfl (mc_CR_of (Nat.le_of_ble_eq_true rfl) (Nat.le_of_ble_eq_true rfl) (Nat.le_refl _) (Nat.le_refl _)) (Nat.le_of_ble_eq_true rfl) ?_
      refine e_isub (pc := 26) dX6_span_26 ?_
      exact e_iret (pc := 27) dX6_span_27 rfl (Nat.le_refl _) (Nat.le_refl _) ⟨(by first | (simp_all [mc_b0, mc_b1]; done) | (simp only [mc_b0, mc_b1, Bool.not_eq_false] at *; rw [xx_span (by assumption) (by assumption)]; simp_all)), rfl⟩
    · skip
      refine e_ldcw (pc := 14) dX6_span_14 qX6_261 ?_
      exact e_iret (pc := 17) dX6_span_17 rfl (Nat.le_refl _) (Nat.le_refl _) ⟨(by first | (simp_all [mc_b0, mc_b1]; done) | (simp only [mc_b0, mc_b1, Bool.not_eq_false] at *; rw [xx_span (by assumption) (by assumption)]; simp_all)), rfl⟩
theorem sp_x_behind {s u m n : Nat → Int32} {a c b d : Nat → List Int32} {q : List (Option Nat)} {h : Nat} {z : mc_W} {f g : Int32} : mc_D yX6_behind cX6_behind 4 (some .int) 3 [.ref 0, .int f, .int g] (WW s a q u c h m b n d z) (some (.int (if yy_yr f && mc_wi g (-3000) 3000 then (if yy_yr (yy_ay (yy_az f + g)) then yy_ay (yy_az f + g) else -100001) else -100000))) (WW s a q u c h m b n d z) := by
  refine mc_start (own := RX6) (ini := false) rfl (by decide +kernel) (fun h => by cases h) (Nat.le_of_ble_eq_true rfl) ?_
  show mc_E _ _ _ _ _ [some (.ref 0), some (.int f), some (.int g), none] [] _ _ _
  have hb : yy_yr f = true → mc_wi g (-3000) 3000 = true → xx_yp (xx_py f + g) = yy_ay (yy_az f + g) := fun h1 h2 => xx_behind h1 (mc_wi_iff.mp h2)
  refine e_iloadn (pc := 0) dX6_behind_0 rfl ?_
  refine e_csD (pc := 1) (sp_isYear) dX6_behind_1 kX6_90 rfl rfl (mc_CR_of (Nat.le_of_ble_eq_true rfl) (Nat.le_of_ble_eq_true rfl) (Nat.le_refl _) (Nat.le_refl _)) (Nat.le_of_ble_eq_true rfl) ?_
  refine e_if_eq (pc := 4) dX6_behind_4 (t := 20) (by decide) (fun c_4 => ?_) (fun c_4 => ?_)
  · skip
    refine e_ldcw (pc := 20) dX6_behind_20 qX6_261 ?_
    exact e_iret (pc := 23) dX6_behind_23 rfl (Nat.le_refl _) (Nat.le_refl _) ⟨(by first | (simp_all [mc_b0, mc_b1]; done) | (simp only [mc_b0, mc_b1, Bool.not_eq_false, Bool.not_eq_true] at *; rw [hb (by assumption) (by assumption)] at *; simp_all)), rfl⟩
  · skip
    refine e_iloadn (pc := 7) dX6_behind_7 rfl ?_
    refine e_sipush (v := -3000) (pc := 8) dX6_behind_8 (by decide) ?_
    refine e_sipush (v := 3000) (pc := 11) dX6_behind_11 (by decide) ?_
    refine e_csD (pc := 14) (sp_isWithin) dX6_behind_14 kX6_86 rfl rfl (mc_CR_of (Nat.le_of_ble_eq_true rfl) (Nat.le_of_ble_eq_true rfl) (Nat.le_refl _) (Nat.le_refl _)) (Nat.le_of_ble_eq_true rfl) ?_
    refine e_if_ne (pc := 17) dX6_behind_17 (t := 24) (by decide) (fun c_17 => ?_) (fun c_17 => ?_)
    · skip
      refine e_iloadn (pc := 24) dX6_behind_24 rfl ?_
      refine e_csD (pc := 25) (sp_placeOfYear) dX6_behind_25 kX6_262 rfl rfl (mc_CR_of (Nat.le_of_ble_eq_true rfl) (Nat.le_of_ble_eq_true rfl) (Nat.le_refl _) (Nat.le_refl _)) (Nat.le_of_ble_eq_true rfl) ?_
      refine e_iloadn (pc := 28) dX6_behind_28 rfl ?_
      refine e_iadd (pc := 29) dX6_behind_29 ?_
      refine e_csD (pc := 30) (sp_yearAtPlace) dX6_behind_30 kX6_265 rfl rfl (mc_CR_of (Nat.le_of_ble_eq_true rfl) (Nat.le_of_ble_eq_true rfl) (Nat.le_refl _) (Nat.le_refl _)) (Nat.le_of_ble_eq_true rfl) ?_
      refine e_isn3 (pc := 33) dX6_behind_33 (Nat.le_of_ble_eq_true rfl) rfl ?_
      refine e_iloadn (pc := 34) dX6_behind_34 rfl ?_
      refine e_csD (pc := 35) (sp_isYear) dX6_behind_35 kX6_90 rfl rfl (mc_CR_of (Nat.le_of_ble_eq_true rfl) (Nat.le_of_ble_eq_true rfl) (Nat.le_refl _) (Nat.le_refl _)) (Nat.le_of_ble_eq_true rfl) ?_
      refine e_if_eq (pc := 38) dX6_behind_38 (t := 45) (by decide) (fun c_38 => ?_) (fun c_38 => ?_)
      · skip
        refine e_ldcw (pc := 45) dX6_behind_45 qX6_268 ?_
        exact e_iret (pc := 48) dX6_behind_48 rfl (Nat.le_refl _) (Nat.le_refl _) ⟨(by first | (simp_all [mc_b0, mc_b1]; done) | (simp only [mc_b0, mc_b1, Bool.not_eq_false, Bool.not_eq_true] at *; rw [hb (by assumption) (by assumption)] at *; simp_all)), rfl⟩
      · skip
        refine e_iloadn (pc := 41) dX6_behind_41 rfl ?_
        refine e_goto (pc := 42) dX6_behind_42 (t := 48) (by decide) ?_
        exact e_iret (pc := 48) dX6_behind_48 rfl (Nat.le_refl _) (Nat.le_refl _) ⟨(by first | (simp_all [mc_b0, mc_b1]; done) | (simp only [mc_b0, mc_b1, Bool.not_eq_false, Bool.not_eq_true] at *; rw [hb (by assumption) (by assumption)] at *; simp_all)), rfl⟩
    · skip
      refine e_ldcw (pc := 20) dX6_behind_20 qX6_261 ?_
      exact e_iret (pc := 23) dX6_behind_23 rfl (Nat.le_refl _) (Nat.le_refl _) ⟨(by first | (simp_all [mc_b0, mc_b1]; done) | (simp only [mc_b0, mc_b1, Bool.not_eq_false, Bool.not_eq_true] at *; rw [hb (by assumption) (by assumption)] at *; simp_all)), rfl⟩
theorem sp_x_tsize {s u m n : Nat → Int32} {a c b d : Nat → List Int32} {q : List (Option Nat)} {h : Nat} {z : mc_W} : mc_D yX4_size cX4_size 1 (some .int) 1 [.ref 6] (WW s a q u c h m b n d z) (some (.int (s 5))) (WW s a q u c h m b n d z) := by
  refine mc_start (own := RX4) (ini := false) rfl (by decide +kernel) (fun h => by cases h) (Nat.le_of_ble_eq_true rfl) ?_
  show mc_E _ _ _ _ _ [some (.ref 6)] [] _ _ _
  refine e_aloadn (pc := 0) dX4_size_0 rfl ?_
  refine e_get (pc := 1) dX4_size_1 fX4_18 rfl rfl ?_
  exact e_iret (pc := 4) dX4_size_4 rfl (Nat.le_refl _) (Nat.le_refl _) ⟨rfl, rfl⟩
theorem sp_x_tempty {s u m n : Nat → Int32} {a c b d : Nat → List Int32} {q : List (Option Nat)} {h : Nat} {z : mc_W} : mc_D yX4_becomeEmpty cX4_becomeEmpty 1 none 1 [.ref 6] (WW s a q u c h m b n d z) none (WW (mc_up s 5 0) a q u c h m b n d z) := by
  refine mc_start (own := RX4) (ini := false) rfl (by decide +kernel) (fun h => by cases h) (Nat.le_of_ble_eq_true rfl) ?_
  show mc_E _ _ _ _ _ [some (.ref 6)] [] _ _ _
  refine e_aloadn (pc := 0) dX4_becomeEmpty_0 rfl ?_
  refine e_iconst (v := 0) (pc := 1) dX4_becomeEmpty_1 (by decide) ?_
  refine put_tape_size (pc := 2) dX4_becomeEmpty_2 pX4_18 ?_
  exact e_vret (pc := 5) dX4_becomeEmpty_5 rfl (Nat.le_refl _) (Nat.le_refl _) ⟨rfl, rfl⟩
theorem sp_x_tappend {s u m n : Nat → Int32} {a c b d : Nat → List Int32} {q : List (Option Nat)} {h : Nat} {z : mc_W} {x : Int32} (hL : (a 2).length = 160) (h0 : 0 ≤ (s 5).toInt ∧ (s 5).toInt < 160) : mc_D yX4_append cX4_append 2 none 1 [.ref 6, .int x] (WW s a q u c h m b n d z) none (WW (mc_up s 5 (s 5 + 1)) (mc_up a 2 ((a 2).set (s 5).toNatClampNeg x)) q u c h m b n d z) := by
  refine mc_start (own := RX4) (ini := false) rfl (by decide +kernel) (fun h => by cases h) (Nat.le_of_ble_eq_true rfl) ?_
  show mc_E _ _ _ _ _ [some (.ref 6), some (.int x)] [] _ _ _
  refine e_aloadn (pc := 0) dX4_append_0 rfl ?_
  refine e_get (pc := 1) dX4_append_1 fX4_18 rfl rfl ?_
  refine e_if_lt (pc := 4) dX4_append_4 (t := 39) (by decide) (fun c_4 => absurd c_4 (by rw [Int32.lt_iff_toInt_lt, i0]; omega)) (fun _ => ?_)
  refine e_aloadn (pc := 7) dX4_append_7 rfl ?_
  refine e_get (pc := 8) dX4_append_8 fX4_18 rfl rfl ?_
  refine e_aloadn (pc := 11) dX4_append_11 rfl ?_
  refine e_get (pc := 12) dX4_append_12 fX4_9 rfl rfl ?_
  refine e_alen (pc := 15) dX4_append_15 rfl (show Int32.ofNat (a 2).length = 160 by rw [hL]; rfl) ?_
  refine e_icmp_ge (pc := 16) dX4_append_16 (t := 39) (by decide) (fun c_16 => absurd c_16 (by rw [Int32.le_iff_toInt_le, show (160 : Int32).toInt = 160 from rfl]; omega)) (fun _ => ?_)
  refine e_aloadn (pc := 19) dX4_append_19 rfl ?_
  refine e_get (pc := 20) dX4_append_20 fX4_9 rfl rfl ?_
  refine e_aloadn (pc := 23) dX4_append_23 rfl ?_
  refine e_get (pc := 24) dX4_append_24 fX4_18 rfl rfl ?_
  refine e_iloadn (pc := 27) dX4_append_27 rfl ?_
  refine ast_bytes (pc := 28) dX4_append_28 (by rw [hL, vp_in_iff]; omega) ?_
  refine e_aloadn (pc := 29) dX4_append_29 rfl ?_
  refine e_dup (pc := 30) dX4_append_30 rfl ?_
  refine e_get (pc := 31) dX4_append_31 fX4_18 rfl rfl ?_
  refine e_iconst (v := 1) (pc := 34) dX4_append_34 (by decide) ?_
  refine e_iadd (pc := 35) dX4_append_35 ?_
  refine put_tape_size (pc := 36) dX4_append_36 pX4_18 ?_
  exact e_vret (pc := 39) dX4_append_39 rfl (Nat.le_refl _) (Nat.le_refl _) ⟨rfl, rfl⟩
theorem sp_x_count {s u m n : Nat → Int32} {a c b d : Nat → List Int32} {q : List (Option Nat)} {h : Nat} {z : mc_W} {k : Int32} : mc_D yX6_count cX6_count 2 (some .int) 2 [.ref 0, .int k] (WW s a q u c h m b n d z) (some (.int (yy_ct (Ms s) k))) (WW s a q u c h m b n d z) := by
  refine mc_start (own := RX6) (ini := false) rfl (by decide +kernel) (fun h => by cases h) (Nat.le_of_ble_eq_true rfl) ?_
  show mc_E _ _ _ _ _ [some (.ref 0), some (.int k)] [] _ _ _
  refine e_iloadn (pc := 0) dX6_count_0 rfl ?_
  by_cases hs_1_0 : k = 0
  · rw [hs_1_0]
    refine e_tabIn (pc := 1) (t := 40) dX6_count_1 (by decide) (by decide) rfl (by decide) ?_
    refine e_aloadn (pc := 40) dX6_count_40 rfl ?_
    refine e_get (pc := 41) dX6_count_41 fX6_76 rfl rfl ?_
    exact e_iret (pc := 44) dX6_count_44 rfl (Nat.le_refl _) (Nat.le_refl _) ⟨(by first | rfl | (simp [yy_ct, Ms, *]; done) | ((try simp only [mc_cmp_le, mc_cmp_ge, mc_cmp_eq, mc_cmp_lt, mc_cmp_gt, mc_b0, mc_b1, Bool.not_eq_false, Bool.not_eq_true] at *); (try simp only [← Int32.not_lt, ← Int64.not_lt, Classical.not_not] at *); simp [yy_ct, Ms, *]; done) | (simp_all [yy_ct, Ms, mc_b0]; done) | (simp_all [yy_ct, Ms, Int32.le_iff_toInt_le, Int32.lt_iff_toInt_lt] <;> omega)), rfl⟩
  by_cases hs_1_1 : k = 1
  · rw [hs_1_1]
    refine e_tabIn (pc := 1) (t := 45) dX6_count_1 (by decide) (by decide) rfl (by decide) ?_
    refine e_aloadn (pc := 45) dX6_count_45 rfl ?_
    refine e_get (pc := 46) dX6_count_46 fX6_7 rfl rfl ?_
    exact e_iret (pc := 49) dX6_count_49 rfl (Nat.le_refl _) (Nat.le_refl _) ⟨(by first | rfl | (simp [yy_ct, Ms, *]; done) | ((try simp only [mc_cmp_le, mc_cmp_ge, mc_cmp_eq, mc_cmp_lt, mc_cmp_gt, mc_b0, mc_b1, Bool.not_eq_false, Bool.not_eq_true] at *); (try simp only [← Int32.not_lt, ← Int64.not_lt, Classical.not_not] at *); simp [yy_ct, Ms, *]; done) | (simp_all [yy_ct, Ms, mc_b0]; done) | (simp_all [yy_ct, Ms, Int32.le_iff_toInt_le, Int32.lt_iff_toInt_lt] <;> omega)), rfl⟩
  by_cases hs_1_2 : k = 2
  · rw [hs_1_2]
    refine e_tabIn (pc := 1) (t := 50) dX6_count_1 (by decide) (by decide) rfl (by decide) ?_
    refine e_aloadn (pc := 50) dX6_count_50 rfl ?_
    refine e_get (pc := 51) dX6_count_51 fX6_13 rfl rfl ?_
    exact e_iret (pc := 54) dX6_count_54 rfl (Nat.le_refl _) (Nat.le_refl _) ⟨(by first | rfl | (simp [yy_ct, Ms, *]; done) | ((try simp only [mc_cmp_le, mc_cmp_ge, mc_cmp_eq, mc_cmp_lt, mc_cmp_gt, mc_b0, mc_b1, Bool.not_eq_false, Bool.not_eq_true] at *); (try simp only [← Int32.not_lt, ← Int64.not_lt, Classical.not_not] at *); simp [yy_ct, Ms, *]; done) | (simp_all [yy_ct, Ms, mc_b0]; done) | (simp_all [yy_ct, Ms, Int32.le_iff_toInt_le, Int32.lt_iff_toInt_lt] <;> omega)), rfl⟩
  by_cases hs_1_3 : k = 3
  · rw [hs_1_3]
    refine e_tabIn (pc := 1) (t := 55) dX6_count_1 (by decide) (by decide) rfl (by decide) ?_
    refine e_aloadn (pc := 55) dX6_count_55 rfl ?_
    refine e_get (pc := 56) dX6_count_56 fX6_36 rfl rfl ?_
    exact e_iret (pc := 59) dX6_count_59 rfl (Nat.le_refl _) (Nat.le_refl _) ⟨(by first | rfl | (simp [yy_ct, Ms, *]; done) | ((try simp only [mc_cmp_le, mc_cmp_ge, mc_cmp_eq, mc_cmp_lt, mc_cmp_gt, mc_b0, mc_b1, Bool.not_eq_false, Bool.not_eq_true] at *); (try simp only [← Int32.not_lt, ← Int64.not_lt, Classical.not_not] at *); simp [yy_ct, Ms, *]; done) | (simp_all [yy_ct, Ms, mc_b0]; done) | (simp_all [yy_ct, Ms, Int32.le_iff_toInt_le, Int32.lt_iff_toInt_lt] <;> omega)), rfl⟩
  by_cases hs_1_4 : k = 4
  · rw [hs_1_4]
    refine e_tabIn (pc := 1) (t := 60) dX6_count_1 (by decide) (by decide) rfl (by decide) ?_
    refine e_aloadn (pc := 60) dX6_count_60 rfl ?_
    refine e_get (pc := 61) dX6_count_61 fX6_79 rfl rfl ?_
    exact e_iret (pc := 64) dX6_count_64 rfl (Nat.le_refl _) (Nat.le_refl _) ⟨(by first | rfl | (simp [yy_ct, Ms, *]; done) | ((try simp only [mc_cmp_le, mc_cmp_ge, mc_cmp_eq, mc_cmp_lt, mc_cmp_gt, mc_b0, mc_b1, Bool.not_eq_false, Bool.not_eq_true] at *); (try simp only [← Int32.not_lt, ← Int64.not_lt, Classical.not_not] at *); simp [yy_ct, Ms, *]; done) | (simp_all [yy_ct, Ms, mc_b0]; done) | (simp_all [yy_ct, Ms, Int32.le_iff_toInt_le, Int32.lt_iff_toInt_lt] <;> omega)), rfl⟩
  by_cases hs_1_5 : k = 5
  · rw [hs_1_5]
    refine e_tabIn (pc := 1) (t := 65) dX6_count_1 (by decide) (by decide) rfl (by decide) ?_
    refine e_aloadn (pc := 65) dX6_count_65 rfl ?_
    refine e_get (pc := 66) dX6_count_66 fX6_42 rfl rfl ?_
    refine e_cvD (pc := 69) (sp_x_tsize) dX6_count_69 kX6_82 rfl rfl rfl rfl rfl (mc_CR_of (Nat.le_of_ble_eq_true rfl) (Nat.le_of_ble_eq_true rfl) (Nat.le_refl _) (Nat.le_refl _)) (Nat.le_of_ble_eq_true rfl) ?_
    exact e_iret (pc := 72) dX6_count_72 rfl (Nat.le_refl _) (Nat.le_refl _) ⟨(by first | rfl | (simp [yy_ct, Ms, *]; done) | ((try simp only [mc_cmp_le, mc_cmp_ge, mc_cmp_eq, mc_cmp_lt, mc_cmp_gt, mc_b0, mc_b1, Bool.not_eq_false, Bool.not_eq_true] at *); (try simp only [← Int32.not_lt, ← Int64.not_lt, Classical.not_not] at *); simp [yy_ct, Ms, *]; done) | (simp_all [yy_ct, Ms, mc_b0]; done) | (simp_all [yy_ct, Ms, Int32.le_iff_toInt_le, Int32.lt_iff_toInt_lt] <;> omega)), rfl⟩
  refine e_tabOut (pc := 1) (t := 73) dX6_count_1 (mc_tabout (by decide) (fun k h1 h2 => ?_)) (by decide) ?_
  · rcases (show k = 0 ∨ k = 1 ∨ k = 2 ∨ k = 3 ∨ k = 4 ∨ k = 5 by omega) with rfl | rfl | rfl | rfl | rfl | rfl <;> assumption
  refine e_bipush (v := -2) (pc := 73) dX6_count_73 (by decide) ?_
  exact e_iret (pc := 75) dX6_count_75 rfl (Nat.le_refl _) (Nat.le_refl _) ⟨(by first | rfl | (simp [yy_ct, Ms, *]; done) | ((try simp only [mc_cmp_le, mc_cmp_ge, mc_cmp_eq, mc_cmp_lt, mc_cmp_gt, mc_b0, mc_b1, Bool.not_eq_false, Bool.not_eq_true] at *); (try simp only [← Int32.not_lt, ← Int64.not_lt, Classical.not_not] at *); simp [yy_ct, Ms, *]; done) | (simp_all [yy_ct, Ms, mc_b0]; done) | (simp_all [yy_ct, Ms, Int32.le_iff_toInt_le, Int32.lt_iff_toInt_lt] <;> omega)), rfl⟩
theorem sp_x_set {s u m n : Nat → Int32} {a c b d : Nat → List Int32} {q : List (Option Nat)} {h : Nat} {z : mc_W} {w v : Int32} : mc_D yX6_set cX6_set 4 (some .int) 3 [.ref 0, .int w, .int v] (WW s a q u c h m b n d z) (some (.int (yy_set1 (Ms s) w v))) (WW (yy_setm s w v) a q u c h m b n d z) := by
  refine mc_start (own := RX6) (ini := false) rfl (by decide +kernel) (fun h => by cases h) (Nat.le_of_ble_eq_true rfl) ?_
  show mc_E _ _ _ _ _ [some (.ref 0), some (.int w), some (.int v), none] [] _ _ _
  refine e_iloadn (pc := 0) dX6_set_0 rfl ?_
  refine e_if_eq (pc := 1) dX6_set_1 (t := 12) (by decide) (fun c_1 => ?_) (fun c_1 => ?_)
  · skip
    refine e_iloadn (pc := 12) dX6_set_12 rfl ?_
    refine e_if_ne (pc := 13) dX6_set_13 (t := 29) (by decide) (fun c_13 => ?_) (fun c_13 => ?_)
    · skip
      refine e_iloadn (pc := 29) dX6_set_29 rfl ?_
      refine e_csD (pc := 30) (sp_isYear) dX6_set_30 kX6_90 rfl rfl (mc_CR_of (Nat.le_of_ble_eq_true rfl) (Nat.le_of_ble_eq_true rfl) (Nat.le_refl _) (Nat.le_refl _)) (Nat.le_of_ble_eq_true rfl) ?_
      refine e_if_ne (pc := 33) dX6_set_33 (t := 39) (by decide) (fun c_33 => ?_) (fun c_33 => ?_)
      · skip
        refine e_iloadn (pc := 39) dX6_set_39 rfl ?_
        refine e_if_ne (pc := 40) dX6_set_40 (t := 50) (by decide) (fun c_40 => ?_) (fun c_40 => ?_)
        · skip
          refine e_aloadn (pc := 50) dX6_set_50 rfl ?_
          refine e_get (pc := 51) dX6_set_51 fX6_13 rfl rfl ?_
          refine e_isn3 (pc := 54) dX6_set_54 (Nat.le_of_ble_eq_true rfl) rfl ?_
          refine e_iloadn (pc := 55) dX6_set_55 rfl ?_
          refine e_if_ne (pc := 56) dX6_set_56 (t := 67) (by decide) (fun c_56 => ?_) (fun c_56 => ?_)
          · skip
            refine e_aloadn (pc := 67) dX6_set_67 rfl ?_
            refine e_iloadn (pc := 68) dX6_set_68 rfl ?_
            refine put_x_year (pc := 69) dX6_set_69 pX6_13 ?_
            refine e_iloadn (pc := 72) dX6_set_72 rfl ?_
            exact e_iret (pc := 73) dX6_set_73 rfl (Nat.le_refl _) (Nat.le_refl _) ⟨by simp_all [yy_set1, mc_wi_01, mc_b0, mc_b1, Ms], by simp_all [yy_setm, mc_wi_01, mc_b0, mc_b1]⟩
          · skip
            refine e_aloadn (pc := 59) dX6_set_59 rfl ?_
            refine e_iloadn (pc := 60) dX6_set_60 rfl ?_
            refine put_x_base (pc := 61) dX6_set_61 pX6_7 ?_
            refine e_goto (pc := 64) dX6_set_64 (t := 72) (by decide) ?_
            refine e_iloadn (pc := 72) dX6_set_72 rfl ?_
            exact e_iret (pc := 73) dX6_set_73 rfl (Nat.le_refl _) (Nat.le_refl _) ⟨by simp_all [yy_set1, mc_wi_01, mc_b0, mc_b1, Ms], by simp_all [yy_setm, mc_wi_01, mc_b0, mc_b1]⟩
        · skip
          refine e_aloadn (pc := 43) dX6_set_43 rfl ?_
          refine e_get (pc := 44) dX6_set_44 fX6_7 rfl rfl ?_
          refine e_goto (pc := 47) dX6_set_47 (t := 54) (by decide) ?_
          refine e_isn3 (pc := 54) dX6_set_54 (Nat.le_of_ble_eq_true rfl) rfl ?_
          refine e_iloadn (pc := 55) dX6_set_55 rfl ?_
          refine e_if_ne (pc := 56) dX6_set_56 (t := 67) (by decide) (fun c_56 => ?_) (fun c_56 => ?_)
          · skip
            refine e_aloadn (pc := 67) dX6_set_67 rfl ?_
            refine e_iloadn (pc := 68) dX6_set_68 rfl ?_
            refine put_x_year (pc := 69) dX6_set_69 pX6_13 ?_
            refine e_iloadn (pc := 72) dX6_set_72 rfl ?_
            exact e_iret (pc := 73) dX6_set_73 rfl (Nat.le_refl _) (Nat.le_refl _) ⟨by simp_all [yy_set1, mc_wi_01, mc_b0, mc_b1, Ms], by simp_all [yy_setm, mc_wi_01, mc_b0, mc_b1]⟩
          · skip
            refine e_aloadn (pc := 59) dX6_set_59 rfl ?_
            refine e_iloadn (pc := 60) dX6_set_60 rfl ?_
            refine put_x_base (pc := 61) dX6_set_61 pX6_7 ?_
            refine e_goto (pc := 64) dX6_set_64 (t := 72) (by decide) ?_
            refine e_iloadn (pc := 72) dX6_set_72 rfl ?_
            exact e_iret (pc := 73) dX6_set_73 rfl (Nat.le_refl _) (Nat.le_refl _) ⟨by simp_all [yy_set1, mc_wi_01, mc_b0, mc_b1, Ms], by simp_all [yy_setm, mc_wi_01, mc_b0, mc_b1]⟩
      · skip
        refine e_bipush (v := -7) (pc := 36) dX6_set_36 (by decide) ?_
        exact e_iret (pc := 38) dX6_set_38 rfl (Nat.le_refl _) (Nat.le_refl _) ⟨by simp_all [yy_set1, mc_wi_01, mc_b0, mc_b1, Ms], by simp_all [yy_setm, mc_wi_01, mc_b0, mc_b1]⟩
    · skip
      refine e_iloadn (pc := 16) dX6_set_16 rfl ?_
      refine e_iconst (v := 2) (pc := 17) dX6_set_17 (by decide) ?_
      refine e_bipush (v := 12) (pc := 18) dX6_set_18 (by decide) ?_
      refine e_csD (pc := 20) (sp_isWithin) dX6_set_20 kX6_86 rfl rfl (mc_CR_of (Nat.le_of_ble_eq_true rfl) (Nat.le_of_ble_eq_true rfl) (Nat.le_refl _) (Nat.le_refl _)) (Nat.le_of_ble_eq_true rfl) ?_
      refine e_if_ne (pc := 23) dX6_set_23 (t := 39) (by decide) (fun c_23 => ?_) (fun c_23 => ?_)
      · skip
        refine e_iloadn (pc := 39) dX6_set_39 rfl ?_
        refine e_if_ne (pc := 40) dX6_set_40 (t := 50) (by decide) (fun c_40 => ?_) (fun c_40 => ?_)
        · skip
          refine e_aloadn (pc := 50) dX6_set_50 rfl ?_
          refine e_get (pc := 51) dX6_set_51 fX6_13 rfl rfl ?_
          refine e_isn3 (pc := 54) dX6_set_54 (Nat.le_of_ble_eq_true rfl) rfl ?_
          refine e_iloadn (pc := 55) dX6_set_55 rfl ?_
          refine e_if_ne (pc := 56) dX6_set_56 (t := 67) (by decide) (fun c_56 => ?_) (fun c_56 => ?_)
          · skip
            refine e_aloadn (pc := 67) dX6_set_67 rfl ?_
            refine e_iloadn (pc := 68) dX6_set_68 rfl ?_
            refine put_x_year (pc := 69) dX6_set_69 pX6_13 ?_
            refine e_iloadn (pc := 72) dX6_set_72 rfl ?_
            exact e_iret (pc := 73) dX6_set_73 rfl (Nat.le_refl _) (Nat.le_refl _) ⟨by simp_all [yy_set1, mc_wi_01, mc_b0, mc_b1, Ms], by simp_all [yy_setm, mc_wi_01, mc_b0, mc_b1]⟩
          · skip
            refine e_aloadn (pc := 59) dX6_set_59 rfl ?_
            refine e_iloadn (pc := 60) dX6_set_60 rfl ?_
            refine put_x_base (pc := 61) dX6_set_61 pX6_7 ?_
            refine e_goto (pc := 64) dX6_set_64 (t := 72) (by decide) ?_
            refine e_iloadn (pc := 72) dX6_set_72 rfl ?_
            exact e_iret (pc := 73) dX6_set_73 rfl (Nat.le_refl _) (Nat.le_refl _) ⟨by simp_all [yy_set1, mc_wi_01, mc_b0, mc_b1, Ms], by simp_all [yy_setm, mc_wi_01, mc_b0, mc_b1]⟩
        · skip
          refine e_aloadn (pc := 43) dX6_set_43 rfl ?_
          refine e_get (pc := 44) dX6_set_44 fX6_7 rfl rfl ?_
          refine e_goto (pc := 47) dX6_set_47 (t := 54) (by decide) ?_
          refine e_isn3 (pc := 54) dX6_set_54 (Nat.le_of_ble_eq_true rfl) rfl ?_
          refine e_iloadn (pc := 55) dX6_set_55 rfl ?_
          refine e_if_ne (pc := 56) dX6_set_56 (t := 67) (by decide) (fun c_56 => ?_) (fun c_56 => ?_)
          · skip
            refine e_aloadn (pc := 67) dX6_set_67 rfl ?_
            refine e_iloadn (pc := 68) dX6_set_68 rfl ?_
            refine put_x_year (pc := 69) dX6_set_69 pX6_13 ?_
            refine e_iloadn (pc := 72) dX6_set_72 rfl ?_
            exact e_iret (pc := 73) dX6_set_73 rfl (Nat.le_refl _) (Nat.le_refl _) ⟨by simp_all [yy_set1, mc_wi_01, mc_b0, mc_b1, Ms], by simp_all [yy_setm, mc_wi_01, mc_b0, mc_b1]⟩
          · skip
            refine e_aloadn (pc := 59) dX6_set_59 rfl ?_
            refine e_iloadn (pc := 60) dX6_set_60 rfl ?_
            refine put_x_base (pc := 61) dX6_set_61 pX6_7 ?_
            refine e_goto (pc := 64) dX6_set_64 (t := 72) (by decide) ?_
            refine e_iloadn (pc := 72) dX6_set_72 rfl ?_
            exact e_iret (pc := 73) dX6_set_73 rfl (Nat.le_refl _) (Nat.le_refl _) ⟨by simp_all [yy_set1, mc_wi_01, mc_b0, mc_b1, Ms], by simp_all [yy_setm, mc_wi_01, mc_b0, mc_b1]⟩
      · skip
        refine e_goto (pc := 26) dX6_set_26 (t := 36) (by decide) ?_
        refine e_bipush (v := -7) (pc := 36) dX6_set_36 (by decide) ?_
        exact e_iret (pc := 38) dX6_set_38 rfl (Nat.le_refl _) (Nat.le_refl _) ⟨by simp_all [yy_set1, mc_wi_01, mc_b0, mc_b1, Ms], by simp_all [yy_setm, mc_wi_01, mc_b0, mc_b1]⟩
  · skip
    refine e_iloadn (pc := 4) dX6_set_4 rfl ?_
    refine e_iconst (v := 1) (pc := 5) dX6_set_5 (by decide) ?_
    refine e_icmp_eq (pc := 6) dX6_set_6 (t := 12) (by decide) (fun c_6 => ?_) (fun c_6 => ?_)
    · skip
      refine e_iloadn (pc := 12) dX6_set_12 rfl ?_
      refine e_if_ne (pc := 13) dX6_set_13 (t := 29) (by decide) (fun c_13 => ?_) (fun c_13 => ?_)
      · skip
        refine e_iloadn (pc := 29) dX6_set_29 rfl ?_
        refine e_csD (pc := 30) (sp_isYear) dX6_set_30 kX6_90 rfl rfl (mc_CR_of (Nat.le_of_ble_eq_true rfl) (Nat.le_of_ble_eq_true rfl) (Nat.le_refl _) (Nat.le_refl _)) (Nat.le_of_ble_eq_true rfl) ?_
        refine e_if_ne (pc := 33) dX6_set_33 (t := 39) (by decide) (fun c_33 => ?_) (fun c_33 => ?_)
        · skip
          refine e_iloadn (pc := 39) dX6_set_39 rfl ?_
          refine e_if_ne (pc := 40) dX6_set_40 (t := 50) (by decide) (fun c_40 => ?_) (fun c_40 => ?_)
          · skip
            refine e_aloadn (pc := 50) dX6_set_50 rfl ?_
            refine e_get (pc := 51) dX6_set_51 fX6_13 rfl rfl ?_
            refine e_isn3 (pc := 54) dX6_set_54 (Nat.le_of_ble_eq_true rfl) rfl ?_
            refine e_iloadn (pc := 55) dX6_set_55 rfl ?_
            refine e_if_ne (pc := 56) dX6_set_56 (t := 67) (by decide) (fun c_56 => ?_) (fun c_56 => ?_)
            · skip
              refine e_aloadn (pc := 67) dX6_set_67 rfl ?_
              refine e_iloadn (pc := 68) dX6_set_68 rfl ?_
              refine put_x_year (pc := 69) dX6_set_69 pX6_13 ?_
              refine e_iloadn (pc := 72) dX6_set_72 rfl ?_
              exact e_iret (pc := 73) dX6_set_73 rfl (Nat.le_refl _) (Nat.le_refl _) ⟨by simp_all [yy_set1, mc_wi_01, mc_b0, mc_b1, Ms], by simp_all [yy_setm, mc_wi_01, mc_b0, mc_b1]⟩
            · skip
              refine e_aloadn (pc := 59) dX6_set_59 rfl ?_
              refine e_iloadn (pc := 60) dX6_set_60 rfl ?_
              refine put_x_base (pc := 61) dX6_set_61 pX6_7 ?_
              refine e_goto (pc := 64) dX6_set_64 (t := 72) (by decide) ?_
              refine e_iloadn (pc := 72) dX6_set_72 rfl ?_
              exact e_iret (pc := 73) dX6_set_73 rfl (Nat.le_refl _) (Nat.le_refl _) ⟨by simp_all [yy_set1, mc_wi_01, mc_b0, mc_b1, Ms], by simp_all [yy_setm, mc_wi_01, mc_b0, mc_b1]⟩
          · skip
            refine e_aloadn (pc := 43) dX6_set_43 rfl ?_
            refine e_get (pc := 44) dX6_set_44 fX6_7 rfl rfl ?_
            refine e_goto (pc := 47) dX6_set_47 (t := 54) (by decide) ?_
            refine e_isn3 (pc := 54) dX6_set_54 (Nat.le_of_ble_eq_true rfl) rfl ?_
            refine e_iloadn (pc := 55) dX6_set_55 rfl ?_
            refine e_if_ne (pc := 56) dX6_set_56 (t := 67) (by decide) (fun c_56 => ?_) (fun c_56 => ?_)
            · skip
              refine e_aloadn (pc := 67) dX6_set_67 rfl ?_
              refine e_iloadn (pc := 68) dX6_set_68 rfl ?_
              refine put_x_year (pc := 69) dX6_set_69 pX6_13 ?_
              refine e_iloadn (pc := 72) dX6_set_72 rfl ?_
              exact e_iret (pc := 73) dX6_set_73 rfl (Nat.le_refl _) (Nat.le_refl _) ⟨by simp_all [yy_set1, mc_wi_01, mc_b0, mc_b1, Ms], by simp_all [yy_setm, mc_wi_01, mc_b0, mc_b1]⟩
            · skip
              refine e_aloadn (pc := 59) dX6_set_59 rfl ?_
              refine e_iloadn (pc := 60) dX6_set_60 rfl ?_
              refine put_x_base (pc := 61) dX6_set_61 pX6_7 ?_
              refine e_goto (pc := 64) dX6_set_64 (t := 72) (by decide) ?_
              refine e_iloadn (pc := 72) dX6_set_72 rfl ?_
              exact e_iret (pc := 73) dX6_set_73 rfl (Nat.le_refl _) (Nat.le_refl _) ⟨by simp_all [yy_set1, mc_wi_01, mc_b0, mc_b1, Ms], by simp_all [yy_setm, mc_wi_01, mc_b0, mc_b1]⟩
        · skip
          refine e_bipush (v := -7) (pc := 36) dX6_set_36 (by decide) ?_
          exact e_iret (pc := 38) dX6_set_38 rfl (Nat.le_refl _) (Nat.le_refl _) ⟨by simp_all [yy_set1, mc_wi_01, mc_b0, mc_b1, Ms], by simp_all [yy_setm, mc_wi_01, mc_b0, mc_b1]⟩
      · skip
        refine e_iloadn (pc := 16) dX6_set_16 rfl ?_
        refine e_iconst (v := 2) (pc := 17) dX6_set_17 (by decide) ?_
        refine e_bipush (v := 12) (pc := 18) dX6_set_18 (by decide) ?_
        refine e_csD (pc := 20) (sp_isWithin) dX6_set_20 kX6_86 rfl rfl (mc_CR_of (Nat.le_of_ble_eq_true rfl) (Nat.le_of_ble_eq_true rfl) (Nat.le_refl _) (Nat.le_refl _)) (Nat.le_of_ble_eq_true rfl) ?_
        refine e_if_ne (pc := 23) dX6_set_23 (t := 39) (by decide) (fun c_23 => ?_) (fun c_23 => ?_)
        · skip
          refine e_iloadn (pc := 39) dX6_set_39 rfl ?_
          refine e_if_ne (pc := 40) dX6_set_40 (t := 50) (by decide) (fun c_40 => ?_) (fun c_40 => ?_)
          · skip
            refine e_aloadn (pc := 50) dX6_set_50 rfl ?_
            refine e_get (pc := 51) dX6_set_51 fX6_13 rfl rfl ?_
            refine e_isn3 (pc := 54) dX6_set_54 (Nat.le_of_ble_eq_true rfl) rfl ?_
            refine e_iloadn (pc := 55) dX6_set_55 rfl ?_
            refine e_if_ne (pc := 56) dX6_set_56 (t := 67) (by decide) (fun c_56 => ?_) (fun c_56 => ?_)
            · skip
              refine e_aloadn (pc := 67) dX6_set_67 rfl ?_
              refine e_iloadn (pc := 68) dX6_set_68 rfl ?_
              refine put_x_year (pc := 69) dX6_set_69 pX6_13 ?_
              refine e_iloadn (pc := 72) dX6_set_72 rfl ?_
              exact e_iret (pc := 73) dX6_set_73 rfl (Nat.le_refl _) (Nat.le_refl _) ⟨by simp_all [yy_set1, mc_wi_01, mc_b0, mc_b1, Ms], by simp_all [yy_setm, mc_wi_01, mc_b0, mc_b1]⟩
            · skip
              refine e_aloadn (pc := 59) dX6_set_59 rfl ?_
              refine e_iloadn (pc := 60) dX6_set_60 rfl ?_
              refine put_x_base (pc := 61) dX6_set_61 pX6_7 ?_
              refine e_goto (pc := 64) dX6_set_64 (t := 72) (by decide) ?_
              refine e_iloadn (pc := 72) dX6_set_72 rfl ?_
              exact e_iret (pc := 73) dX6_set_73 rfl (Nat.le_refl _) (Nat.le_refl _) ⟨by simp_all [yy_set1, mc_wi_01, mc_b0, mc_b1, Ms], by simp_all [yy_setm, mc_wi_01, mc_b0, mc_b1]⟩
          · skip
            refine e_aloadn (pc := 43) dX6_set_43 rfl ?_
            refine e_get (pc := 44) dX6_set_44 fX6_7 rfl rfl ?_
            refine e_goto (pc := 47) dX6_set_47 (t := 54) (by decide) ?_
            refine e_isn3 (pc := 54) dX6_set_54 (Nat.le_of_ble_eq_true rfl) rfl ?_
            refine e_iloadn (pc := 55) dX6_set_55 rfl ?_
            refine e_if_ne (pc := 56) dX6_set_56 (t := 67) (by decide) (fun c_56 => ?_) (fun c_56 => ?_)
            · skip
              refine e_aloadn (pc := 67) dX6_set_67 rfl ?_
              refine e_iloadn (pc := 68) dX6_set_68 rfl ?_
              refine put_x_year (pc := 69) dX6_set_69 pX6_13 ?_
              refine e_iloadn (pc := 72) dX6_set_72 rfl ?_
              exact e_iret (pc := 73) dX6_set_73 rfl (Nat.le_refl _) (Nat.le_refl _) ⟨by simp_all [yy_set1, mc_wi_01, mc_b0, mc_b1, Ms], by simp_all [yy_setm, mc_wi_01, mc_b0, mc_b1]⟩
            · skip
              refine e_aloadn (pc := 59) dX6_set_59 rfl ?_
              refine e_iloadn (pc := 60) dX6_set_60 rfl ?_
              refine put_x_base (pc := 61) dX6_set_61 pX6_7 ?_
              refine e_goto (pc := 64) dX6_set_64 (t := 72) (by decide) ?_
              refine e_iloadn (pc := 72) dX6_set_72 rfl ?_
              exact e_iret (pc := 73) dX6_set_73 rfl (Nat.le_refl _) (Nat.le_refl _) ⟨by simp_all [yy_set1, mc_wi_01, mc_b0, mc_b1, Ms], by simp_all [yy_setm, mc_wi_01, mc_b0, mc_b1]⟩
        · skip
          refine e_goto (pc := 26) dX6_set_26 (t := 36) (by decide) ?_
          refine e_bipush (v := -7) (pc := 36) dX6_set_36 (by decide) ?_
          exact e_iret (pc := 38) dX6_set_38 rfl (Nat.le_refl _) (Nat.le_refl _) ⟨by simp_all [yy_set1, mc_wi_01, mc_b0, mc_b1, Ms], by simp_all [yy_setm, mc_wi_01, mc_b0, mc_b1]⟩
    · skip
      refine e_bipush (v := -5) (pc := 9) dX6_set_9 (by decide) ?_
      exact e_iret (pc := 11) dX6_set_11 rfl (Nat.le_refl _) (Nat.le_refl _) ⟨by simp_all [yy_set1, mc_wi_01, mc_b0, mc_b1, Ms], by simp_all [yy_setm, mc_wi_01, mc_b0, mc_b1]⟩
def xx_fos (s : Nat → Int32) (t : Int32) : Nat → Int32 := if mc_wi t 0 (s 3 - 1) = true then mc_up s 4 t else s
theorem sp_x_force {s u m n : Nat → Int32} {a c b d : Nat → List Int32} {q : List (Option Nat)} {h : Nat} {z : mc_W} {t : Int32} : mc_D yX6_force cX6_force 3 (some .int) 2 [.ref 0, .int t] (WW s a q u c h m b n d z) (some (.int (yy_fo1 (Ms s) t))) (WW (xx_fos s t) a q u c h m b n d z) := by
  refine mc_start (own := RX6) (ini := false) rfl (by decide +kernel) (fun h => by cases h) (Nat.le_of_ble_eq_true rfl) ?_
  show mc_E _ _ _ _ _ [some (.ref 0), some (.int t), none] [] _ _ _
  refine e_iloadn (pc := 0) dX6_force_0 rfl ?_
  refine e_iconst (v := 0) (pc := 1) dX6_force_1 (by decide) ?_
  refine e_aloadn (pc := 2) dX6_force_2 rfl ?_
  refine e_get (pc := 3) dX6_force_3 fX6_36 rfl rfl ?_
  refine e_iconst (v := 1) (pc := 6) dX6_force_6 (by decide) ?_
  refine e_isub (pc := 7) dX6_force_7 ?_
  refine e_csD (pc := 8) (sp_isWithin) dX6_force_8 kX6_86 rfl rfl (mc_CR_of (Nat.le_of_ble_eq_true rfl) (Nat.le_of_ble_eq_true rfl) (Nat.le_refl _) (Nat.le_refl _)) (Nat.le_of_ble_eq_true rfl) ?_
  refine e_if_ne (pc := 11) dX6_force_11 (t := 17) (by decide) (fun c_11 => ?_) (fun c_11 => ?_)
  · skip
    refine e_aloadn (pc := 17) dX6_force_17 rfl ?_
    refine e_get (pc := 18) dX6_force_18 fX6_79 rfl rfl ?_
    refine e_isn2 (pc := 21) dX6_force_21 (Nat.le_of_ble_eq_true rfl) rfl ?_
    refine e_aloadn (pc := 22) dX6_force_22 rfl ?_
    refine e_iloadn (pc := 23) dX6_force_23 rfl ?_
    refine put_x_lawNumber (pc := 24) dX6_force_24 pX6_79 ?_
    refine e_iloadn (pc := 27) dX6_force_27 rfl ?_
    exact e_iret (pc := 28) dX6_force_28 rfl (Nat.le_refl _) (Nat.le_refl _) ⟨by simp_all [yy_fo1, Ms, mc_b0, mc_b1], by simp_all [xx_fos, mc_b0, mc_b1]⟩
  · skip
    refine e_bipush (v := -2) (pc := 14) dX6_force_14 (by decide) ?_
    exact e_iret (pc := 16) dX6_force_16 rfl (Nat.le_refl _) (Nat.le_refl _) ⟨by simp_all [yy_fo1, Ms, mc_b0, mc_b1], by simp_all [xx_fos, mc_b0, mc_b1]⟩
theorem ck_dec {k x : Int32} (h0 : 0 ≤ x.toInt) (h5 : x.toInt ≤ 5) : mc_wi k 0 (x - 1) = (decide (0 ≤ k) && decide (k < x) && decide (k < 5)) := by
  have e : (x - 1).toInt = x.toInt - 1 := by rw [i32_sub (by omega) (by decide), i1]
  rw [Bool.eq_iff_iff, mc_wi_iff, e]
  simp only [Bool.and_eq_true, decide_eq_true_eq, Int32.le_iff_toInt_le, Int32.lt_iff_toInt_lt, i0, show (5 : Int32).toInt = 5 from rfl]
  omega
theorem sp_x_isClerk {s u m n : Nat → Int32} {a c b d : Nat → List Int32} {q : List (Option Nat)} {h : Nat} {z : mc_W} {k : Int32} (hC : yC s) : mc_D yX6_isClerk cX6_isClerk 2 (some .boolean) 1 [.ref 0, .int k] (WW s a q u c h m b n d z) (some (.int (mc_b (mc_wi k 0 (s 2 - 1))))) (WW s a q u c h m b n d z) := by
  refine mc_start (own := RX6) (ini := false) rfl (by decide +kernel) (fun h => by cases h) (Nat.le_of_ble_eq_true rfl) ?_
  show mc_E _ _ _ _ _ [some (.ref 0), some (.int k)] [] _ _ _
  rw [ck_dec hC.1 hC.2]
  refine e_iloadn (pc := 0) dX6_isClerk_0 rfl ?_
  refine e_if_lt (pc := 1) dX6_isClerk_1 (t := 21) (by decide) (fun c_1 => ?_) (fun c_1 => ?_)
  · skip
    refine e_iconst (v := 0) (pc := 21) dX6_isClerk_21 (by decide) ?_
    exact e_zret (pc := 22) dX6_isClerk_22 rfl (by rfl) (Nat.le_refl _) (Nat.le_refl _) ⟨by simp only [mc_b, Int32.not_lt, Int32.not_le] at *; simp_all [← Int32.not_lt], rfl⟩
  · skip
    refine e_iloadn (pc := 4) dX6_isClerk_4 rfl ?_
    refine e_aloadn (pc := 5) dX6_isClerk_5 rfl ?_
    refine e_get (pc := 6) dX6_isClerk_6 fX6_76 rfl rfl ?_
    refine e_icmp_ge (pc := 9) dX6_isClerk_9 (t := 21) (by decide) (fun c_9 => ?_) (fun c_9 => ?_)
    · skip
      refine e_iconst (v := 0) (pc := 21) dX6_isClerk_21 (by decide) ?_
      exact e_zret (pc := 22) dX6_isClerk_22 rfl (by rfl) (Nat.le_refl _) (Nat.le_refl _) ⟨by simp only [mc_b, Int32.not_lt, Int32.not_le] at *; simp_all [← Int32.not_lt], rfl⟩
    · skip
      refine e_iloadn (pc := 12) dX6_isClerk_12 rfl ?_
      refine e_iconst (v := 5) (pc := 13) dX6_isClerk_13 (by decide) ?_
      refine e_icmp_ge (pc := 14) dX6_isClerk_14 (t := 21) (by decide) (fun c_14 => ?_) (fun c_14 => ?_)
      · skip
        refine e_iconst (v := 0) (pc := 21) dX6_isClerk_21 (by decide) ?_
        exact e_zret (pc := 22) dX6_isClerk_22 rfl (by rfl) (Nat.le_refl _) (Nat.le_refl _) ⟨by simp only [mc_b, Int32.not_lt, Int32.not_le] at *; simp_all [← Int32.not_lt], rfl⟩
      · skip
        refine e_iconst (v := 1) (pc := 17) dX6_isClerk_17 (by decide) ?_
        refine e_goto (pc := 18) dX6_isClerk_18 (t := 22) (by decide) ?_
        exact e_zret (pc := 22) dX6_isClerk_22 rfl (by rfl) (Nat.le_refl _) (Nat.le_refl _) ⟨by simp only [mc_b, Int32.not_lt, Int32.not_le] at *; simp_all [← Int32.not_lt], rfl⟩
