theorem nI_back {x : Int32} (h : 0 ≤ x.toInt) : x = nI x.toNatClampNeg := by
  apply Int32.toInt_inj.mp
  have h1 := x.toInt_lt
  have e : x.toNatClampNeg = x.toInt.toNat := rfl
  rw [nI_toInt (by rw [e]; omega), e]
  omega
theorem tnc {x : Int32} (h : 0 ≤ x.toInt) : (x.toNatClampNeg : Int) = x.toInt := by
  have e : x.toNatClampNeg = x.toInt.toNat := rfl
  rw [e]; omega
/-- the law in force is a text -/
def yV (m : Nat → Int32) (b : Nat → List Int32) : Prop := 0 ≤ (m 5).toInt ∧ (m 5).toInt < 6 ∧ yT b (m 5).toNatClampNeg
theorem yseg_len {b : Nat → List Int32} {t p : Nat} (hL : yL b) (hT : yT b t) (ht : t < 6) (hp : p < 3) : (yfr b t p).toNatClampNeg + (yseg b t p).length = (yfr b t (p + 1)).toNatClampNeg := by
  obtain ⟨h1, h2, h3, -⟩ := hT p hp
  have e1 := tnc h1
  have e2 := tnc (Int.le_trans h1 h2)
  unfold yseg
  rw [List.length_take, List.length_drop, hL.2.2.2.2.1]
  omega
theorem yseg_get {b : Nat → List Int32} {t p : Nat} {i : Nat} (hi : i < (yseg b t p).length) : (b 4).getD (200 * t + (yfr b t p).toNatClampNeg + i) 0 = (yseg b t p).getD i 0 := by
  unfold yseg at hi ⊢
  rw [List.length_take] at hi
  rw [List.getD_eq_getElem?_getD, List.getD_eq_getElem?_getD, List.getElem?_take, if_pos (by omega), List.getElem?_drop]
theorem sp_y_says {s u m n : Nat → Int32} {a c b d : Nat → List Int32} {q : List (Option Nat)} {h : Nat} {z : mc_W} {pt : Int32} {p : Nat} {nm : List Int32} (hL : yL b) (hV : yV m b) (hp : p < 3) (hpt : pt = nI p) (hD : yD d) (hnm : d 2 = nm) : mc_T yX7_says cX7_says 5 (some .int) 2 [.ref 29, .int pt] (WW s a q u c h m b n d z) (some (.int (yev nm (yseg b (m 5).toNatClampNeg p) []))) (fun w' => ∃ d1, yD d1 ∧ d1 3 = d 3 ∧ w' = WW s a q u c h m b n d1 z) := by
  refine mc_start (own := RX7) (ini := false) rfl (by decide +kernel) (fun h => by cases h) (Nat.le_of_ble_eq_true rfl) ?_
  show mc_E _ _ _ _ _ [some (.ref 29), some (.int pt), none, none, none] [] _ _ _
  subst hpt
  have ht := nI_back hV.1
  have ht6 : (m 5).toNatClampNeg < 6 := by have := tnc hV.1; have := hV.2.1; omega
  generalize htt : (m 5).toNatClampNeg = t at ht ht6
  have hT : yT b t := htt ▸ hV.2.2
  obtain ⟨f1, f2, f3, f4⟩ := hT p hp
  have hS := nI_back f1
  have hE := nI_back (Int.le_trans f1 f2)
  have e1 := tnc f1
  have e2 := tnc (Int.le_trans f1 f2)
  have hiS : vp_in (4 * m 5 + nI p) (b 5).length := by
    rw [ht, show (4 : Int32) * nI t = nI (4 * t) from pk_mul 4 t, nI_add, hL.2.2.2.2.2.1]; exact vp_in_nI (by omega) (by decide)
  have hxS : (b 5).getD (4 * m 5 + nI p).toNatClampNeg 0 = nI (yfr b t p).toNatClampNeg := by
    rw [ht, show (4 : Int32) * nI t = nI (4 * t) from pk_mul 4 t, nI_add, nIc (by omega)]; exact hS
  refine e_iconst (v := 0) (pc := 0) dX7_says_0 (by decide) ?_
  refine e_isn2 (pc := 1) dX7_says_1 (Nat.le_of_ble_eq_true rfl) rfl ?_
  refine e_aloadn (pc := 2) dX7_says_2 rfl ?_
  refine e_get (pc := 3) dX7_says_3 fX7_32 rfl rfl ?_
  refine e_iconst (v := 4) (pc := 6) dX7_says_6 (by decide) ?_
  refine e_aloadn (pc := 7) dX7_says_7 rfl ?_
  refine e_get (pc := 8) dX7_says_8 fX7_83 rfl rfl ?_
  refine e_imul (pc := 11) dX7_says_11 ?_
  refine e_iloadn (pc := 12) dX7_says_12 rfl ?_
  refine e_iadd (pc := 13) dX7_says_13 ?_
  refine aldv_starts (pc := 14) dX7_says_14 hiS hxS ?_
  refine e_isn3 (pc := 15) dX7_says_15 (Nat.le_of_ble_eq_true rfl) rfl ?_
  exact lp_y_says hL ht ht6 hp hE (by omega) (yseg b t p) [] _ 0 d none hD hnm rfl rfl rfl (yseg_len hL hT ht6 hp) (fun i hi => yseg_get hi) f4 rfl
def ynm (m : Nat → Int32) (b : Nat → List Int32) (k v o : Int32) : List Int32 := [gt (b 1) k, k, v, o, m 0, m 1]
/-- what part p of the law says of clerk k -/
def yask (m : Nat → Int32) (b : Nat → List Int32) (p : Nat) (k v o : Int32) : Int32 := yy_wn (yev (ynm m b k v o) (yseg b (m 5).toNatClampNeg p) []) 0 (if p = 1 then 100 else 99999)
theorem set6 {l : List Int32} (h : l.length = 6) (x0 x1 x2 x3 x4 x5 : Int32) : (((((l.set 0 x0).set 1 x1).set 2 x2).set 3 x3).set 4 x4).set 5 x5 = [x0, x1, x2, x3, x4, x5] := by
  match l, h with
  | [_, _, _, _, _, _], _ => rfl
theorem nI_eq1 {p : Nat} (h : p < 3) : nI p = 1 ↔ p = 1 := nI_eq (a := p) (b := 1) (by omega) (by decide)
def yDn (d : Nat → List Int32) (l : List Int32) : Nat → List Int32 := mc_up d 2 l
theorem yD_set2 {d : Nat → List Int32} (hD : yD d) (k : Nat) (v : Int32) : yD (mc_up d 2 ((d 2).set k v)) := by
  refine ⟨hD.1, hD.2.1, ?_, hD.2.2.2⟩
  show ((d 2).set k v).length = 6
  rw [List.length_set]; exact hD.2.2.1
theorem sp_y_asksOf {s u m n : Nat → Int32} {a c b d : Nat → List Int32} {q : List (Option Nat)} {h : Nat} {z : mc_W} {pt k v o : Int32} {p : Nat} (hL : yL b) (hV : yV m b) (hp : p < 3) (hpt : pt = nI p) (h1 : vp_in k (b 1).length) (hD : yD d) : mc_T yX7_asksOf cX7_asksOf 5 (some .int) 3 [.ref 29, .int pt, .int k, .int v, .int o] (WW s a q u c h m b n d z) (some (.int (yask m b p k v o))) (fun w' => ∃ d1, yD d1 ∧ d1 3 = d 3 ∧ w' = WW s a q u c h m b n d1 z) := by
  refine mc_start (own := RX7) (ini := false) rfl (by decide +kernel) (fun h => by cases h) (Nat.le_of_ble_eq_true rfl) ?_
  show mc_E _ _ _ _ _ [some (.ref 29), some (.int pt), some (.int k), some (.int v), some (.int o)] [] _ _ _
  refine e_aloadn (pc := 0) dX7_asksOf_0 rfl ?_
  refine e_get (pc := 1) dX7_asksOf_1 fX7_59 rfl rfl ?_
  refine e_iconst (v := 0) (pc := 4) dX7_asksOf_4 (by decide) ?_
  refine e_aloadn (pc := 5) dX7_asksOf_5 rfl ?_
  refine e_get (pc := 6) dX7_asksOf_6 fX7_20 rfl rfl ?_
  refine e_iloadn (pc := 9) dX7_asksOf_9 rfl ?_
  refine ald_ymore (pc := 10) dX7_asksOf_10 h1 ?_
  refine ast_named (pc := 11) dX7_asksOf_11 (by first | (rw [hD.2.2.1]; exact vp_in_nI (n := 0) (by decide) (by decide)) | (show vp_in _ (List.length (mc_up _ 2 _ 2)); simp only [mc_up, if_true, List.length_set, hD.2.2.1]; exact vp_in_nI (n := 0) (by decide) (by decide))) ?_
  refine e_aloadn (pc := 12) dX7_asksOf_12 rfl ?_
  refine e_get (pc := 13) dX7_asksOf_13 fX7_59 rfl rfl ?_
  refine e_iconst (v := 1) (pc := 16) dX7_asksOf_16 (by decide) ?_
  refine e_iloadn (pc := 17) dX7_asksOf_17 rfl ?_
  refine ast_named (pc := 18) dX7_asksOf_18 (by first | (rw [hD.2.2.1]; exact vp_in_nI (n := 1) (by decide) (by decide)) | (show vp_in _ (List.length (mc_up _ 2 _ 2)); simp only [mc_up, if_true, List.length_set, hD.2.2.1]; exact vp_in_nI (n := 1) (by decide) (by decide))) ?_
  refine e_aloadn (pc := 19) dX7_asksOf_19 rfl ?_
  refine e_get (pc := 20) dX7_asksOf_20 fX7_59 rfl rfl ?_
  refine e_iconst (v := 2) (pc := 23) dX7_asksOf_23 (by decide) ?_
  refine e_iloadn (pc := 24) dX7_asksOf_24 rfl ?_
  refine ast_named (pc := 25) dX7_asksOf_25 (by first | (rw [hD.2.2.1]; exact vp_in_nI (n := 2) (by decide) (by decide)) | (show vp_in _ (List.length (mc_up _ 2 _ 2)); simp only [mc_up, if_true, List.length_set, hD.2.2.1]; exact vp_in_nI (n := 2) (by decide) (by decide))) ?_
  refine e_aloadn (pc := 26) dX7_asksOf_26 rfl ?_
  refine e_get (pc := 27) dX7_asksOf_27 fX7_59 rfl rfl ?_
  refine e_iconst (v := 3) (pc := 30) dX7_asksOf_30 (by decide) ?_
  refine e_iload (pc := 31) dX7_asksOf_31 rfl ?_
  refine ast_named (pc := 33) dX7_asksOf_33 (by first | (rw [hD.2.2.1]; exact vp_in_nI (n := 3) (by decide) (by decide)) | (show vp_in _ (List.length (mc_up _ 2 _ 2)); simp only [mc_up, if_true, List.length_set, hD.2.2.1]; exact vp_in_nI (n := 3) (by decide) (by decide))) ?_
  refine e_aloadn (pc := 34) dX7_asksOf_34 rfl ?_
  refine e_get (pc := 35) dX7_asksOf_35 fX7_59 rfl rfl ?_
  refine e_iconst (v := 4) (pc := 38) dX7_asksOf_38 (by decide) ?_
  refine e_aloadn (pc := 39) dX7_asksOf_39 rfl ?_
  refine e_get (pc := 40) dX7_asksOf_40 fX7_7 rfl rfl ?_
  refine ast_named (pc := 43) dX7_asksOf_43 (by first | (rw [hD.2.2.1]; exact vp_in_nI (n := 4) (by decide) (by decide)) | (show vp_in _ (List.length (mc_up _ 2 _ 2)); simp only [mc_up, if_true, List.length_set, hD.2.2.1]; exact vp_in_nI (n := 4) (by decide) (by decide))) ?_
  refine e_aloadn (pc := 44) dX7_asksOf_44 rfl ?_
  refine e_get (pc := 45) dX7_asksOf_45 fX7_59 rfl rfl ?_
  refine e_iconst (v := 5) (pc := 48) dX7_asksOf_48 (by decide) ?_
  refine e_aloadn (pc := 49) dX7_asksOf_49 rfl ?_
  refine e_get (pc := 50) dX7_asksOf_50 fX7_13 rfl rfl ?_
  refine ast_named (pc := 53) dX7_asksOf_53 (by first | (rw [hD.2.2.1]; exact vp_in_nI (n := 5) (by decide) (by decide)) | (show vp_in _ (List.length (mc_up _ 2 _ 2)); simp only [mc_up, if_true, List.length_set, hD.2.2.1]; exact vp_in_nI (n := 5) (by decide) (by decide))) ?_
  refine e_aloadn (pc := 54) dX7_asksOf_54 rfl ?_
  refine e_iloadn (pc := 55) dX7_asksOf_55 rfl ?_
  refine e_cvX (pc := 56) (sp_y_says (nm := ynm m b k v o) hL hV hp hpt (by exact yD_set2 (yD_set2 (yD_set2 (yD_set2 (yD_set2 (yD_set2 hD _ _) _ _) _ _) _ _) _ _) _ _) (by exact set6 hD.2.2.1 _ _ _ _ _ _)) dX7_asksOf_56 kX7_153 rfl rfl rfl rfl rfl (mc_CR_of (Nat.le_of_ble_eq_true rfl) (Nat.le_of_ble_eq_true rfl) (Nat.le_refl _) (Nat.le_refl _)) (Nat.le_of_ble_eq_true rfl) (fun w1 hw1 => ?_)
  obtain ⟨d1, hD1, g3, rfl⟩ := hw1
  refine e_iconst (v := 0) (pc := 59) dX7_asksOf_59 (by decide) ?_
  refine e_iloadn (pc := 60) dX7_asksOf_60 rfl ?_
  refine e_iconst (v := 1) (pc := 61) dX7_asksOf_61 (by decide) ?_
  refine e_icmp_ne (pc := 62) dX7_asksOf_62 (t := 70) (by decide) (fun c_62 => ?_) (fun c_62 => ?_)
  · skip
    refine e_ldc (pc := 70) dX7_asksOf_70 qX7_79 ?_
    refine e_csD (pc := 72) (sp_y_within) dX7_asksOf_72 kX7_156 rfl rfl (mc_CR_of (Nat.le_of_ble_eq_true rfl) (Nat.le_of_ble_eq_true rfl) (Nat.le_refl _) (Nat.le_refl _)) (Nat.le_of_ble_eq_true rfl) ?_
    exact e_iret (pc := 75) dX7_asksOf_75 rfl (Nat.le_refl _) (Nat.le_refl _) ⟨(by unfold yask; first | rw [if_pos ((nI_eq1 hp).mp (hpt ▸ (by assumption)))] | rw [if_neg (fun e => (by assumption : ¬ pt = 1) (hpt.trans ((nI_eq1 hp).mpr e)))]), d1, hD1, g3, rfl⟩
  · skip
    refine e_bipush (v := 100) (pc := 65) dX7_asksOf_65 (by decide) ?_
    refine e_goto (pc := 67) dX7_asksOf_67 (t := 72) (by decide) ?_
    refine e_csD (pc := 72) (sp_y_within) dX7_asksOf_72 kX7_156 rfl rfl (mc_CR_of (Nat.le_of_ble_eq_true rfl) (Nat.le_of_ble_eq_true rfl) (Nat.le_refl _) (Nat.le_refl _)) (Nat.le_of_ble_eq_true rfl) ?_
    exact e_iret (pc := 75) dX7_asksOf_75 rfl (Nat.le_refl _) (Nat.le_refl _) ⟨(by unfold yask; first | rw [if_pos ((nI_eq1 hp).mp (hpt ▸ (by assumption)))] | rw [if_neg (fun e => (by assumption : ¬ pt = 1) (hpt.trans ((nI_eq1 hp).mpr e)))]), d1, hD1, g3, rfl⟩
def yasks (m : Nat → Int32) (b : Nat → List Int32) (pt k v o : Int32) : Int32 := if (mc_wi pt 0 2 && mc_wi k 0 (m 2 - 1) && mc_wi v 0 99999 && mc_wi o 0 99999) = true then yask m b pt.toNatClampNeg k v o else -2
theorem sp_y_asks {s u m n : Nat → Int32} {a c b d : Nat → List Int32} {q : List (Option Nat)} {h : Nat} {z : mc_W} {pt k v o : Int32} (hL : yL b) (hC : yC m) (hV : yV m b) (hD : yD d) : mc_T yX7_asks cX7_asks 5 (some .int) 4 [.ref 29, .int pt, .int k, .int v, .int o] (WW s a q u c h m b n d z) (some (.int (yasks m b pt k v o))) (fun w' => ∃ d1, yD d1 ∧ d1 3 = d 3 ∧ w' = WW s a q u c h m b n d1 z) := by
  refine mc_start (own := RX7) (ini := false) rfl (by decide +kernel) (fun h => by cases h) (Nat.le_of_ble_eq_true rfl) ?_
  show mc_E _ _ _ _ _ [some (.ref 29), some (.int pt), some (.int k), some (.int v), some (.int o)] [] _ _ _
  have hpp : mc_wi pt 0 2 = true → pt.toNatClampNeg < 3 ∧ pt = nI pt.toNatClampNeg := fun h => by
    rw [mc_wi_iff] at h
    have e0 : (0 : Int32).toInt = 0 := rfl
    have e2 : (2 : Int32).toInt = 2 := rfl
    rw [e0, e2] at h
    have := tnc h.1
    exact ⟨by omega, nI_back h.1⟩
  refine e_iloadn (pc := 0) dX7_asks_0 rfl ?_
  refine e_iconst (v := 0) (pc := 1) dX7_asks_1 (by decide) ?_
  refine e_iconst (v := 2) (pc := 2) dX7_asks_2 (by decide) ?_
  refine e_csD (pc := 3) (sp_y_in) dX7_asks_3 kX7_75 rfl rfl (mc_CR_of (Nat.le_of_ble_eq_true rfl) (Nat.le_of_ble_eq_true rfl) (Nat.le_refl _) (Nat.le_refl _)) (Nat.le_of_ble_eq_true rfl) ?_
  refine e_if_eq (pc := 6) dX7_asks_6 (t := 44) (by decide) (fun c_6 => ?_) (fun c_6 => ?_)
  · skip
    refine e_bipush (v := -2) (pc := 44) dX7_asks_44 (by decide) ?_
    exact e_iret (pc := 46) dX7_asks_46 rfl (Nat.le_refl _) (Nat.le_refl _) ⟨(by clear hpp; first | rfl | (simp [yasks, *]; done) | ((try simp only [mc_cmp_le, mc_cmp_ge, mc_cmp_eq, mc_cmp_lt, mc_cmp_gt, mc_b0, mc_b1, Bool.not_eq_false, Bool.not_eq_true] at *); (try simp only [← Int32.not_lt, ← Int64.not_lt, Classical.not_not] at *); simp [yasks, *]; done) | (simp_all [yasks, mc_b0]; done) | (simp_all [yasks, Int32.le_iff_toInt_le, Int32.lt_iff_toInt_lt] <;> omega)), by first | exact ⟨d1, hD1, g3, rfl⟩ | exact ⟨d, hD, rfl, rfl⟩⟩
  · skip
    refine e_aloadn (pc := 9) dX7_asks_9 rfl ?_
    refine e_iloadn (pc := 10) dX7_asks_10 rfl ?_
    refine e_cvD (pc := 11) (sp_y_isClerk) dX7_asks_11 kX7_159 rfl rfl rfl rfl rfl (mc_CR_of (Nat.le_of_ble_eq_true rfl) (Nat.le_of_ble_eq_true rfl) (Nat.le_refl _) (Nat.le_refl _)) (Nat.le_of_ble_eq_true rfl) ?_
    refine e_if_eq (pc := 14) dX7_asks_14 (t := 44) (by decide) (fun c_14 => ?_) (fun c_14 => ?_)
    · skip
      refine e_bipush (v := -2) (pc := 44) dX7_asks_44 (by decide) ?_
      exact e_iret (pc := 46) dX7_asks_46 rfl (Nat.le_refl _) (Nat.le_refl _) ⟨(by clear hpp; first | rfl | (simp [yasks, *]; done) | ((try simp only [mc_cmp_le, mc_cmp_ge, mc_cmp_eq, mc_cmp_lt, mc_cmp_gt, mc_b0, mc_b1, Bool.not_eq_false, Bool.not_eq_true] at *); (try simp only [← Int32.not_lt, ← Int64.not_lt, Classical.not_not] at *); simp [yasks, *]; done) | (simp_all [yasks, mc_b0]; done) | (simp_all [yasks, Int32.le_iff_toInt_le, Int32.lt_iff_toInt_lt] <;> omega)), by first | exact ⟨d1, hD1, g3, rfl⟩ | exact ⟨d, hD, rfl, rfl⟩⟩
    · skip
      refine e_iloadn (pc := 17) dX7_asks_17 rfl ?_
      refine e_csD (pc := 18) (sp_y_isNumber) dX7_asks_18 kX7_162 rfl rfl (mc_CR_of (Nat.le_of_ble_eq_true rfl) (Nat.le_of_ble_eq_true rfl) (Nat.le_refl _) (Nat.le_refl _)) (Nat.le_of_ble_eq_true rfl) ?_
      refine e_if_eq (pc := 21) dX7_asks_21 (t := 44) (by decide) (fun c_21 => ?_) (fun c_21 => ?_)
      · skip
        refine e_bipush (v := -2) (pc := 44) dX7_asks_44 (by decide) ?_
        exact e_iret (pc := 46) dX7_asks_46 rfl (Nat.le_refl _) (Nat.le_refl _) ⟨(by clear hpp; first | rfl | (simp [yasks, *]; done) | ((try simp only [mc_cmp_le, mc_cmp_ge, mc_cmp_eq, mc_cmp_lt, mc_cmp_gt, mc_b0, mc_b1, Bool.not_eq_false, Bool.not_eq_true] at *); (try simp only [← Int32.not_lt, ← Int64.not_lt, Classical.not_not] at *); simp [yasks, *]; done) | (simp_all [yasks, mc_b0]; done) | (simp_all [yasks, Int32.le_iff_toInt_le, Int32.lt_iff_toInt_lt] <;> omega)), by first | exact ⟨d1, hD1, g3, rfl⟩ | exact ⟨d, hD, rfl, rfl⟩⟩
      · skip
        refine e_iload (pc := 24) dX7_asks_24 rfl ?_
        refine e_csD (pc := 26) (sp_y_isNumber) dX7_asks_26 kX7_162 rfl rfl (mc_CR_of (Nat.le_of_ble_eq_true rfl) (Nat.le_of_ble_eq_true rfl) (Nat.le_refl _) (Nat.le_refl _)) (Nat.le_of_ble_eq_true rfl) ?_
        refine e_if_eq (pc := 29) dX7_asks_29 (t := 44) (by decide) (fun c_29 => ?_) (fun c_29 => ?_)
        · skip
          refine e_bipush (v := -2) (pc := 44) dX7_asks_44 (by decide) ?_
          exact e_iret (pc := 46) dX7_asks_46 rfl (Nat.le_refl _) (Nat.le_refl _) ⟨(by clear hpp; first | rfl | (simp [yasks, *]; done) | ((try simp only [mc_cmp_le, mc_cmp_ge, mc_cmp_eq, mc_cmp_lt, mc_cmp_gt, mc_b0, mc_b1, Bool.not_eq_false, Bool.not_eq_true] at *); (try simp only [← Int32.not_lt, ← Int64.not_lt, Classical.not_not] at *); simp [yasks, *]; done) | (simp_all [yasks, mc_b0]; done) | (simp_all [yasks, Int32.le_iff_toInt_le, Int32.lt_iff_toInt_lt] <;> omega)), by first | exact ⟨d1, hD1, g3, rfl⟩ | exact ⟨d, hD, rfl, rfl⟩⟩
        · skip
          refine e_aloadn (pc := 32) dX7_asks_32 rfl ?_
          refine e_iloadn (pc := 33) dX7_asks_33 rfl ?_
          refine e_iloadn (pc := 34) dX7_asks_34 rfl ?_
          refine e_iloadn (pc := 35) dX7_asks_35 rfl ?_
          refine e_iload (pc := 36) dX7_asks_36 rfl ?_
          refine e_cvX (pc := 38) (sp_y_asksOf hL hV (hpp (by simpa [mc_b0] using c_6)).1 (hpp (by simpa [mc_b0] using c_6)).2 (by rw [hL.2.1]; exact vp_in_wi (by simpa [mc_b0] using c_14) hC.1 hC.2 (by decide)) hD) dX7_asks_38 kX7_165 rfl rfl rfl rfl rfl (mc_CR_of (Nat.le_of_ble_eq_true rfl) (Nat.le_of_ble_eq_true rfl) (Nat.le_refl _) (Nat.le_refl _)) (Nat.le_of_ble_eq_true rfl) (fun w1 hw1 => ?_)
          obtain ⟨d1, hD1, g3, rfl⟩ := hw1
          refine e_goto (pc := 41) dX7_asks_41 (t := 46) (by decide) ?_
          exact e_iret (pc := 46) dX7_asks_46 rfl (Nat.le_refl _) (Nat.le_refl _) ⟨(by clear hpp; first | rfl | (simp [yasks, *]; done) | ((try simp only [mc_cmp_le, mc_cmp_ge, mc_cmp_eq, mc_cmp_lt, mc_cmp_gt, mc_b0, mc_b1, Bool.not_eq_false, Bool.not_eq_true] at *); (try simp only [← Int32.not_lt, ← Int64.not_lt, Classical.not_not] at *); simp [yasks, *]; done) | (simp_all [yasks, mc_b0]; done) | (simp_all [yasks, Int32.le_iff_toInt_le, Int32.lt_iff_toInt_lt] <;> omega)), by first | exact ⟨d1, hD1, g3, rfl⟩ | exact ⟨d, hD, rfl, rfl⟩⟩
/-- what clerk k makes of v -/
def ymk0 (m : Nat → Int32) (b : Nat → List Int32) (k v : Int32) : Int32 := if v = 0 then yask m b 0 k 0 0 else v
def ymk (m : Nat → Int32) (b : Nat → List Int32) (k v : Int32) : Int32 :=
  if gt (b 0) k = 5 then v
  else if gt (b 0) k = 2 then ymk0 m b k v + (if v - v / 10 * 10 = 0 then 1 else 0)
  else if gt (b 0) k = 4 then ymk0 m b k v + (if v - v / 10 * 10 = 0 then 1 else 0) + gt (b 1) k
  else ymk0 m b k v + 0
set_option maxHeartbeats 1000000 in
theorem sp_y_makesOf {s u m n : Nat → Int32} {a c b d : Nat → List Int32} {q : List (Option Nat)} {h : Nat} {z : mc_W} {k v : Int32} (hL : yL b) (hV : yV m b) (h0 : vp_in k (b 0).length) (h1 : vp_in k (b 1).length) (hD : yD d) : mc_T yX7_makesOf cX7_makesOf 4 (some .int) 4 [.ref 29, .int k, .int v] (WW s a q u c h m b n d z) (some (.int (ymk m b k v))) (fun w' => ∃ d1, yD d1 ∧ d1 3 = d 3 ∧ w' = WW s a q u c h m b n d1 z) := by
  refine mc_start (own := RX7) (ini := false) rfl (by decide +kernel) (fun h => by cases h) (Nat.le_of_ble_eq_true rfl) ?_
  show mc_E _ _ _ _ _ [some (.ref 29), some (.int k), some (.int v), none] [] _ _ _
  refine e_aloadn (pc := 0) dX7_makesOf_0 rfl ?_
  refine e_get (pc := 1) dX7_makesOf_1 fX7_16 rfl rfl ?_
  refine e_iloadn (pc := 4) dX7_makesOf_4 rfl ?_
  refine ald_kind (pc := 5) dX7_makesOf_5 (by assumption) ?_
  refine e_iconst (v := 5) (pc := 6) dX7_makesOf_6 (by decide) ?_
  refine e_icmp_ne (pc := 7) dX7_makesOf_7 (t := 12) (by decide) (fun c_7 => ?_) (fun c_7 => ?_)
  · skip
    refine e_iloadn (pc := 12) dX7_makesOf_12 rfl ?_
    refine e_if_ne (pc := 13) dX7_makesOf_13 (t := 27) (by decide) (fun c_13 => ?_) (fun c_13 => ?_)
    · skip
      refine e_iloadn (pc := 27) dX7_makesOf_27 rfl ?_
      refine e_isn3 (pc := 28) dX7_makesOf_28 (Nat.le_of_ble_eq_true rfl) rfl ?_
      refine e_iloadn (pc := 29) dX7_makesOf_29 rfl ?_
      refine e_aloadn (pc := 30) dX7_makesOf_30 rfl ?_
      refine e_get (pc := 31) dX7_makesOf_31 fX7_16 rfl rfl ?_
      refine e_iloadn (pc := 34) dX7_makesOf_34 rfl ?_
      refine ald_kind (pc := 35) dX7_makesOf_35 (by assumption) ?_
      refine e_iconst (v := 2) (pc := 36) dX7_makesOf_36 (by decide) ?_
      refine e_icmp_eq (pc := 37) dX7_makesOf_37 (t := 50) (by decide) (fun c_37 => ?_) (fun c_37 => ?_)
      · skip
        refine e_iloadn (pc := 50) dX7_makesOf_50 rfl ?_
        refine e_bipush (v := 10) (pc := 51) dX7_makesOf_51 (by decide) ?_
        refine e_irem (pc := 53) dX7_makesOf_53 (by decide) ?_
        refine e_if_ne (pc := 54) dX7_makesOf_54 (t := 61) (by decide) (fun c_54 => ?_) (fun c_54 => ?_)
        · skip
          refine e_iconst (v := 0) (pc := 61) dX7_makesOf_61 (by decide) ?_
          refine e_goto (pc := 62) dX7_makesOf_62 (t := 66) (by decide) ?_
          refine e_iadd (pc := 66) dX7_makesOf_66 ?_
          refine e_isn3 (pc := 67) dX7_makesOf_67 (Nat.le_of_ble_eq_true rfl) rfl ?_
          refine e_aloadn (pc := 68) dX7_makesOf_68 rfl ?_
          refine e_get (pc := 69) dX7_makesOf_69 fX7_16 rfl rfl ?_
          refine e_iloadn (pc := 72) dX7_makesOf_72 rfl ?_
          refine ald_kind (pc := 73) dX7_makesOf_73 (by assumption) ?_
          refine e_iconst (v := 4) (pc := 74) dX7_makesOf_74 (by decide) ?_
          refine e_icmp_ne (pc := 75) dX7_makesOf_75 (t := 89) (by decide) (fun c_75 => ?_) (fun c_75 => ?_)
          · skip
            refine e_iloadn (pc := 89) dX7_makesOf_89 rfl ?_
            exact e_iret (pc := 90) dX7_makesOf_90 rfl (Nat.le_refl _) (Nat.le_refl _) ⟨(by first | rfl | (simp [ymk, ymk0, gt, *]; done) | ((try simp only [mc_cmp_le, mc_cmp_ge, mc_cmp_eq, mc_cmp_lt, mc_cmp_gt, mc_b0, mc_b1, Bool.not_eq_false, Bool.not_eq_true] at *); (try simp only [← Int32.not_lt, ← Int64.not_lt, Classical.not_not] at *); simp [ymk, ymk0, gt, *]; done) | (simp_all [ymk, ymk0, gt, mc_b0]; done) | (simp_all [ymk, ymk0, gt, Int32.le_iff_toInt_le, Int32.lt_iff_toInt_lt] <;> omega)), by first | exact ⟨d1, hD1, g3, rfl⟩ | exact ⟨d, hD, rfl, rfl⟩⟩
          · skip
            refine e_iloadn (pc := 78) dX7_makesOf_78 rfl ?_
            refine e_aloadn (pc := 79) dX7_makesOf_79 rfl ?_
            refine e_get (pc := 80) dX7_makesOf_80 fX7_20 rfl rfl ?_
            refine e_iloadn (pc := 83) dX7_makesOf_83 rfl ?_
            refine ald_ymore (pc := 84) dX7_makesOf_84 (by assumption) ?_
            refine e_iadd (pc := 85) dX7_makesOf_85 ?_
            refine e_goto (pc := 86) dX7_makesOf_86 (t := 90) (by decide) ?_
            exact e_iret (pc := 90) dX7_makesOf_90 rfl (Nat.le_refl _) (Nat.le_refl _) ⟨(by first | rfl | (simp [ymk, ymk0, gt, *]; done) | ((try simp only [mc_cmp_le, mc_cmp_ge, mc_cmp_eq, mc_cmp_lt, mc_cmp_gt, mc_b0, mc_b1, Bool.not_eq_false, Bool.not_eq_true] at *); (try simp only [← Int32.not_lt, ← Int64.not_lt, Classical.not_not] at *); simp [ymk, ymk0, gt, *]; done) | (simp_all [ymk, ymk0, gt, mc_b0]; done) | (simp_all [ymk, ymk0, gt, Int32.le_iff_toInt_le, Int32.lt_iff_toInt_lt] <;> omega)), by first | exact ⟨d1, hD1, g3, rfl⟩ | exact ⟨d, hD, rfl, rfl⟩⟩
        · skip
          refine e_iconst (v := 1) (pc := 57) dX7_makesOf_57 (by decide) ?_
          refine e_goto (pc := 58) dX7_makesOf_58 (t := 66) (by decide) ?_
          refine e_iadd (pc := 66) dX7_makesOf_66 ?_
          refine e_isn3 (pc := 67) dX7_makesOf_67 (Nat.le_of_ble_eq_true rfl) rfl ?_
          refine e_aloadn (pc := 68) dX7_makesOf_68 rfl ?_
          refine e_get (pc := 69) dX7_makesOf_69 fX7_16 rfl rfl ?_
          refine e_iloadn (pc := 72) dX7_makesOf_72 rfl ?_
          refine ald_kind (pc := 73) dX7_makesOf_73 (by assumption) ?_
          refine e_iconst (v := 4) (pc := 74) dX7_makesOf_74 (by decide) ?_
          refine e_icmp_ne (pc := 75) dX7_makesOf_75 (t := 89) (by decide) (fun c_75 => ?_) (fun c_75 => ?_)
          · skip
            refine e_iloadn (pc := 89) dX7_makesOf_89 rfl ?_
            exact e_iret (pc := 90) dX7_makesOf_90 rfl (Nat.le_refl _) (Nat.le_refl _) ⟨(by first | rfl | (simp [ymk, ymk0, gt, *]; done) | ((try simp only [mc_cmp_le, mc_cmp_ge, mc_cmp_eq, mc_cmp_lt, mc_cmp_gt, mc_b0, mc_b1, Bool.not_eq_false, Bool.not_eq_true] at *); (try simp only [← Int32.not_lt, ← Int64.not_lt, Classical.not_not] at *); simp [ymk, ymk0, gt, *]; done) | (simp_all [ymk, ymk0, gt, mc_b0]; done) | (simp_all [ymk, ymk0, gt, Int32.le_iff_toInt_le, Int32.lt_iff_toInt_lt] <;> omega)), by first | exact ⟨d1, hD1, g3, rfl⟩ | exact ⟨d, hD, rfl, rfl⟩⟩
          · skip
            refine e_iloadn (pc := 78) dX7_makesOf_78 rfl ?_
            refine e_aloadn (pc := 79) dX7_makesOf_79 rfl ?_
            refine e_get (pc := 80) dX7_makesOf_80 fX7_20 rfl rfl ?_
            refine e_iloadn (pc := 83) dX7_makesOf_83 rfl ?_
            refine ald_ymore (pc := 84) dX7_makesOf_84 (by assumption) ?_
            refine e_iadd (pc := 85) dX7_makesOf_85 ?_
            refine e_goto (pc := 86) dX7_makesOf_86 (t := 90) (by decide) ?_
            exact e_iret (pc := 90) dX7_makesOf_90 rfl (Nat.le_refl _) (Nat.le_refl _) ⟨(by first | rfl | (simp [ymk, ymk0, gt, *]; done) | ((try simp only [mc_cmp_le, mc_cmp_ge, mc_cmp_eq, mc_cmp_lt, mc_cmp_gt, mc_b0, mc_b1, Bool.not_eq_false, Bool.not_eq_true] at *); (try simp only [← Int32.not_lt, ← Int64.not_lt, Classical.not_not] at *); simp [ymk, ymk0, gt, *]; done) | (simp_all [ymk, ymk0, gt, mc_b0]; done) | (simp_all [ymk, ymk0, gt, Int32.le_iff_toInt_le, Int32.lt_iff_toInt_lt] <;> omega)), by first | exact ⟨d1, hD1, g3, rfl⟩ | exact ⟨d, hD, rfl, rfl⟩⟩
      · skip
        refine e_aloadn (pc := 40) dX7_makesOf_40 rfl ?_
        refine e_get (pc := 41) dX7_makesOf_41 fX7_16 rfl rfl ?_
        refine e_iloadn (pc := 44) dX7_makesOf_44 rfl ?_
        refine ald_kind (pc := 45) dX7_makesOf_45 (by assumption) ?_
        refine e_iconst (v := 4) (pc := 46) dX7_makesOf_46 (by decide) ?_
        refine e_icmp_ne (pc := 47) dX7_makesOf_47 (t := 65) (by decide) (fun c_47 => ?_) (fun c_47 => ?_)
        · skip
          refine e_iconst (v := 0) (pc := 65) dX7_makesOf_65 (by decide) ?_
          refine e_iadd (pc := 66) dX7_makesOf_66 ?_
          refine e_isn3 (pc := 67) dX7_makesOf_67 (Nat.le_of_ble_eq_true rfl) rfl ?_
          refine e_aloadn (pc := 68) dX7_makesOf_68 rfl ?_
          refine e_get (pc := 69) dX7_makesOf_69 fX7_16 rfl rfl ?_
          refine e_iloadn (pc := 72) dX7_makesOf_72 rfl ?_
          refine ald_kind (pc := 73) dX7_makesOf_73 (by assumption) ?_
          refine e_iconst (v := 4) (pc := 74) dX7_makesOf_74 (by decide) ?_
          refine e_icmp_ne (pc := 75) dX7_makesOf_75 (t := 89) (by decide) (fun c_75 => ?_) (fun c_75 => ?_)
          · skip
            refine e_iloadn (pc := 89) dX7_makesOf_89 rfl ?_
            exact e_iret (pc := 90) dX7_makesOf_90 rfl (Nat.le_refl _) (Nat.le_refl _) ⟨(by first | rfl | (simp [ymk, ymk0, gt, *]; done) | ((try simp only [mc_cmp_le, mc_cmp_ge, mc_cmp_eq, mc_cmp_lt, mc_cmp_gt, mc_b0, mc_b1, Bool.not_eq_false, Bool.not_eq_true] at *); (try simp only [← Int32.not_lt, ← Int64.not_lt, Classical.not_not] at *); simp [ymk, ymk0, gt, *]; done) | (simp_all [ymk, ymk0, gt, mc_b0]; done) | (simp_all [ymk, ymk0, gt, Int32.le_iff_toInt_le, Int32.lt_iff_toInt_lt] <;> omega)), by first | exact ⟨d1, hD1, g3, rfl⟩ | exact ⟨d, hD, rfl, rfl⟩⟩
          · skip
            refine e_iloadn (pc := 78) dX7_makesOf_78 rfl ?_
            refine e_aloadn (pc := 79) dX7_makesOf_79 rfl ?_
            refine e_get (pc := 80) dX7_makesOf_80 fX7_20 rfl rfl ?_
            refine e_iloadn (pc := 83) dX7_makesOf_83 rfl ?_
            refine ald_ymore (pc := 84) dX7_makesOf_84 (by assumption) ?_
            refine e_iadd (pc := 85) dX7_makesOf_85 ?_
            refine e_goto (pc := 86) dX7_makesOf_86 (t := 90) (by decide) ?_
            exact e_iret (pc := 90) dX7_makesOf_90 rfl (Nat.le_refl _) (Nat.le_refl _) ⟨(by first | rfl | (simp [ymk, ymk0, gt, *]; done) | ((try simp only [mc_cmp_le, mc_cmp_ge, mc_cmp_eq, mc_cmp_lt, mc_cmp_gt, mc_b0, mc_b1, Bool.not_eq_false, Bool.not_eq_true] at *); (try simp only [← Int32.not_lt, ← Int64.not_lt, Classical.not_not] at *); simp [ymk, ymk0, gt, *]; done) | (simp_all [ymk, ymk0, gt, mc_b0]; done) | (simp_all [ymk, ymk0, gt, Int32.le_iff_toInt_le, Int32.lt_iff_toInt_lt] <;> omega)), by first | exact ⟨d1, hD1, g3, rfl⟩ | exact ⟨d, hD, rfl, rfl⟩⟩
        · skip
          refine e_iloadn (pc := 50) dX7_makesOf_50 rfl ?_
          refine e_bipush (v := 10) (pc := 51) dX7_makesOf_51 (by decide) ?_
          refine e_irem (pc := 53) dX7_makesOf_53 (by decide) ?_
          refine e_if_ne (pc := 54) dX7_makesOf_54 (t := 61) (by decide) (fun c_54 => ?_) (fun c_54 => ?_)
          · skip
            refine e_iconst (v := 0) (pc := 61) dX7_makesOf_61 (by decide) ?_
            refine e_goto (pc := 62) dX7_makesOf_62 (t := 66) (by decide) ?_
            refine e_iadd (pc := 66) dX7_makesOf_66 ?_
            refine e_isn3 (pc := 67) dX7_makesOf_67 (Nat.le_of_ble_eq_true rfl) rfl ?_
            refine e_aloadn (pc := 68) dX7_makesOf_68 rfl ?_
            refine e_get (pc := 69) dX7_makesOf_69 fX7_16 rfl rfl ?_
            refine e_iloadn (pc := 72) dX7_makesOf_72 rfl ?_
            refine ald_kind (pc := 73) dX7_makesOf_73 (by assumption) ?_
            refine e_iconst (v := 4) (pc := 74) dX7_makesOf_74 (by decide) ?_
            refine e_icmp_ne (pc := 75) dX7_makesOf_75 (t := 89) (by decide) (fun c_75 => ?_) (fun c_75 => ?_)
            · skip
              refine e_iloadn (pc := 89) dX7_makesOf_89 rfl ?_
              exact e_iret (pc := 90) dX7_makesOf_90 rfl (Nat.le_refl _) (Nat.le_refl _) ⟨(by first | rfl | (simp [ymk, ymk0, gt, *]; done) | ((try simp only [mc_cmp_le, mc_cmp_ge, mc_cmp_eq, mc_cmp_lt, mc_cmp_gt, mc_b0, mc_b1, Bool.not_eq_false, Bool.not_eq_true] at *); (try simp only [← Int32.not_lt, ← Int64.not_lt, Classical.not_not] at *); simp [ymk, ymk0, gt, *]; done) | (simp_all [ymk, ymk0, gt, mc_b0]; done) | (simp_all [ymk, ymk0, gt, Int32.le_iff_toInt_le, Int32.lt_iff_toInt_lt] <;> omega)), by first | exact ⟨d1, hD1, g3, rfl⟩ | exact ⟨d, hD, rfl, rfl⟩⟩
            · skip
              refine e_iloadn (pc := 78) dX7_makesOf_78 rfl ?_
              refine e_aloadn (pc := 79) dX7_makesOf_79 rfl ?_
              refine e_get (pc := 80) dX7_makesOf_80 fX7_20 rfl rfl ?_
              refine e_iloadn (pc := 83) dX7_makesOf_83 rfl ?_
              refine ald_ymore (pc := 84) dX7_makesOf_84 (by assumption) ?_
              refine e_iadd (pc := 85) dX7_makesOf_85 ?_
              refine e_goto (pc := 86) dX7_makesOf_86 (t := 90) (by decide) ?_
              exact e_iret (pc := 90) dX7_makesOf_90 rfl (Nat.le_refl _) (Nat.le_refl _) ⟨(by first | rfl | (simp [ymk, ymk0, gt, *]; done) | ((try simp only [mc_cmp_le, mc_cmp_ge, mc_cmp_eq, mc_cmp_lt, mc_cmp_gt, mc_b0, mc_b1, Bool.not_eq_false, Bool.not_eq_true] at *); (try simp only [← Int32.not_lt, ← Int64.not_lt, Classical.not_not] at *); simp [ymk, ymk0, gt, *]; done) | (simp_all [ymk, ymk0, gt, mc_b0]; done) | (simp_all [ymk, ymk0, gt, Int32.le_iff_toInt_le, Int32.lt_iff_toInt_lt] <;> omega)), by first | exact ⟨d1, hD1, g3, rfl⟩ | exact ⟨d, hD, rfl, rfl⟩⟩
          · skip
            refine e_iconst (v := 1) (pc := 57) dX7_makesOf_57 (by decide) ?_
            refine e_goto (pc := 58) dX7_makesOf_58 (t := 66) (by decide) ?_
            refine e_iadd (pc := 66) dX7_makesOf_66 ?_
            refine e_isn3 (pc := 67) dX7_makesOf_67 (Nat.le_of_ble_eq_true rfl) rfl ?_
            refine e_aloadn (pc := 68) dX7_makesOf_68 rfl ?_
            refine e_get (pc := 69) dX7_makesOf_69 fX7_16 rfl rfl ?_
            refine e_iloadn (pc := 72) dX7_makesOf_72 rfl ?_
            refine ald_kind (pc := 73) dX7_makesOf_73 (by assumption) ?_
            refine e_iconst (v := 4) (pc := 74) dX7_makesOf_74 (by decide) ?_
            refine e_icmp_ne (pc := 75) dX7_makesOf_75 (t := 89) (by decide) (fun c_75 => ?_) (fun c_75 => ?_)
            · skip
              refine e_iloadn (pc := 89) dX7_makesOf_89 rfl ?_
              exact e_iret (pc := 90) dX7_makesOf_90 rfl (Nat.le_refl _) (Nat.le_refl _) ⟨(by first | rfl | (simp [ymk, ymk0, gt, *]; done) | ((try simp only [mc_cmp_le, mc_cmp_ge, mc_cmp_eq, mc_cmp_lt, mc_cmp_gt, mc_b0, mc_b1, Bool.not_eq_false, Bool.not_eq_true] at *); (try simp only [← Int32.not_lt, ← Int64.not_lt, Classical.not_not] at *); simp [ymk, ymk0, gt, *]; done) | (simp_all [ymk, ymk0, gt, mc_b0]; done) | (simp_all [ymk, ymk0, gt, Int32.le_iff_toInt_le, Int32.lt_iff_toInt_lt] <;> omega)), by first | exact ⟨d1, hD1, g3, rfl⟩ | exact ⟨d, hD, rfl, rfl⟩⟩
            · skip
              refine e_iloadn (pc := 78) dX7_makesOf_78 rfl ?_
              refine e_aloadn (pc := 79) dX7_makesOf_79 rfl ?_
              refine e_get (pc := 80) dX7_makesOf_80 fX7_20 rfl rfl ?_
              refine e_iloadn (pc := 83) dX7_makesOf_83 rfl ?_
              refine ald_ymore (pc := 84) dX7_makesOf_84 (by assumption) ?_
              refine e_iadd (pc := 85) dX7_makesOf_85 ?_
              refine e_goto (pc := 86) dX7_makesOf_86 (t := 90) (by decide) ?_
              exact e_iret (pc := 90) dX7_makesOf_90 rfl (Nat.le_refl _) (Nat.le_refl _) ⟨(by first | rfl | (simp [ymk, ymk0, gt, *]; done) | ((try simp only [mc_cmp_le, mc_cmp_ge, mc_cmp_eq, mc_cmp_lt, mc_cmp_gt, mc_b0, mc_b1, Bool.not_eq_false, Bool.not_eq_true] at *); (try simp only [← Int32.not_lt, ← Int64.not_lt, Classical.not_not] at *); simp [ymk, ymk0, gt, *]; done) | (simp_all [ymk, ymk0, gt, mc_b0]; done) | (simp_all [ymk, ymk0, gt, Int32.le_iff_toInt_le, Int32.lt_iff_toInt_lt] <;> omega)), by first | exact ⟨d1, hD1, g3, rfl⟩ | exact ⟨d, hD, rfl, rfl⟩⟩
    · skip
      refine e_aloadn (pc := 16) dX7_makesOf_16 rfl ?_
      refine e_iconst (v := 0) (pc := 17) dX7_makesOf_17 (by decide) ?_
      refine e_iloadn (pc := 18) dX7_makesOf_18 rfl ?_
      refine e_iconst (v := 0) (pc := 19) dX7_makesOf_19 (by decide) ?_
      refine e_iconst (v := 0) (pc := 20) dX7_makesOf_20 (by decide) ?_
      refine e_cvX (pc := 21) (sp_y_asksOf (p := 0) hL hV (by decide) rfl h1 hD) dX7_makesOf_21 kX7_165 rfl rfl rfl rfl rfl (mc_CR_of (Nat.le_of_ble_eq_true rfl) (Nat.le_of_ble_eq_true rfl) (Nat.le_refl _) (Nat.le_refl _)) (Nat.le_of_ble_eq_true rfl) (fun w1 hw1 => ?_)
      obtain ⟨d1, hD1, g3, rfl⟩ := hw1
      refine e_goto (pc := 24) dX7_makesOf_24 (t := 28) (by decide) ?_
      refine e_isn3 (pc := 28) dX7_makesOf_28 (Nat.le_of_ble_eq_true rfl) rfl ?_
      refine e_iloadn (pc := 29) dX7_makesOf_29 rfl ?_
      refine e_aloadn (pc := 30) dX7_makesOf_30 rfl ?_
      refine e_get (pc := 31) dX7_makesOf_31 fX7_16 rfl rfl ?_
      refine e_iloadn (pc := 34) dX7_makesOf_34 rfl ?_
      refine ald_kind (pc := 35) dX7_makesOf_35 (by assumption) ?_
      refine e_iconst (v := 2) (pc := 36) dX7_makesOf_36 (by decide) ?_
      refine e_icmp_eq (pc := 37) dX7_makesOf_37 (t := 50) (by decide) (fun c_37 => ?_) (fun c_37 => ?_)
      · skip
        refine e_iloadn (pc := 50) dX7_makesOf_50 rfl ?_
        refine e_bipush (v := 10) (pc := 51) dX7_makesOf_51 (by decide) ?_
        refine e_irem (pc := 53) dX7_makesOf_53 (by decide) ?_
        refine e_if_ne (pc := 54) dX7_makesOf_54 (t := 61) (by decide) (fun c_54 => ?_) (fun c_54 => ?_)
        · skip
          refine e_iconst (v := 0) (pc := 61) dX7_makesOf_61 (by decide) ?_
          refine e_goto (pc := 62) dX7_makesOf_62 (t := 66) (by decide) ?_
          refine e_iadd (pc := 66) dX7_makesOf_66 ?_
          refine e_isn3 (pc := 67) dX7_makesOf_67 (Nat.le_of_ble_eq_true rfl) rfl ?_
          refine e_aloadn (pc := 68) dX7_makesOf_68 rfl ?_
          refine e_get (pc := 69) dX7_makesOf_69 fX7_16 rfl rfl ?_
          refine e_iloadn (pc := 72) dX7_makesOf_72 rfl ?_
          refine ald_kind (pc := 73) dX7_makesOf_73 (by assumption) ?_
          refine e_iconst (v := 4) (pc := 74) dX7_makesOf_74 (by decide) ?_
          refine e_icmp_ne (pc := 75) dX7_makesOf_75 (t := 89) (by decide) (fun c_75 => ?_) (fun c_75 => ?_)
          · skip
            refine e_iloadn (pc := 89) dX7_makesOf_89 rfl ?_
            exact e_iret (pc := 90) dX7_makesOf_90 rfl (Nat.le_refl _) (Nat.le_refl _) ⟨(by first | rfl | (simp [ymk, ymk0, gt, *]; done) | ((try simp only [mc_cmp_le, mc_cmp_ge, mc_cmp_eq, mc_cmp_lt, mc_cmp_gt, mc_b0, mc_b1, Bool.not_eq_false, Bool.not_eq_true] at *); (try simp only [← Int32.not_lt, ← Int64.not_lt, Classical.not_not] at *); simp [ymk, ymk0, gt, *]; done) | (simp_all [ymk, ymk0, gt, mc_b0]; done) | (simp_all [ymk, ymk0, gt, Int32.le_iff_toInt_le, Int32.lt_iff_toInt_lt] <;> omega)), by first | exact ⟨d1, hD1, g3, rfl⟩ | exact ⟨d, hD, rfl, rfl⟩⟩
          · skip
            refine e_iloadn (pc := 78) dX7_makesOf_78 rfl ?_
            refine e_aloadn (pc := 79) dX7_makesOf_79 rfl ?_
            refine e_get (pc := 80) dX7_makesOf_80 fX7_20 rfl rfl ?_
            refine e_iloadn (pc := 83) dX7_makesOf_83 rfl ?_
            refine ald_ymore (pc := 84) dX7_makesOf_84 (by assumption) ?_
            refine e_iadd (pc := 85) dX7_makesOf_85 ?_
            refine e_goto (pc := 86) dX7_makesOf_86 (t := 90) (by decide) ?_
            exact e_iret (pc := 90) dX7_makesOf_90 rfl (Nat.le_refl _) (Nat.le_refl _) ⟨(by first | rfl | (simp [ymk, ymk0, gt, *]; done) | ((try simp only [mc_cmp_le, mc_cmp_ge, mc_cmp_eq, mc_cmp_lt, mc_cmp_gt, mc_b0, mc_b1, Bool.not_eq_false, Bool.not_eq_true] at *); (try simp only [← Int32.not_lt, ← Int64.not_lt, Classical.not_not] at *); simp [ymk, ymk0, gt, *]; done) | (simp_all [ymk, ymk0, gt, mc_b0]; done) | (simp_all [ymk, ymk0, gt, Int32.le_iff_toInt_le, Int32.lt_iff_toInt_lt] <;> omega)), by first | exact ⟨d1, hD1, g3, rfl⟩ | exact ⟨d, hD, rfl, rfl⟩⟩
        · skip
          refine e_iconst (v := 1) (pc := 57) dX7_makesOf_57 (by decide) ?_
          refine e_goto (pc := 58) dX7_makesOf_58 (t := 66) (by decide) ?_
          refine e_iadd (pc := 66) dX7_makesOf_66 ?_
          refine e_isn3 (pc := 67) dX7_makesOf_67 (Nat.le_of_ble_eq_true rfl) rfl ?_
          refine e_aloadn (pc := 68) dX7_makesOf_68 rfl ?_
          refine e_get (pc := 69) dX7_makesOf_69 fX7_16 rfl rfl ?_
          refine e_iloadn (pc := 72) dX7_makesOf_72 rfl ?_
          refine ald_kind (pc := 73) dX7_makesOf_73 (by assumption) ?_
          refine e_iconst (v := 4) (pc := 74) dX7_makesOf_74 (by decide) ?_
          refine e_icmp_ne (pc := 75) dX7_makesOf_75 (t := 89) (by decide) (fun c_75 => ?_) (fun c_75 => ?_)
          · skip
            refine e_iloadn (pc := 89) dX7_makesOf_89 rfl ?_
            exact e_iret (pc := 90) dX7_makesOf_90 rfl (Nat.le_refl _) (Nat.le_refl _) ⟨(by first | rfl | (simp [ymk, ymk0, gt, *]; done) | ((try simp only [mc_cmp_le, mc_cmp_ge, mc_cmp_eq, mc_cmp_lt, mc_cmp_gt, mc_b0, mc_b1, Bool.not_eq_false, Bool.not_eq_true] at *); (try simp only [← Int32.not_lt, ← Int64.not_lt, Classical.not_not] at *); simp [ymk, ymk0, gt, *]; done) | (simp_all [ymk, ymk0, gt, mc_b0]; done) | (simp_all [ymk, ymk0, gt, Int32.le_iff_toInt_le, Int32.lt_iff_toInt_lt] <;> omega)), by first | exact ⟨d1, hD1, g3, rfl⟩ | exact ⟨d, hD, rfl, rfl⟩⟩
          · skip
            refine e_iloadn (pc := 78) dX7_makesOf_78 rfl ?_
            refine e_aloadn (pc := 79) dX7_makesOf_79 rfl ?_
            refine e_get (pc := 80) dX7_makesOf_80 fX7_20 rfl rfl ?_
            refine e_iloadn (pc := 83) dX7_makesOf_83 rfl ?_
            refine ald_ymore (pc := 84) dX7_makesOf_84 (by assumption) ?_
            refine e_iadd (pc := 85) dX7_makesOf_85 ?_
            refine e_goto (pc := 86) dX7_makesOf_86 (t := 90) (by decide) ?_
            exact e_iret (pc := 90) dX7_makesOf_90 rfl (Nat.le_refl _) (Nat.le_refl _) ⟨(by first | rfl | (simp [ymk, ymk0, gt, *]; done) | ((try simp only [mc_cmp_le, mc_cmp_ge, mc_cmp_eq, mc_cmp_lt, mc_cmp_gt, mc_b0, mc_b1, Bool.not_eq_false, Bool.not_eq_true] at *); (try simp only [← Int32.not_lt, ← Int64.not_lt, Classical.not_not] at *); simp [ymk, ymk0, gt, *]; done) | (simp_all [ymk, ymk0, gt, mc_b0]; done) | (simp_all [ymk, ymk0, gt, Int32.le_iff_toInt_le, Int32.lt_iff_toInt_lt] <;> omega)), by first | exact ⟨d1, hD1, g3, rfl⟩ | exact ⟨d, hD, rfl, rfl⟩⟩
      · skip
        refine e_aloadn (pc := 40) dX7_makesOf_40 rfl ?_
        refine e_get (pc := 41) dX7_makesOf_41 fX7_16 rfl rfl ?_
        refine e_iloadn (pc := 44) dX7_makesOf_44 rfl ?_
        refine ald_kind (pc := 45) dX7_makesOf_45 (by assumption) ?_
        refine e_iconst (v := 4) (pc := 46) dX7_makesOf_46 (by decide) ?_
        refine e_icmp_ne (pc := 47) dX7_makesOf_47 (t := 65) (by decide) (fun c_47 => ?_) (fun c_47 => ?_)
        · skip
          refine e_iconst (v := 0) (pc := 65) dX7_makesOf_65 (by decide) ?_
          refine e_iadd (pc := 66) dX7_makesOf_66 ?_
          refine e_isn3 (pc := 67) dX7_makesOf_67 (Nat.le_of_ble_eq_true rfl) rfl ?_
          refine e_aloadn (pc := 68) dX7_makesOf_68 rfl ?_
          refine e_get (pc := 69) dX7_makesOf_69 fX7_16 rfl rfl ?_
          refine e_iloadn (pc := 72) dX7_makesOf_72 rfl ?_
          refine ald_kind (pc := 73) dX7_makesOf_73 (by assumption) ?_
          refine e_iconst (v := 4) (pc := 74) dX7_makesOf_74 (by decide) ?_
          refine e_icmp_ne (pc := 75) dX7_makesOf_75 (t := 89) (by decide) (fun c_75 => ?_) (fun c_75 => ?_)
          · skip
            refine e_iloadn (pc := 89) dX7_makesOf_89 rfl ?_
            exact e_iret (pc := 90) dX7_makesOf_90 rfl (Nat.le_refl _) (Nat.le_refl _) ⟨(by first | rfl | (simp [ymk, ymk0, gt, *]; done) | ((try simp only [mc_cmp_le, mc_cmp_ge, mc_cmp_eq, mc_cmp_lt, mc_cmp_gt, mc_b0, mc_b1, Bool.not_eq_false, Bool.not_eq_true] at *); (try simp only [← Int32.not_lt, ← Int64.not_lt, Classical.not_not] at *); simp [ymk, ymk0, gt, *]; done) | (simp_all [ymk, ymk0, gt, mc_b0]; done) | (simp_all [ymk, ymk0, gt, Int32.le_iff_toInt_le, Int32.lt_iff_toInt_lt] <;> omega)), by first | exact ⟨d1, hD1, g3, rfl⟩ | exact ⟨d, hD, rfl, rfl⟩⟩
          · skip
            refine e_iloadn (pc := 78) dX7_makesOf_78 rfl ?_
            refine e_aloadn (pc := 79) dX7_makesOf_79 rfl ?_
            refine e_get (pc := 80) dX7_makesOf_80 fX7_20 rfl rfl ?_
            refine e_iloadn (pc := 83) dX7_makesOf_83 rfl ?_
            refine ald_ymore (pc := 84) dX7_makesOf_84 (by assumption) ?_
            refine e_iadd (pc := 85) dX7_makesOf_85 ?_
            refine e_goto (pc := 86) dX7_makesOf_86 (t := 90) (by decide) ?_
            exact e_iret (pc := 90) dX7_makesOf_90 rfl (Nat.le_refl _) (Nat.le_refl _) ⟨(by first | rfl | (simp [ymk, ymk0, gt, *]; done) | ((try simp only [mc_cmp_le, mc_cmp_ge, mc_cmp_eq, mc_cmp_lt, mc_cmp_gt, mc_b0, mc_b1, Bool.not_eq_false, Bool.not_eq_true] at *); (try simp only [← Int32.not_lt, ← Int64.not_lt, Classical.not_not] at *); simp [ymk, ymk0, gt, *]; done) | (simp_all [ymk, ymk0, gt, mc_b0]; done) | (simp_all [ymk, ymk0, gt, Int32.le_iff_toInt_le, Int32.lt_iff_toInt_lt] <;> omega)), by first | exact ⟨d1, hD1, g3, rfl⟩ | exact ⟨d, hD, rfl, rfl⟩⟩
        · skip
          refine e_iloadn (pc := 50) dX7_makesOf_50 rfl ?_
          refine e_bipush (v := 10) (pc := 51) dX7_makesOf_51 (by decide) ?_
          refine e_irem (pc := 53) dX7_makesOf_53 (by decide) ?_
          refine e_if_ne (pc := 54) dX7_makesOf_54 (t := 61) (by decide) (fun c_54 => ?_) (fun c_54 => ?_)
          · skip
            refine e_iconst (v := 0) (pc := 61) dX7_makesOf_61 (by decide) ?_
            refine e_goto (pc := 62) dX7_makesOf_62 (t := 66) (by decide) ?_
            refine e_iadd (pc := 66) dX7_makesOf_66 ?_
            refine e_isn3 (pc := 67) dX7_makesOf_67 (Nat.le_of_ble_eq_true rfl) rfl ?_
            refine e_aloadn (pc := 68) dX7_makesOf_68 rfl ?_
            refine e_get (pc := 69) dX7_makesOf_69 fX7_16 rfl rfl ?_
            refine e_iloadn (pc := 72) dX7_makesOf_72 rfl ?_
            refine ald_kind (pc := 73) dX7_makesOf_73 (by assumption) ?_
            refine e_iconst (v := 4) (pc := 74) dX7_makesOf_74 (by decide) ?_
            refine e_icmp_ne (pc := 75) dX7_makesOf_75 (t := 89) (by decide) (fun c_75 => ?_) (fun c_75 => ?_)
            · skip
              refine e_iloadn (pc := 89) dX7_makesOf_89 rfl ?_
              exact e_iret (pc := 90) dX7_makesOf_90 rfl (Nat.le_refl _) (Nat.le_refl _) ⟨(by first | rfl | (simp [ymk, ymk0, gt, *]; done) | ((try simp only [mc_cmp_le, mc_cmp_ge, mc_cmp_eq, mc_cmp_lt, mc_cmp_gt, mc_b0, mc_b1, Bool.not_eq_false, Bool.not_eq_true] at *); (try simp only [← Int32.not_lt, ← Int64.not_lt, Classical.not_not] at *); simp [ymk, ymk0, gt, *]; done) | (simp_all [ymk, ymk0, gt, mc_b0]; done) | (simp_all [ymk, ymk0, gt, Int32.le_iff_toInt_le, Int32.lt_iff_toInt_lt] <;> omega)), by first | exact ⟨d1, hD1, g3, rfl⟩ | exact ⟨d, hD, rfl, rfl⟩⟩
            · skip
              refine e_iloadn (pc := 78) dX7_makesOf_78 rfl ?_
              refine e_aloadn (pc := 79) dX7_makesOf_79 rfl ?_
              refine e_get (pc := 80) dX7_makesOf_80 fX7_20 rfl rfl ?_
              refine e_iloadn (pc := 83) dX7_makesOf_83 rfl ?_
              refine ald_ymore (pc := 84) dX7_makesOf_84 (by assumption) ?_
              refine e_iadd (pc := 85) dX7_makesOf_85 ?_
              refine e_goto (pc := 86) dX7_makesOf_86 (t := 90) (by decide) ?_
              exact e_iret (pc := 90) dX7_makesOf_90 rfl (Nat.le_refl _) (Nat.le_refl _) ⟨(by first | rfl | (simp [ymk, ymk0, gt, *]; done) | ((try simp only [mc_cmp_le, mc_cmp_ge, mc_cmp_eq, mc_cmp_lt, mc_cmp_gt, mc_b0, mc_b1, Bool.not_eq_false, Bool.not_eq_true] at *); (try simp only [← Int32.not_lt, ← Int64.not_lt, Classical.not_not] at *); simp [ymk, ymk0, gt, *]; done) | (simp_all [ymk, ymk0, gt, mc_b0]; done) | (simp_all [ymk, ymk0, gt, Int32.le_iff_toInt_le, Int32.lt_iff_toInt_lt] <;> omega)), by first | exact ⟨d1, hD1, g3, rfl⟩ | exact ⟨d, hD, rfl, rfl⟩⟩
          · skip
            refine e_iconst (v := 1) (pc := 57) dX7_makesOf_57 (by decide) ?_
            refine e_goto (pc := 58) dX7_makesOf_58 (t := 66) (by decide) ?_
            refine e_iadd (pc := 66) dX7_makesOf_66 ?_
            refine e_isn3 (pc := 67) dX7_makesOf_67 (Nat.le_of_ble_eq_true rfl) rfl ?_
            refine e_aloadn (pc := 68) dX7_makesOf_68 rfl ?_
            refine e_get (pc := 69) dX7_makesOf_69 fX7_16 rfl rfl ?_
            refine e_iloadn (pc := 72) dX7_makesOf_72 rfl ?_
            refine ald_kind (pc := 73) dX7_makesOf_73 (by assumption) ?_
            refine e_iconst (v := 4) (pc := 74) dX7_makesOf_74 (by decide) ?_
            refine e_icmp_ne (pc := 75) dX7_makesOf_75 (t := 89) (by decide) (fun c_75 => ?_) (fun c_75 => ?_)
            · skip
              refine e_iloadn (pc := 89) dX7_makesOf_89 rfl ?_
              exact e_iret (pc := 90) dX7_makesOf_90 rfl (Nat.le_refl _) (Nat.le_refl _) ⟨(by first | rfl | (simp [ymk, ymk0, gt, *]; done) | ((try simp only [mc_cmp_le, mc_cmp_ge, mc_cmp_eq, mc_cmp_lt, mc_cmp_gt, mc_b0, mc_b1, Bool.not_eq_false, Bool.not_eq_true] at *); (try simp only [← Int32.not_lt, ← Int64.not_lt, Classical.not_not] at *); simp [ymk, ymk0, gt, *]; done) | (simp_all [ymk, ymk0, gt, mc_b0]; done) | (simp_all [ymk, ymk0, gt, Int32.le_iff_toInt_le, Int32.lt_iff_toInt_lt] <;> omega)), by first | exact ⟨d1, hD1, g3, rfl⟩ | exact ⟨d, hD, rfl, rfl⟩⟩
            · skip
              refine e_iloadn (pc := 78) dX7_makesOf_78 rfl ?_
              refine e_aloadn (pc := 79) dX7_makesOf_79 rfl ?_
              refine e_get (pc := 80) dX7_makesOf_80 fX7_20 rfl rfl ?_
              refine e_iloadn (pc := 83) dX7_makesOf_83 rfl ?_
              refine ald_ymore (pc := 84) dX7_makesOf_84 (by assumption) ?_
              refine e_iadd (pc := 85) dX7_makesOf_85 ?_
              refine e_goto (pc := 86) dX7_makesOf_86 (t := 90) (by decide) ?_
              exact e_iret (pc := 90) dX7_makesOf_90 rfl (Nat.le_refl _) (Nat.le_refl _) ⟨(by first | rfl | (simp [ymk, ymk0, gt, *]; done) | ((try simp only [mc_cmp_le, mc_cmp_ge, mc_cmp_eq, mc_cmp_lt, mc_cmp_gt, mc_b0, mc_b1, Bool.not_eq_false, Bool.not_eq_true] at *); (try simp only [← Int32.not_lt, ← Int64.not_lt, Classical.not_not] at *); simp [ymk, ymk0, gt, *]; done) | (simp_all [ymk, ymk0, gt, mc_b0]; done) | (simp_all [ymk, ymk0, gt, Int32.le_iff_toInt_le, Int32.lt_iff_toInt_lt] <;> omega)), by first | exact ⟨d1, hD1, g3, rfl⟩ | exact ⟨d, hD, rfl, rfl⟩⟩
  · skip
    refine e_iloadn (pc := 10) dX7_makesOf_10 rfl ?_
    exact e_iret (pc := 11) dX7_makesOf_11 rfl (Nat.le_refl _) (Nat.le_refl _) ⟨(by first | rfl | (simp [ymk, ymk0, gt, *]; done) | ((try simp only [mc_cmp_le, mc_cmp_ge, mc_cmp_eq, mc_cmp_lt, mc_cmp_gt, mc_b0, mc_b1, Bool.not_eq_false, Bool.not_eq_true] at *); (try simp only [← Int32.not_lt, ← Int64.not_lt, Classical.not_not] at *); simp [ymk, ymk0, gt, *]; done) | (simp_all [ymk, ymk0, gt, mc_b0]; done) | (simp_all [ymk, ymk0, gt, Int32.le_iff_toInt_le, Int32.lt_iff_toInt_lt] <;> omega)), by first | exact ⟨d1, hD1, g3, rfl⟩ | exact ⟨d, hD, rfl, rfl⟩⟩
