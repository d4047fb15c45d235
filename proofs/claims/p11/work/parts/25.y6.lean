/-- all is well with the clerks and the law -/
def yG (m : Nat → Int32) (b : Nat → List Int32) : Prop := yL b ∧ yC m ∧ (2 ≤ (m 0).toInt ∧ (m 0).toInt ≤ 12) ∧ (0 ≤ (m 5).toInt ∧ (m 5).toInt < (m 4).toInt ∧ (m 4).toInt ≤ 6) ∧ (∀ t : Nat, (t : Int) < (m 4).toInt → yT b t) ∧
  ∀ i, i < 5 → (0 ≤ ((b 0).getD i 0).toInt ∧ ((b 0).getD i 0).toInt ≤ 5) ∧ 0 ≤ ((b 1).getD i 0).toInt ∧ ((b 1).getD i 0).toInt ≤ 9
theorem yG.V {m : Nat → Int32} {b : Nat → List Int32} (h : yG m b) : yV m b := by
  obtain ⟨-, -, -, ⟨h1, h2, h3⟩, h4, -⟩ := h
  exact ⟨h1, by omega, h4 _ (by rw [tnc h1]; exact h2)⟩
theorem yG.k0 {m : Nat → Int32} {b : Nat → List Int32} (h : yG m b) {k : Int32} (hk : mc_wi k 0 (m 2 - 1) = true) : vp_in k (b 0).length := by
  rw [h.1.1]; exact vp_in_wi hk h.2.1.1 h.2.1.2 (by decide)
theorem yG.k1 {m : Nat → Int32} {b : Nat → List Int32} (h : yG m b) {k : Int32} (hk : mc_wi k 0 (m 2 - 1) = true) : vp_in k (b 1).length := by
  rw [h.1.2.1]; exact vp_in_wi hk h.2.1.1 h.2.1.2 (by decide)
theorem yG.mo {m : Nat → Int32} {b : Nat → List Int32} (h : yG m b) (k : Int32) : ∃ j : Nat, j ≤ 9 ∧ gt (b 1) k = nI j := by
  by_cases hk : k.toNatClampNeg < 5
  · obtain ⟨-, h1, h2⟩ := h.2.2.2.2.2 _ hk
    exact ⟨((b 1).getD k.toNatClampNeg 0).toNatClampNeg, by have := tnc h1; omega, nI_back h1⟩
  · refine ⟨0, by omega, ?_⟩
    unfold gt
    rw [List.getD_eq_getElem?_getD, List.getElem?_eq_none (by rw [h.1.2.1]; omega)]; rfl
theorem yG.fg {m : Nat → Int32} {b : Nat → List Int32} (h : yG m b) (k : Int32) : 2 ≤ (yfg m b k).toInt ∧ (yfg m b k).toInt ≤ 12 := by
  obtain ⟨j, hj, e⟩ := h.mo k
  obtain ⟨b1, b2⟩ := h.2.2.1
  have eb := nI_back (x := m 0) (by omega)
  have tb := tnc (x := m 0) (by omega)
  generalize (m 0).toNatClampNeg = ba at eb tb
  have key : ∃ x : Nat, x ≤ 12 ∧ (if gt (b 0) k = 3 then m 0 - gt (b 1) k / 3 else if gt (b 0) k = 5 then m 0 - 1 else m 0) = (if x = 13 then -1 else nI x) ∨ (if gt (b 0) k = 3 then m 0 - gt (b 1) k / 3 else if gt (b 0) k = 5 then m 0 - 1 else m 0) < 2 := by
    have d3 : gt (b 1) k / 3 = nI (j / 3) := by rw [e]; exact pk_div (a := j) (d := 3) (by omega) (by decide) (by decide)
    split
    · rw [d3, eb]
      by_cases hlt : j / 3 ≤ ba
      · exact ⟨ba - j / 3, Or.inl ⟨by omega, by rw [if_neg (by omega), pk_sub hlt]⟩⟩
      · refine ⟨0, Or.inr ?_⟩
        rw [Int32.lt_iff_toInt_lt, pk_sub_toInt (by omega) (by omega)]
        have : (2 : Int32).toInt = 2 := rfl
        omega
    · split
      · rw [eb]; exact ⟨ba - 1, Or.inl ⟨by omega, by rw [if_neg (by omega), nI_sub1 (by omega)]⟩⟩
      · exact ⟨ba, Or.inl ⟨by omega, by rw [if_neg (by omega)]; exact eb⟩⟩
  unfold yfg yy_fg
  generalize (if gt (b 0) k = 3 then m 0 - gt (b 1) k / 3 else if gt (b 0) k = 5 then m 0 - 1 else m 0) = X at key
  unfold yy_x2
  have t2 : (2 : Int32).toInt = 2 := rfl
  by_cases h2 : X < 2
  · rw [if_pos h2, t2]; omega
  · rw [if_neg h2]
    rw [Int32.lt_iff_toInt_lt, t2] at h2
    obtain ⟨x, ⟨h3, h4⟩ | h3⟩ := key
    · rw [if_neg (by omega)] at h4
      rw [h4] at h2 ⊢
      rw [nI_toInt (by omega)] at h2 ⊢
      omega
    · rw [Int32.lt_iff_toInt_lt, t2] at h3; omega
theorem yG.mk {m : Nat → Int32} {b : Nat → List Int32} (h : yG m b) (k v : Int32) (hv : mc_wi v 0 99999 = true) : 0 ≤ (ymk m b k v).toInt ∧ (ymk m b k v).toInt < 131072 := by
  rw [mc_wi_iff] at hv
  have z0 : (0 : Int32).toInt = 0 := rfl
  have z9 : (99999 : Int32).toInt = 99999 := rfl
  rw [z0, z9] at hv
  obtain ⟨j, hj, e⟩ := h.mo k
  have h0 : ∃ x : Nat, x ≤ 99999 ∧ ymk0 m b k v = nI x := by
    unfold ymk0
    split
    · refine ⟨(yask m b 0 k 0 0).toNatClampNeg, ?_⟩
      have hw0 : ∀ y : Int32, 0 ≤ (yy_wn y 0 99999).toInt ∧ (yy_wn y 0 99999).toInt ≤ 99999 := by
        intro y
        unfold yy_wn
        split
        · rw [z0]; omega
        · split
          · rw [z9]; omega
          · rename_i g1 g2
            rw [Int32.lt_iff_toInt_lt, z0] at g1
            rw [Int32.lt_iff_toInt_lt, z9] at g2
            omega
      have hw : 0 ≤ (yask m b 0 k 0 0).toInt ∧ (yask m b 0 k 0 0).toInt ≤ 99999 := hw0 _
      have := tnc hw.1
      exact ⟨by omega, nI_back hw.1⟩
    · exact ⟨v.toNatClampNeg, by have := tnc hv.1; omega, nI_back hv.1⟩
  obtain ⟨x, hx, ex⟩ := h0
  have h1 : ∃ o : Nat, o ≤ 1 ∧ (if v - v / 10 * 10 = 0 then (1 : Int32) else 0) = nI o := by
    split
    · exact ⟨1, by omega, rfl⟩
    · exact ⟨0, by omega, rfl⟩
  obtain ⟨o, ho, eo⟩ := h1
  have key : ∃ y : Nat, y < 131072 ∧ ymk m b k v = nI y := by
    unfold ymk
    rw [ex, eo, e]
    split
    · exact ⟨v.toNatClampNeg, by have := tnc hv.1; omega, nI_back hv.1⟩
    · split
      · exact ⟨x + o, by omega, nI_add _ _⟩
      · split
        · exact ⟨x + o + j, by omega, by rw [nI_add, nI_add]⟩
        · exact ⟨x, by omega, by simp⟩
  obtain ⟨y, hy, ey⟩ := key
  rw [ey, nI_toInt (by omega)]
  omega
/-! figures asked for, what others read, sums -/
def yfig (m : Nat → Int32) (b : Nat → List Int32) (k v w : Int32) : Int32 :=
  if mc_wi k 0 (m 2 - 1) = false then -5 else if (mc_wi v 0 99999 && mc_wi w 0 40) = false then -7
  else if w = 0 then nI (ywr m b k v).length else if nI (ywr m b k v).length < w then -1 else (ywr m b k v).getD (w - 1).toNatClampNeg 0
theorem sp_y_figure {s u m n : Nat → Int32} {a c b d : Nat → List Int32} {q : List (Option Nat)} {h : Nat} {z : mc_W} {k v w : Int32} (hG : yG m b) (hD : yD d) : mc_T yX7_figure cX7_figure 4 (some .int) 6 [.ref 29, .int k, .int v, .int w] (WW s a q u c h m b n d z) (some (.int (yfig m b k v w))) (fun w' => ∃ n1 d1, yD d1 ∧ w' = WW s a q u c h m b n1 d1 z) := by
  refine mc_start (own := RX7) (ini := false) rfl (by decide +kernel) (fun h => by cases h) (Nat.le_of_ble_eq_true rfl) ?_
  show mc_E _ _ _ _ _ [some (.ref 29), some (.int k), some (.int v), some (.int w)] [] _ _ _
  have hw : mc_wi w 0 40 = true → ¬ w = 0 → ∀ N : Nat, N ≤ 17 → ¬ nI N < w → (w - 1).toNatClampNeg < N ∧ vp_in (w - 1) 40 := by
    intro h1 h2 N hN h3
    rw [mc_wi_iff] at h1
    have z0 : (0 : Int32).toInt = 0 := rfl
    have z4 : (40 : Int32).toInt = 40 := rfl
    rw [z0, z4] at h1
    have e := nI_back h1.1
    have t := tnc h1.1
    have w0 : ¬ w.toInt = 0 := fun q => h2 (Int32.toInt_inj.mp q)
    rw [Int32.lt_iff_toInt_lt, nI_toInt (by omega)] at h3
    rw [e, nI_sub1 (by omega), nIc (by omega)]
    exact ⟨by omega, vp_in_nI (by omega) (by decide)⟩
  refine e_aloadn (pc := 0) dX7_figure_0 rfl ?_
  refine e_iloadn (pc := 1) dX7_figure_1 rfl ?_
  refine e_cvD (pc := 2) (sp_y_isClerk) dX7_figure_2 kX7_159 rfl rfl rfl rfl rfl (mc_CR_of (Nat.le_of_ble_eq_true rfl) (Nat.le_of_ble_eq_true rfl) (Nat.le_refl _) (Nat.le_refl _)) (Nat.le_of_ble_eq_true rfl) ?_
  refine e_if_ne (pc := 5) dX7_figure_5 (t := 11) (by decide) (fun c_5 => ?_) (fun c_5 => ?_)
  · skip
    refine e_iloadn (pc := 11) dX7_figure_11 rfl ?_
    refine e_csD (pc := 12) (sp_y_isNumber) dX7_figure_12 kX7_162 rfl rfl (mc_CR_of (Nat.le_of_ble_eq_true rfl) (Nat.le_of_ble_eq_true rfl) (Nat.le_refl _) (Nat.le_refl _)) (Nat.le_of_ble_eq_true rfl) ?_
    refine e_if_eq (pc := 15) dX7_figure_15 (t := 28) (by decide) (fun c_15 => ?_) (fun c_15 => ?_)
    · skip
      refine e_bipush (v := -7) (pc := 28) dX7_figure_28 (by decide) ?_
      exact e_iret (pc := 30) dX7_figure_30 rfl (Nat.le_refl _) (Nat.le_refl _) ⟨(by clear hw; (try simp only [mc_cmp_le, mc_cmp_ge, mc_cmp_eq, mc_cmp_lt, mc_cmp_gt, mc_b0, mc_b1, Bool.not_eq_false, Bool.not_eq_true] at c_5 c_15); first | rfl | (simp [yfig, c_5, c_15]; done) | ((try simp only [← Int32.not_lt, ← Int64.not_lt, Classical.not_not] at c_5 c_15); simp [yfig, c_5, c_15])), n, d, hD, rfl⟩
    · skip
      refine e_iloadn (pc := 18) dX7_figure_18 rfl ?_
      refine e_iconst (v := 0) (pc := 19) dX7_figure_19 (by decide) ?_
      refine e_bipush (v := 40) (pc := 20) dX7_figure_20 (by decide) ?_
      refine e_csD (pc := 22) (sp_y_in) dX7_figure_22 kX7_75 rfl rfl (mc_CR_of (Nat.le_of_ble_eq_true rfl) (Nat.le_of_ble_eq_true rfl) (Nat.le_refl _) (Nat.le_refl _)) (Nat.le_of_ble_eq_true rfl) ?_
      refine e_if_ne (pc := 25) dX7_figure_25 (t := 31) (by decide) (fun c_25 => ?_) (fun c_25 => ?_)
      · skip
        refine e_aloadn (pc := 31) dX7_figure_31 rfl ?_
        refine e_iloadn (pc := 32) dX7_figure_32 rfl ?_
        refine e_iloadn (pc := 33) dX7_figure_33 rfl ?_
        refine e_cvY (pc := 34) (sp_y_writes hG.1 hG.V (hG.k0 (mc_b1.mp c_5)) (hG.k1 (mc_b1.mp c_5)) (hG.fg _) (hG.mk _ _ (by simpa [mc_b0] using c_15)) hD) dX7_figure_34 kX7_186 rfl rfl rfl rfl rfl (mc_CR_of (Nat.le_of_ble_eq_true rfl) (Nat.le_of_ble_eq_true rfl) (Nat.le_refl _) (Nat.le_refl _)) (Nat.le_of_ble_eq_true rfl) (fun w1 hw1 => ?_)
        obtain ⟨n1, d1, hF1, rfl⟩ := hw1
        refine e_iloadn (pc := 37) dX7_figure_37 rfl ?_
        refine e_if_ne (pc := 38) dX7_figure_38 (t := 48) (by decide) (fun c_38 => ?_) (fun c_38 => ?_)
        · skip
          refine e_iloadn (pc := 48) dX7_figure_48 rfl ?_
          refine e_aloadn (pc := 49) dX7_figure_49 rfl ?_
          refine e_get (pc := 50) dX7_figure_50 fX7_175 rfl rfl ?_
          refine e_icmp_gt (pc := 53) dX7_figure_53 (t := 67) (by decide) (fun c_53 => ?_) (fun c_53 => ?_)
          · skip
            refine e_iconst (v := -1) (pc := 67) dX7_figure_67 (by decide) ?_
            exact e_iret (pc := 68) dX7_figure_68 rfl (Nat.le_refl _) (Nat.le_refl _) ⟨(by clear hw; have q7 := hF1.2.1; rw [q7] at c_53; (try simp only [mc_cmp_le, mc_cmp_ge, mc_cmp_eq, mc_cmp_lt, mc_cmp_gt, mc_b0, mc_b1, Bool.not_eq_false, Bool.not_eq_true] at c_5 c_15 c_25 c_38 c_53); first | rfl | (simp [yfig, c_5, c_15, c_25, c_38, c_53]; done) | ((try simp only [← Int32.not_lt, ← Int64.not_lt, Classical.not_not] at c_5 c_15 c_25 c_38 c_53); simp [yfig, c_5, c_15, c_25, c_38, c_53])), n1, d1, hF1.1, rfl⟩
          · skip
            refine e_aloadn (pc := 56) dX7_figure_56 rfl ?_
            refine e_get (pc := 57) dX7_figure_57 fX7_62 rfl rfl ?_
            refine e_iloadn (pc := 60) dX7_figure_60 rfl ?_
            refine e_iconst (v := 1) (pc := 61) dX7_figure_61 (by decide) ?_
            refine e_isub (pc := 62) dX7_figure_62 ?_
            refine aldv_figures (pc := 63) dX7_figure_63 (by rw [hF1.1.2.2.2]; exact (hw (mc_b1.mp c_25) c_38 _ (ywr_len m b k v) (by rw [← hF1.2.1]; exact c_53)).2) (tk_get hF1.2.2 (hw (mc_b1.mp c_25) c_38 _ (ywr_len m b k v) (by rw [← hF1.2.1]; exact c_53)).1) ?_
            refine e_goto (pc := 64) dX7_figure_64 (t := 68) (by decide) ?_
            exact e_iret (pc := 68) dX7_figure_68 rfl (Nat.le_refl _) (Nat.le_refl _) ⟨(by clear hw; have q7 := hF1.2.1; rw [q7] at c_53; (try simp only [mc_cmp_le, mc_cmp_ge, mc_cmp_eq, mc_cmp_lt, mc_cmp_gt, mc_b0, mc_b1, Bool.not_eq_false, Bool.not_eq_true] at c_5 c_15 c_25 c_38 c_53); first | rfl | (simp [yfig, c_5, c_15, c_25, c_38, c_53]; done) | ((try simp only [← Int32.not_lt, ← Int64.not_lt, Classical.not_not] at c_5 c_15 c_25 c_38 c_53); simp [yfig, c_5, c_15, c_25, c_38, c_53])), n1, d1, hF1.1, rfl⟩
        · skip
          refine e_aloadn (pc := 41) dX7_figure_41 rfl ?_
          refine e_get (pc := 42) dX7_figure_42 fX7_175 rfl rfl ?_
          refine e_goto (pc := 45) dX7_figure_45 (t := 68) (by decide) ?_
          exact e_iret (pc := 68) dX7_figure_68 rfl (Nat.le_refl _) (Nat.le_refl _) ⟨(by clear hw; have q7 := hF1.2.1; rw [q7]; rw [c_38] at c_25; (try simp only [mc_cmp_le, mc_cmp_ge, mc_cmp_eq, mc_cmp_lt, mc_cmp_gt, mc_b0, mc_b1, Bool.not_eq_false, Bool.not_eq_true] at c_5 c_15 c_25 c_38); first | rfl | (simp [yfig, c_5, c_15, c_25, c_38]; done) | ((try simp only [← Int32.not_lt, ← Int64.not_lt, Classical.not_not] at c_5 c_15 c_25 c_38); simp [yfig, c_5, c_15, c_25, c_38])), n1, d1, hF1.1, rfl⟩
      · skip
        refine e_bipush (v := -7) (pc := 28) dX7_figure_28 (by decide) ?_
        exact e_iret (pc := 30) dX7_figure_30 rfl (Nat.le_refl _) (Nat.le_refl _) ⟨(by clear hw; (try simp only [mc_cmp_le, mc_cmp_ge, mc_cmp_eq, mc_cmp_lt, mc_cmp_gt, mc_b0, mc_b1, Bool.not_eq_false, Bool.not_eq_true] at c_5 c_15 c_25); first | rfl | (simp [yfig, c_5, c_15, c_25]; done) | ((try simp only [← Int32.not_lt, ← Int64.not_lt, Classical.not_not] at c_5 c_15 c_25); simp [yfig, c_5, c_15, c_25])), n, d, hD, rfl⟩
  · skip
    refine e_bipush (v := -5) (pc := 8) dX7_figure_8 (by decide) ?_
    exact e_iret (pc := 10) dX7_figure_10 rfl (Nat.le_refl _) (Nat.le_refl _) ⟨(by clear hw; (try simp only [mc_cmp_le, mc_cmp_ge, mc_cmp_eq, mc_cmp_lt, mc_cmp_gt, mc_b0, mc_b1, Bool.not_eq_false, Bool.not_eq_true] at c_5); first | rfl | (simp [yfig, c_5]; done) | ((try simp only [← Int32.not_lt, ← Int64.not_lt, Classical.not_not] at c_5); simp [yfig, c_5])), n, d, hD, rfl⟩
/-- what one reads of it plainly -/
def ypl (m : Nat → Int32) (b : Nat → List Int32) (k v : Int32) : Int64 := yrd (m 0) (ywr m b k v)
theorem sp_y_plainOf {s u m n : Nat → Int32} {a c b d : Nat → List Int32} {q : List (Option Nat)} {h : Nat} {z : mc_W} {k v : Int32} (hG : yG m b) (hk : mc_wi k 0 (m 2 - 1) = true) (hv : mc_wi v 0 99999 = true) (hD : yD d) : mc_T yX7_plainOf cX7_plainOf 3 (some .long) 6 [.ref 29, .int k, .int v] (WW s a q u c h m b n d z) (some (.long (ypl m b k v))) (fun w' => ∃ n1 d1, yD d1 ∧ w' = WW s a q u c h m b n1 d1 z) := by
  refine mc_start (own := RX7) (ini := false) rfl (by decide +kernel) (fun h => by cases h) (Nat.le_of_ble_eq_true rfl) ?_
  show mc_E _ _ _ _ _ [some (.ref 29), some (.int k), some (.int v)] [] _ _ _
  refine e_aloadn (pc := 0) dX7_plainOf_0 rfl ?_
  refine e_iloadn (pc := 1) dX7_plainOf_1 rfl ?_
  refine e_iloadn (pc := 2) dX7_plainOf_2 rfl ?_
  refine e_cvY (pc := 3) (sp_y_writes hG.1 hG.V (hG.k0 hk) (hG.k1 hk) (hG.fg _) (hG.mk _ _ hv) hD) dX7_plainOf_3 kX7_186 rfl rfl rfl rfl rfl (mc_CR_of (Nat.le_of_ble_eq_true rfl) (Nat.le_of_ble_eq_true rfl) (Nat.le_refl _) (Nat.le_refl _)) (Nat.le_of_ble_eq_true rfl) (fun w1 hw1 => ?_)
  obtain ⟨n1, d1, hF1, rfl⟩ := hw1
  refine e_aloadn (pc := 6) dX7_plainOf_6 rfl ?_
  refine e_aloadn (pc := 7) dX7_plainOf_7 rfl ?_
  refine e_get (pc := 8) dX7_plainOf_8 fX7_7 rfl rfl ?_
  refine e_iconst (v := 0) (pc := 11) dX7_plainOf_11 (by decide) ?_
  refine e_cvD (pc := 12) (sp_y_readsBy (tf := false) hF1 (ywr_len m b k v)) dX7_plainOf_12 kX7_194 rfl rfl rfl rfl rfl (mc_CR_of (Nat.le_of_ble_eq_true rfl) (Nat.le_of_ble_eq_true rfl) (Nat.le_refl _) (Nat.le_refl _)) (Nat.le_of_ble_eq_true rfl) ?_
  exact e_lret (pc := 15) dX7_plainOf_15 rfl (Nat.le_refl _) (Nat.le_refl _) ⟨rfl, n1, d1, hF1.1, rfl⟩
def yplain (m : Nat → Int32) (b : Nat → List Int32) (k v : Int32) : Int64 := if mc_wi k 0 (m 2 - 1) = false then -5 else if mc_wi v 0 99999 = false then -7 else ypl m b k v
theorem sp_y_plain {s u m n : Nat → Int32} {a c b d : Nat → List Int32} {q : List (Option Nat)} {h : Nat} {z : mc_W} {k v : Int32} (hG : yG m b) (hD : yD d) : mc_T yX7_plain cX7_plain 3 (some .long) 7 [.ref 29, .int k, .int v] (WW s a q u c h m b n d z) (some (.long (yplain m b k v))) (fun w' => ∃ n1 d1, yD d1 ∧ w' = WW s a q u c h m b n1 d1 z) := by
  refine mc_start (own := RX7) (ini := false) rfl (by decide +kernel) (fun h => by cases h) (Nat.le_of_ble_eq_true rfl) ?_
  show mc_E _ _ _ _ _ [some (.ref 29), some (.int k), some (.int v)] [] _ _ _
  refine e_aloadn (pc := 0) dX7_plain_0 rfl ?_
  refine e_iloadn (pc := 1) dX7_plain_1 rfl ?_
  refine e_cvD (pc := 2) (sp_y_isClerk) dX7_plain_2 kX7_159 rfl rfl rfl rfl rfl (mc_CR_of (Nat.le_of_ble_eq_true rfl) (Nat.le_of_ble_eq_true rfl) (Nat.le_refl _) (Nat.le_refl _)) (Nat.le_of_ble_eq_true rfl) ?_
  refine e_if_ne (pc := 5) dX7_plain_5 (t := 12) (by decide) (fun c_5 => ?_) (fun c_5 => ?_)
  · skip
    refine e_iloadn (pc := 12) dX7_plain_12 rfl ?_
    refine e_csD (pc := 13) (sp_y_isNumber) dX7_plain_13 kX7_162 rfl rfl (mc_CR_of (Nat.le_of_ble_eq_true rfl) (Nat.le_of_ble_eq_true rfl) (Nat.le_refl _) (Nat.le_refl _)) (Nat.le_of_ble_eq_true rfl) ?_
    refine e_if_eq (pc := 16) dX7_plain_16 (t := 28) (by decide) (fun c_16 => ?_) (fun c_16 => ?_)
    · skip
      refine e_ldc2 (pc := 28) dX7_plain_28 qX7_192 ?_
      exact e_lret (pc := 31) dX7_plain_31 rfl (Nat.le_refl _) (Nat.le_refl _) ⟨(by (try simp only [mc_cmp_le, mc_cmp_ge, mc_cmp_eq, mc_cmp_lt, mc_cmp_gt, mc_b0, mc_b1, Bool.not_eq_false, Bool.not_eq_true] at c_5 c_16); first | rfl | (simp [yplain, c_5, c_16]; done) | ((try simp only [← Int32.not_lt, ← Int64.not_lt, Classical.not_not] at c_5 c_16); simp [yplain, c_5, c_16])), by first | exact ⟨n1, d1, hD1, rfl⟩ | exact ⟨n, d, hD, rfl⟩⟩
    · skip
      refine e_aloadn (pc := 19) dX7_plain_19 rfl ?_
      refine e_iloadn (pc := 20) dX7_plain_20 rfl ?_
      refine e_iloadn (pc := 21) dX7_plain_21 rfl ?_
      refine e_cvX (pc := 22) (sp_y_plainOf hG (mc_b1.mp c_5) (by simpa [mc_b0] using c_16) hD) dX7_plain_22 kX7_198 rfl rfl rfl rfl rfl (mc_CR_of (Nat.le_of_ble_eq_true rfl) (Nat.le_of_ble_eq_true rfl) (Nat.le_refl _) (Nat.le_refl _)) (Nat.le_of_ble_eq_true rfl) (fun w1 hw1 => ?_)
      obtain ⟨n1, d1, hD1, rfl⟩ := hw1
      refine e_goto (pc := 25) dX7_plain_25 (t := 31) (by decide) ?_
      exact e_lret (pc := 31) dX7_plain_31 rfl (Nat.le_refl _) (Nat.le_refl _) ⟨(by (try simp only [mc_cmp_le, mc_cmp_ge, mc_cmp_eq, mc_cmp_lt, mc_cmp_gt, mc_b0, mc_b1, Bool.not_eq_false, Bool.not_eq_true] at c_5 c_16); first | rfl | (simp [yplain, c_5, c_16]; done) | ((try simp only [← Int32.not_lt, ← Int64.not_lt, Classical.not_not] at c_5 c_16); simp [yplain, c_5, c_16])), by first | exact ⟨n1, d1, hD1, rfl⟩ | exact ⟨n, d, hD, rfl⟩⟩
  · skip
    refine e_ldc2 (pc := 8) dX7_plain_8 qX7_190 ?_
    exact e_lret (pc := 11) dX7_plain_11 rfl (Nat.le_refl _) (Nat.le_refl _) ⟨(by (try simp only [mc_cmp_le, mc_cmp_ge, mc_cmp_eq, mc_cmp_lt, mc_cmp_gt, mc_b0, mc_b1, Bool.not_eq_false, Bool.not_eq_true] at c_5); first | rfl | (simp [yplain, c_5]; done) | ((try simp only [← Int32.not_lt, ← Int64.not_lt, Classical.not_not] at c_5); simp [yplain, c_5])), by first | exact ⟨n1, d1, hD1, rfl⟩ | exact ⟨n, d, hD, rfl⟩⟩
def yrdr (w : Int32) : Int32 := if 0 ≤ w then w / 100 else -1
def ywrt (w : Int32) : Int32 := if 0 ≤ w then w - w / 100 * 100 else -1
def yreads (m : Nat → Int32) (b : Nat → List Int32) (w v : Int32) : Int64 :=
  if (mc_wi (yrdr w) 0 (m 2 - 1) && mc_wi (ywrt w) 0 (m 2 - 1)) = false then -5 else if mc_wi v 0 99999 = false then -7
  else yrd (yfg m b (yrdr w)) (if yy_it (gt (b 0) (yrdr w)) = true then (ywr m b (ywrt w) v).reverse else ywr m b (ywrt w) v)
theorem sp_y_reads {s u m n : Nat → Int32} {a c b d : Nat → List Int32} {q : List (Option Nat)} {h : Nat} {z : mc_W} {w v : Int32} (hG : yG m b) (hD : yD d) : mc_T yX7_reads cX7_reads 5 (some .long) 6 [.ref 29, .int w, .int v] (WW s a q u c h m b n d z) (some (.long (yreads m b w v))) (fun w' => ∃ n1 d1, yD d1 ∧ w' = WW s a q u c h m b n1 d1 z) := by
  refine mc_start (own := RX7) (ini := false) rfl (by decide +kernel) (fun h => by cases h) (Nat.le_of_ble_eq_true rfl) ?_
  show mc_E _ _ _ _ _ [some (.ref 29), some (.int w), some (.int v), none, none] [] _ _ _
  refine e_iloadn (pc := 0) dX7_reads_0 rfl ?_
  refine e_if_ge (pc := 1) dX7_reads_1 (t := 8) (by decide) (fun c_1 => ?_) (fun c_1 => ?_)
  · skip
    refine e_iloadn (pc := 8) dX7_reads_8 rfl ?_
    refine e_bipush (v := 100) (pc := 9) dX7_reads_9 (by decide) ?_
    refine e_idiv (pc := 11) dX7_reads_11 (by decide) ?_
    refine e_top ((show _ = yrdr w by unfold yrdr; first | rw [if_pos (by assumption)] | rw [if_neg (by assumption)])) ?_
    refine e_isn3 (pc := 12) dX7_reads_12 (Nat.le_of_ble_eq_true rfl) rfl ?_
    refine e_iloadn (pc := 13) dX7_reads_13 rfl ?_
    refine e_if_ge (pc := 14) dX7_reads_14 (t := 21) (by decide) (fun _ => ?_) (fun c_14 => absurd c_1 c_14)
    refine e_iloadn (pc := 21) dX7_reads_21 rfl ?_
    refine e_bipush (v := 100) (pc := 22) dX7_reads_22 (by decide) ?_
    refine e_irem (pc := 24) dX7_reads_24 (by decide) ?_
    refine e_top ((show _ = ywrt w by unfold ywrt; first | rw [if_pos (by assumption)] | rw [if_neg (by assumption)])) ?_
    refine e_isw4 (pc := 25) dX7_reads_25 (Nat.le_of_ble_eq_true rfl) rfl ?_
    refine e_aloadn (pc := 27) dX7_reads_27 rfl ?_
    refine e_iloadn (pc := 28) dX7_reads_28 rfl ?_
    refine e_cvD (pc := 29) (sp_y_isClerk) dX7_reads_29 kX7_159 rfl rfl rfl rfl rfl (mc_CR_of (Nat.le_of_ble_eq_true rfl) (Nat.le_of_ble_eq_true rfl) (Nat.le_refl _) (Nat.le_refl _)) (Nat.le_of_ble_eq_true rfl) ?_
    refine e_if_eq (pc := 32) dX7_reads_32 (t := 44) (by decide) (fun c_32 => ?_) (fun c_32 => ?_)
    · skip
      refine e_ldc2 (pc := 44) dX7_reads_44 qX7_190 ?_
      exact e_lret (pc := 47) dX7_reads_47 rfl (Nat.le_refl _) (Nat.le_refl _) ⟨(by (try simp only [mc_cmp_le, mc_cmp_ge, mc_cmp_eq, mc_cmp_lt, mc_cmp_gt, mc_b0, mc_b1, Bool.not_eq_false, Bool.not_eq_true] at c_1 c_32); first | rfl | (simp [yreads, c_1, c_32]; done) | ((try simp only [← Int32.not_lt, ← Int64.not_lt, Classical.not_not] at c_1 c_32); simp [yreads, c_1, c_32])), n, d, hD, rfl⟩
    · skip
      refine e_aloadn (pc := 35) dX7_reads_35 rfl ?_
      refine e_iload (pc := 36) dX7_reads_36 rfl ?_
      refine e_cvD (pc := 38) (sp_y_isClerk) dX7_reads_38 kX7_159 rfl rfl rfl rfl rfl (mc_CR_of (Nat.le_of_ble_eq_true rfl) (Nat.le_of_ble_eq_true rfl) (Nat.le_refl _) (Nat.le_refl _)) (Nat.le_of_ble_eq_true rfl) ?_
      refine e_if_ne (pc := 41) dX7_reads_41 (t := 48) (by decide) (fun c_41 => ?_) (fun c_41 => ?_)
      · skip
        refine e_iloadn (pc := 48) dX7_reads_48 rfl ?_
        refine e_csD (pc := 49) (sp_y_isNumber) dX7_reads_49 kX7_162 rfl rfl (mc_CR_of (Nat.le_of_ble_eq_true rfl) (Nat.le_of_ble_eq_true rfl) (Nat.le_refl _) (Nat.le_refl _)) (Nat.le_of_ble_eq_true rfl) ?_
        refine e_if_ne (pc := 52) dX7_reads_52 (t := 59) (by decide) (fun c_52 => ?_) (fun c_52 => ?_)
        · skip
          refine e_aloadn (pc := 59) dX7_reads_59 rfl ?_
          refine e_iload (pc := 60) dX7_reads_60 rfl ?_
          refine e_iloadn (pc := 62) dX7_reads_62 rfl ?_
          refine e_cvY (pc := 63) (sp_y_writes hG.1 hG.V (hG.k0 (mc_b1.mp c_41)) (hG.k1 (mc_b1.mp c_41)) (hG.fg _) (hG.mk _ _ (mc_b1.mp c_52)) hD) dX7_reads_63 kX7_186 rfl rfl rfl rfl rfl (mc_CR_of (Nat.le_of_ble_eq_true rfl) (Nat.le_of_ble_eq_true rfl) (Nat.le_refl _) (Nat.le_refl _)) (Nat.le_of_ble_eq_true rfl) (fun w1 hw1 => ?_)
          obtain ⟨n1, d1, hF1, rfl⟩ := hw1
          refine e_aloadn (pc := 66) dX7_reads_66 rfl ?_
          refine e_aloadn (pc := 67) dX7_reads_67 rfl ?_
          refine e_iloadn (pc := 68) dX7_reads_68 rfl ?_
          refine e_cvD (pc := 69) (sp_y_figuresOf (hG.k0 (by simpa [mc_b0] using c_32)) (hG.k1 (by simpa [mc_b0] using c_32))) dX7_reads_69 kX7_169 rfl rfl rfl rfl rfl (mc_CR_of (Nat.le_of_ble_eq_true rfl) (Nat.le_of_ble_eq_true rfl) (Nat.le_refl _) (Nat.le_refl _)) (Nat.le_of_ble_eq_true rfl) ?_
          refine e_aloadn (pc := 72) dX7_reads_72 rfl ?_
          refine e_iloadn (pc := 73) dX7_reads_73 rfl ?_
          refine e_cvD (pc := 74) (sp_y_isTurned (hG.k0 (by simpa [mc_b0] using c_32))) dX7_reads_74 kX7_172 rfl rfl rfl rfl rfl (mc_CR_of (Nat.le_of_ble_eq_true rfl) (Nat.le_of_ble_eq_true rfl) (Nat.le_refl _) (Nat.le_refl _)) (Nat.le_of_ble_eq_true rfl) ?_
          refine e_cvD (pc := 77) (sp_y_readsBy hF1 (ywr_len m b _ v)) dX7_reads_77 kX7_194 rfl rfl rfl rfl rfl (mc_CR_of (Nat.le_of_ble_eq_true rfl) (Nat.le_of_ble_eq_true rfl) (Nat.le_refl _) (Nat.le_refl _)) (Nat.le_of_ble_eq_true rfl) ?_
          exact e_lret (pc := 80) dX7_reads_80 rfl (Nat.le_refl _) (Nat.le_refl _) ⟨(by (try simp only [mc_cmp_le, mc_cmp_ge, mc_cmp_eq, mc_cmp_lt, mc_cmp_gt, mc_b0, mc_b1, Bool.not_eq_false, Bool.not_eq_true] at c_1 c_32 c_41 c_52); first | rfl | (simp [yreads, yfg, c_1, c_32, c_41, c_52]; done) | ((try simp only [← Int32.not_lt, ← Int64.not_lt, Classical.not_not] at c_1 c_32 c_41 c_52); simp [yreads, yfg, c_1, c_32, c_41, c_52])), n1, d1, hF1.1, rfl⟩
        · skip
          refine e_ldc2 (pc := 55) dX7_reads_55 qX7_192 ?_
          exact e_lret (pc := 58) dX7_reads_58 rfl (Nat.le_refl _) (Nat.le_refl _) ⟨(by (try simp only [mc_cmp_le, mc_cmp_ge, mc_cmp_eq, mc_cmp_lt, mc_cmp_gt, mc_b0, mc_b1, Bool.not_eq_false, Bool.not_eq_true] at c_1 c_32 c_41 c_52); first | rfl | (simp [yreads, c_1, c_32, c_41, c_52]; done) | ((try simp only [← Int32.not_lt, ← Int64.not_lt, Classical.not_not] at c_1 c_32 c_41 c_52); simp [yreads, c_1, c_32, c_41, c_52])), n, d, hD, rfl⟩
      · skip
        refine e_ldc2 (pc := 44) dX7_reads_44 qX7_190 ?_
        exact e_lret (pc := 47) dX7_reads_47 rfl (Nat.le_refl _) (Nat.le_refl _) ⟨(by (try simp only [mc_cmp_le, mc_cmp_ge, mc_cmp_eq, mc_cmp_lt, mc_cmp_gt, mc_b0, mc_b1, Bool.not_eq_false, Bool.not_eq_true] at c_1 c_32 c_41); first | rfl | (simp [yreads, c_1, c_32, c_41]; done) | ((try simp only [← Int32.not_lt, ← Int64.not_lt, Classical.not_not] at c_1 c_32 c_41); simp [yreads, c_1, c_32, c_41])), n, d, hD, rfl⟩
  · skip
    refine e_iconst (v := -1) (pc := 4) dX7_reads_4 (by decide) ?_
    refine e_goto (pc := 5) dX7_reads_5 (t := 12) (by decide) ?_
    refine e_top ((show _ = yrdr w by unfold yrdr; first | rw [if_pos (by assumption)] | rw [if_neg (by assumption)])) ?_
    refine e_isn3 (pc := 12) dX7_reads_12 (Nat.le_of_ble_eq_true rfl) rfl ?_
    refine e_iloadn (pc := 13) dX7_reads_13 rfl ?_
    refine e_if_ge (pc := 14) dX7_reads_14 (t := 21) (by decide) (fun c_14 => absurd c_14 c_1) (fun _ => ?_)
    refine e_iconst (v := -1) (pc := 17) dX7_reads_17 (by decide) ?_
    refine e_goto (pc := 18) dX7_reads_18 (t := 25) (by decide) ?_
    refine e_top ((show _ = ywrt w by unfold ywrt; first | rw [if_pos (by assumption)] | rw [if_neg (by assumption)])) ?_
    refine e_isw4 (pc := 25) dX7_reads_25 (Nat.le_of_ble_eq_true rfl) rfl ?_
    refine e_aloadn (pc := 27) dX7_reads_27 rfl ?_
    refine e_iloadn (pc := 28) dX7_reads_28 rfl ?_
    refine e_cvD (pc := 29) (sp_y_isClerk) dX7_reads_29 kX7_159 rfl rfl rfl rfl rfl (mc_CR_of (Nat.le_of_ble_eq_true rfl) (Nat.le_of_ble_eq_true rfl) (Nat.le_refl _) (Nat.le_refl _)) (Nat.le_of_ble_eq_true rfl) ?_
    refine e_if_eq (pc := 32) dX7_reads_32 (t := 44) (by decide) (fun c_32 => ?_) (fun c_32 => ?_)
    · skip
      refine e_ldc2 (pc := 44) dX7_reads_44 qX7_190 ?_
      exact e_lret (pc := 47) dX7_reads_47 rfl (Nat.le_refl _) (Nat.le_refl _) ⟨(by (try simp only [mc_cmp_le, mc_cmp_ge, mc_cmp_eq, mc_cmp_lt, mc_cmp_gt, mc_b0, mc_b1, Bool.not_eq_false, Bool.not_eq_true] at c_1 c_32); first | rfl | (simp [yreads, c_1, c_32]; done) | ((try simp only [← Int32.not_lt, ← Int64.not_lt, Classical.not_not] at c_1 c_32); simp [yreads, c_1, c_32])), n, d, hD, rfl⟩
    · skip
      refine e_aloadn (pc := 35) dX7_reads_35 rfl ?_
      refine e_iload (pc := 36) dX7_reads_36 rfl ?_
      refine e_cvD (pc := 38) (sp_y_isClerk) dX7_reads_38 kX7_159 rfl rfl rfl rfl rfl (mc_CR_of (Nat.le_of_ble_eq_true rfl) (Nat.le_of_ble_eq_true rfl) (Nat.le_refl _) (Nat.le_refl _)) (Nat.le_of_ble_eq_true rfl) ?_
      refine e_if_ne (pc := 41) dX7_reads_41 (t := 48) (by decide) (fun c_41 => ?_) (fun c_41 => ?_)
      · skip
        refine e_iloadn (pc := 48) dX7_reads_48 rfl ?_
        refine e_csD (pc := 49) (sp_y_isNumber) dX7_reads_49 kX7_162 rfl rfl (mc_CR_of (Nat.le_of_ble_eq_true rfl) (Nat.le_of_ble_eq_true rfl) (Nat.le_refl _) (Nat.le_refl _)) (Nat.le_of_ble_eq_true rfl) ?_
        refine e_if_ne (pc := 52) dX7_reads_52 (t := 59) (by decide) (fun c_52 => ?_) (fun c_52 => ?_)
        · skip
          refine e_aloadn (pc := 59) dX7_reads_59 rfl ?_
          refine e_iload (pc := 60) dX7_reads_60 rfl ?_
          refine e_iloadn (pc := 62) dX7_reads_62 rfl ?_
          refine e_cvY (pc := 63) (sp_y_writes hG.1 hG.V (hG.k0 (mc_b1.mp c_41)) (hG.k1 (mc_b1.mp c_41)) (hG.fg _) (hG.mk _ _ (mc_b1.mp c_52)) hD) dX7_reads_63 kX7_186 rfl rfl rfl rfl rfl (mc_CR_of (Nat.le_of_ble_eq_true rfl) (Nat.le_of_ble_eq_true rfl) (Nat.le_refl _) (Nat.le_refl _)) (Nat.le_of_ble_eq_true rfl) (fun w1 hw1 => ?_)
          obtain ⟨n1, d1, hF1, rfl⟩ := hw1
          refine e_aloadn (pc := 66) dX7_reads_66 rfl ?_
          refine e_aloadn (pc := 67) dX7_reads_67 rfl ?_
          refine e_iloadn (pc := 68) dX7_reads_68 rfl ?_
          refine e_cvD (pc := 69) (sp_y_figuresOf (hG.k0 (by simpa [mc_b0] using c_32)) (hG.k1 (by simpa [mc_b0] using c_32))) dX7_reads_69 kX7_169 rfl rfl rfl rfl rfl (mc_CR_of (Nat.le_of_ble_eq_true rfl) (Nat.le_of_ble_eq_true rfl) (Nat.le_refl _) (Nat.le_refl _)) (Nat.le_of_ble_eq_true rfl) ?_
          refine e_aloadn (pc := 72) dX7_reads_72 rfl ?_
          refine e_iloadn (pc := 73) dX7_reads_73 rfl ?_
          refine e_cvD (pc := 74) (sp_y_isTurned (hG.k0 (by simpa [mc_b0] using c_32))) dX7_reads_74 kX7_172 rfl rfl rfl rfl rfl (mc_CR_of (Nat.le_of_ble_eq_true rfl) (Nat.le_of_ble_eq_true rfl) (Nat.le_refl _) (Nat.le_refl _)) (Nat.le_of_ble_eq_true rfl) ?_
          refine e_cvD (pc := 77) (sp_y_readsBy hF1 (ywr_len m b _ v)) dX7_reads_77 kX7_194 rfl rfl rfl rfl rfl (mc_CR_of (Nat.le_of_ble_eq_true rfl) (Nat.le_of_ble_eq_true rfl) (Nat.le_refl _) (Nat.le_refl _)) (Nat.le_of_ble_eq_true rfl) ?_
          exact e_lret (pc := 80) dX7_reads_80 rfl (Nat.le_refl _) (Nat.le_refl _) ⟨(by (try simp only [mc_cmp_le, mc_cmp_ge, mc_cmp_eq, mc_cmp_lt, mc_cmp_gt, mc_b0, mc_b1, Bool.not_eq_false, Bool.not_eq_true] at c_1 c_32 c_41 c_52); first | rfl | (simp [yreads, yfg, c_1, c_32, c_41, c_52]; done) | ((try simp only [← Int32.not_lt, ← Int64.not_lt, Classical.not_not] at c_1 c_32 c_41 c_52); simp [yreads, yfg, c_1, c_32, c_41, c_52])), n1, d1, hF1.1, rfl⟩
        · skip
          refine e_ldc2 (pc := 55) dX7_reads_55 qX7_192 ?_
          exact e_lret (pc := 58) dX7_reads_58 rfl (Nat.le_refl _) (Nat.le_refl _) ⟨(by (try simp only [mc_cmp_le, mc_cmp_ge, mc_cmp_eq, mc_cmp_lt, mc_cmp_gt, mc_b0, mc_b1, Bool.not_eq_false, Bool.not_eq_true] at c_1 c_32 c_41 c_52); first | rfl | (simp [yreads, c_1, c_32, c_41, c_52]; done) | ((try simp only [← Int32.not_lt, ← Int64.not_lt, Classical.not_not] at c_1 c_32 c_41 c_52); simp [yreads, c_1, c_32, c_41, c_52])), n, d, hD, rfl⟩
      · skip
        refine e_ldc2 (pc := 44) dX7_reads_44 qX7_190 ?_
        exact e_lret (pc := 47) dX7_reads_47 rfl (Nat.le_refl _) (Nat.le_refl _) ⟨(by (try simp only [mc_cmp_le, mc_cmp_ge, mc_cmp_eq, mc_cmp_lt, mc_cmp_gt, mc_b0, mc_b1, Bool.not_eq_false, Bool.not_eq_true] at c_1 c_32 c_41); first | rfl | (simp [yreads, c_1, c_32, c_41]; done) | ((try simp only [← Int32.not_lt, ← Int64.not_lt, Classical.not_not] at c_1 c_32 c_41); simp [yreads, c_1, c_32, c_41])), n, d, hD, rfl⟩
def yadd (m : Nat → Int32) (b : Nat → List Int32) (k x y : Int32) : Int64 := (ymk m b k x).toInt64 + (ymk m b k y).toInt64
theorem sp_y_addsOf {s u m n : Nat → Int32} {a c b d : Nat → List Int32} {q : List (Option Nat)} {h : Nat} {z : mc_W} {k x y : Int32} (hG : yG m b) (hk : mc_wi k 0 (m 2 - 1) = true) (hD : yD d) : mc_T yX7_addsOf cX7_addsOf 4 (some .long) 5 [.ref 29, .int k, .int x, .int y] (WW s a q u c h m b n d z) (some (.long (yadd m b k x y))) (fun w' => ∃ d1, yD d1 ∧ d1 3 = d 3 ∧ w' = WW s a q u c h m b n d1 z) := by
  refine mc_start (own := RX7) (ini := false) rfl (by decide +kernel) (fun h => by cases h) (Nat.le_of_ble_eq_true rfl) ?_
  show mc_E _ _ _ _ _ [some (.ref 29), some (.int k), some (.int x), some (.int y)] [] _ _ _
  refine e_aloadn (pc := 0) dX7_addsOf_0 rfl ?_
  refine e_iloadn (pc := 1) dX7_addsOf_1 rfl ?_
  refine e_iloadn (pc := 2) dX7_addsOf_2 rfl ?_
  refine e_cvX (pc := 3) (sp_y_makesOf hG.1 hG.V (hG.k0 hk) (hG.k1 hk) hD) dX7_addsOf_3 kX7_178 rfl rfl rfl rfl rfl (mc_CR_of (Nat.le_of_ble_eq_true rfl) (Nat.le_of_ble_eq_true rfl) (Nat.le_refl _) (Nat.le_refl _)) (Nat.le_of_ble_eq_true rfl) (fun w1 hw1 => ?_)
  obtain ⟨d1, hD1, g3, rfl⟩ := hw1
  refine e_i2l (pc := 6) dX7_addsOf_6 ?_
  refine e_aloadn (pc := 7) dX7_addsOf_7 rfl ?_
  refine e_iloadn (pc := 8) dX7_addsOf_8 rfl ?_
  refine e_iloadn (pc := 9) dX7_addsOf_9 rfl ?_
  refine e_cvX (pc := 10) (sp_y_makesOf hG.1 hG.V (hG.k0 hk) (hG.k1 hk) hD1) dX7_addsOf_10 kX7_178 rfl rfl rfl rfl rfl (mc_CR_of (Nat.le_of_ble_eq_true rfl) (Nat.le_of_ble_eq_true rfl) (Nat.le_refl _) (Nat.le_refl _)) (Nat.le_of_ble_eq_true rfl) (fun w1 hw1 => ?_)
  obtain ⟨d2, hD2, g4, rfl⟩ := hw1
  refine e_i2l (pc := 13) dX7_addsOf_13 ?_
  refine e_ladd (pc := 14) dX7_addsOf_14 ?_
  exact e_lret (pc := 15) dX7_addsOf_15 rfl (Nat.le_refl _) (Nat.le_refl _) ⟨rfl, d2, hD2, g4.trans g3, rfl⟩
def yadds (m : Nat → Int32) (b : Nat → List Int32) (k x y : Int32) : Int64 := if mc_wi k 0 (m 2 - 1) = false then -5 else if (mc_wi x 0 99999 && mc_wi y 0 99999) = false then -7 else yadd m b k x y
theorem sp_y_adds {s u m n : Nat → Int32} {a c b d : Nat → List Int32} {q : List (Option Nat)} {h : Nat} {z : mc_W} {k x y : Int32} (hG : yG m b) (hD : yD d) : mc_T yX7_adds cX7_adds 4 (some .long) 6 [.ref 29, .int k, .int x, .int y] (WW s a q u c h m b n d z) (some (.long (yadds m b k x y))) (fun w' => ∃ n1 d1, yD d1 ∧ w' = WW s a q u c h m b n1 d1 z) := by
  refine mc_start (own := RX7) (ini := false) rfl (by decide +kernel) (fun h => by cases h) (Nat.le_of_ble_eq_true rfl) ?_
  show mc_E _ _ _ _ _ [some (.ref 29), some (.int k), some (.int x), some (.int y)] [] _ _ _
  refine e_aloadn (pc := 0) dX7_adds_0 rfl ?_
  refine e_iloadn (pc := 1) dX7_adds_1 rfl ?_
  refine e_cvD (pc := 2) (sp_y_isClerk) dX7_adds_2 kX7_159 rfl rfl rfl rfl rfl (mc_CR_of (Nat.le_of_ble_eq_true rfl) (Nat.le_of_ble_eq_true rfl) (Nat.le_refl _) (Nat.le_refl _)) (Nat.le_of_ble_eq_true rfl) ?_
  refine e_if_ne (pc := 5) dX7_adds_5 (t := 12) (by decide) (fun c_5 => ?_) (fun c_5 => ?_)
  · skip
    refine e_iloadn (pc := 12) dX7_adds_12 rfl ?_
    refine e_csD (pc := 13) (sp_y_isNumber) dX7_adds_13 kX7_162 rfl rfl (mc_CR_of (Nat.le_of_ble_eq_true rfl) (Nat.le_of_ble_eq_true rfl) (Nat.le_refl _) (Nat.le_refl _)) (Nat.le_of_ble_eq_true rfl) ?_
    refine e_if_eq (pc := 16) dX7_adds_16 (t := 36) (by decide) (fun c_16 => ?_) (fun c_16 => ?_)
    · skip
      refine e_ldc2 (pc := 36) dX7_adds_36 qX7_192 ?_
      exact e_lret (pc := 39) dX7_adds_39 rfl (Nat.le_refl _) (Nat.le_refl _) ⟨(by (try simp only [mc_cmp_le, mc_cmp_ge, mc_cmp_eq, mc_cmp_lt, mc_cmp_gt, mc_b0, mc_b1, Bool.not_eq_false, Bool.not_eq_true] at c_5 c_16); first | rfl | (simp [yadds, c_5, c_16]; done) | ((try simp only [← Int32.not_lt, ← Int64.not_lt, Classical.not_not] at c_5 c_16); simp [yadds, c_5, c_16])), by first | exact ⟨n, d1, hD1, rfl⟩ | exact ⟨n, d, hD, rfl⟩⟩
    · skip
      refine e_iloadn (pc := 19) dX7_adds_19 rfl ?_
      refine e_csD (pc := 20) (sp_y_isNumber) dX7_adds_20 kX7_162 rfl rfl (mc_CR_of (Nat.le_of_ble_eq_true rfl) (Nat.le_of_ble_eq_true rfl) (Nat.le_refl _) (Nat.le_refl _)) (Nat.le_of_ble_eq_true rfl) ?_
      refine e_if_eq (pc := 23) dX7_adds_23 (t := 36) (by decide) (fun c_23 => ?_) (fun c_23 => ?_)
      · skip
        refine e_ldc2 (pc := 36) dX7_adds_36 qX7_192 ?_
        exact e_lret (pc := 39) dX7_adds_39 rfl (Nat.le_refl _) (Nat.le_refl _) ⟨(by (try simp only [mc_cmp_le, mc_cmp_ge, mc_cmp_eq, mc_cmp_lt, mc_cmp_gt, mc_b0, mc_b1, Bool.not_eq_false, Bool.not_eq_true] at c_5 c_16 c_23); first | rfl | (simp [yadds, c_5, c_16, c_23]; done) | ((try simp only [← Int32.not_lt, ← Int64.not_lt, Classical.not_not] at c_5 c_16 c_23); simp [yadds, c_5, c_16, c_23])), by first | exact ⟨n, d1, hD1, rfl⟩ | exact ⟨n, d, hD, rfl⟩⟩
      · skip
        refine e_aloadn (pc := 26) dX7_adds_26 rfl ?_
        refine e_iloadn (pc := 27) dX7_adds_27 rfl ?_
        refine e_iloadn (pc := 28) dX7_adds_28 rfl ?_
        refine e_iloadn (pc := 29) dX7_adds_29 rfl ?_
        refine e_cvX (pc := 30) (sp_y_addsOf hG (mc_b1.mp c_5) hD) dX7_adds_30 kX7_202 rfl rfl rfl rfl rfl (mc_CR_of (Nat.le_of_ble_eq_true rfl) (Nat.le_of_ble_eq_true rfl) (Nat.le_refl _) (Nat.le_refl _)) (Nat.le_of_ble_eq_true rfl) (fun w1 hw1 => ?_)
        obtain ⟨d1, hD1, g3, rfl⟩ := hw1
        refine e_goto (pc := 33) dX7_adds_33 (t := 39) (by decide) ?_
        exact e_lret (pc := 39) dX7_adds_39 rfl (Nat.le_refl _) (Nat.le_refl _) ⟨(by (try simp only [mc_cmp_le, mc_cmp_ge, mc_cmp_eq, mc_cmp_lt, mc_cmp_gt, mc_b0, mc_b1, Bool.not_eq_false, Bool.not_eq_true] at c_5 c_16 c_23); first | rfl | (simp [yadds, c_5, c_16, c_23]; done) | ((try simp only [← Int32.not_lt, ← Int64.not_lt, Classical.not_not] at c_5 c_16 c_23); simp [yadds, c_5, c_16, c_23])), by first | exact ⟨n, d1, hD1, rfl⟩ | exact ⟨n, d, hD, rfl⟩⟩
  · skip
    refine e_ldc2 (pc := 8) dX7_adds_8 qX7_190 ?_
    exact e_lret (pc := 11) dX7_adds_11 rfl (Nat.le_refl _) (Nat.le_refl _) ⟨(by (try simp only [mc_cmp_le, mc_cmp_ge, mc_cmp_eq, mc_cmp_lt, mc_cmp_gt, mc_b0, mc_b1, Bool.not_eq_false, Bool.not_eq_true] at c_5); first | rfl | (simp [yadds, c_5]; done) | ((try simp only [← Int32.not_lt, ← Int64.not_lt, Classical.not_not] at c_5); simp [yadds, c_5])), by first | exact ⟨n, d1, hD1, rfl⟩ | exact ⟨n, d, hD, rfl⟩⟩
def yoff (m : Nat → Int32) (b : Nat → List Int32) (k mo v : Int32) : Int64 := yy_far (yadd m b k v (v + mo)) (2 * v.toInt64 + mo.toInt64)
def yapl (m : Nat → Int32) (b : Nat → List Int32) (k mo w : Int32) : Nat → Nat → Int32
  | 0, _ => if w = 0 then -1 else 0
  | f + 1, v => if yoff m b k mo (nI v) = 0 then yapl m b k mo w f (v + 1) else if w = 0 then nI v else (yoff m b k mo (nI v)).toInt32
def yap (m : Nat → Int32) (b : Nat → List Int32) (k mo w : Int32) : Int32 := if mc_wi k 0 (m 2 - 1) = false then -5 else if (mc_wi mo 0 999 && mc_wi w 0 1) = false then -7 else yapl m b k mo w 1000 0
theorem lp_y_apart {s u m n : Nat → Int32} {a c b : Nat → List Int32} {q : List (Option Nat)} {h : Nat} {z : mc_W} {k mo w V : Int32} (hG : yG m b) (hk : mc_wi k 0 (m 2 - 1) = true) :
    ∀ (f v : Nat) (d : Nat → List Int32) (x5 x6 : Option Value), f + v = 1000 → yD d → yapl m b k mo w f v = V →
      mc_E RX7 cX7_apart 7 (mc_JM (some .int) false 6 0 0 (fun r' w' => r' = some (.int V) ∧ ∃ n1 d1, yD d1 ∧ w' = WW s a q u c h m b n1 d1 z)) 37 [some (.ref 29), some (.int k), some (.int mo), some (.int w), some (.int (nI v)), x5, x6] [] (WW s a q u c h m b n d z) 0 0 := by
  intro f
  induction f with
  | zero =>
    intro v d x5 x6 hfv hD hV
    have hv : v = 1000 := by omega
    subst hv
    simp only [yapl] at hV
    refine e_iload (pc := 37) dX7_apart_37 rfl ?_
    refine e_sipush (v := 1000) (pc := 39) dX7_apart_39 (by decide) ?_
    refine e_icmp_ge (pc := 42) dX7_apart_42 (t := 97) (by decide) (fun _ => ?_) (fun c_42 => absurd (by decide) c_42)
    refine e_iloadn (pc := 97) dX7_apart_97 rfl ?_
    refine e_if_ne (pc := 98) dX7_apart_98 (t := 105) (by decide) (fun c_98 => ?_) (fun c_98 => ?_)
    · skip
      refine e_iconst (v := 0) (pc := 105) dX7_apart_105 (by decide) ?_
      exact e_iret (pc := 106) dX7_apart_106 rfl (Nat.le_refl _) (Nat.le_refl _) ⟨by rw [← hV, if_neg c_98], n, d, hD, rfl⟩
    · skip
      refine e_iconst (v := -1) (pc := 101) dX7_apart_101 (by decide) ?_
      refine e_goto (pc := 102) dX7_apart_102 (t := 106) (by decide) ?_
      exact e_iret (pc := 106) dX7_apart_106 rfl (Nat.le_refl _) (Nat.le_refl _) ⟨by rw [← hV, if_pos c_98], n, d, hD, rfl⟩
  | succ f ih =>
    intro v d x5 x6 hfv hD hV
    simp only [yapl] at hV
    refine e_iload (pc := 37) dX7_apart_37 rfl ?_
    refine e_sipush (v := 1000) (pc := 39) dX7_apart_39 (by decide) ?_
    refine e_icmp_ge (pc := 42) dX7_apart_42 (t := 97) (by decide) (fun c_42 => absurd c_42 (nI_ge (a := v) (b := 1000) (by omega) (by decide))) (fun _ => ?_)
    refine e_aloadn (pc := 45) dX7_apart_45 rfl ?_
    refine e_iloadn (pc := 46) dX7_apart_46 rfl ?_
    refine e_iload (pc := 47) dX7_apart_47 rfl ?_
    refine e_iload (pc := 49) dX7_apart_49 rfl ?_
    refine e_iloadn (pc := 51) dX7_apart_51 rfl ?_
    refine e_iadd (pc := 52) dX7_apart_52 ?_
    refine e_cvX (pc := 53) (sp_y_addsOf hG hk hD) dX7_apart_53 kX7_202 rfl rfl rfl rfl rfl (mc_CR_of (Nat.le_of_ble_eq_true rfl) (Nat.le_of_ble_eq_true rfl) (Nat.le_refl _) (Nat.le_refl _)) (Nat.le_of_ble_eq_true rfl) (fun w1 hw1 => ?_)
    obtain ⟨d1, hD1, g3, rfl⟩ := hw1
    refine e_ldc2 (pc := 56) dX7_apart_56 qX7_206 ?_
    refine e_iload (pc := 59) dX7_apart_59 rfl ?_
    refine e_i2l (pc := 61) dX7_apart_61 ?_
    refine e_lmul (pc := 62) dX7_apart_62 ?_
    refine e_iloadn (pc := 63) dX7_apart_63 rfl ?_
    refine e_i2l (pc := 64) dX7_apart_64 ?_
    refine e_ladd (pc := 65) dX7_apart_65 ?_
    refine e_csD (pc := 66) (sp_y_far) dX7_apart_66 kX7_208 rfl rfl (mc_CR_of (Nat.le_of_ble_eq_true rfl) (Nat.le_of_ble_eq_true rfl) (Nat.le_refl _) (Nat.le_refl _)) (Nat.le_of_ble_eq_true rfl) ?_
    refine e_lsw5 (pc := 69) dX7_apart_69 (Nat.le_of_ble_eq_true rfl) rfl ?_
    refine e_lload (pc := 71) dX7_apart_71 rfl ?_
    refine e_lconst (v := 0) (pc := 73) dX7_apart_73 (by decide) ?_
    refine e_lcmp (pc := 74) dX7_apart_74 ?_
    refine e_if_eq (pc := 75) dX7_apart_75 (t := 91) (by decide) (fun c_75 => ?_) (fun c_75 => ?_)
    · skip
      refine e_incC4 (pc := 91) dX7_apart_91 (nI_1 v) (Nat.le_of_ble_eq_true rfl) rfl ?_
      refine e_goto (pc := 94) dX7_apart_94 (t := 37) (by decide) ?_
      exact ih (v + 1) d1 _ _ (by omega) hD1 (by rw [← hV, if_pos (c := yoff m b k mo (nI v) = 0) (mc_cmp_eq.mp c_75)])
    · skip
      refine e_iloadn (pc := 78) dX7_apart_78 rfl ?_
      refine e_if_ne (pc := 79) dX7_apart_79 (t := 87) (by decide) (fun c_79 => ?_) (fun c_79 => ?_)
      · skip
        refine e_lload (pc := 87) dX7_apart_87 rfl ?_
        refine e_l2i (pc := 89) dX7_apart_89 ?_
        exact e_iret (pc := 90) dX7_apart_90 rfl (Nat.le_refl _) (Nat.le_refl _) ⟨by rw [← hV, if_neg (c := yoff m b k mo (nI v) = 0) (fun q => c_75 (mc_cmp_eq.mpr q)), if_neg c_79] <;> rfl, n, d1, hD1, rfl⟩
      · skip
        refine e_iload (pc := 82) dX7_apart_82 rfl ?_
        refine e_goto (pc := 84) dX7_apart_84 (t := 90) (by decide) ?_
        exact e_iret (pc := 90) dX7_apart_90 rfl (Nat.le_refl _) (Nat.le_refl _) ⟨by rw [← hV, if_neg (c := yoff m b k mo (nI v) = 0) (fun q => c_75 (mc_cmp_eq.mpr q)), if_pos c_79] <;> rfl, n, d1, hD1, rfl⟩
theorem sp_y_apart {s u m n : Nat → Int32} {a c b d : Nat → List Int32} {q : List (Option Nat)} {h : Nat} {z : mc_W} {k mo w : Int32} (hG : yG m b) (hD : yD d) : mc_T yX7_apart cX7_apart 7 (some .int) 6 [.ref 29, .int k, .int mo, .int w] (WW s a q u c h m b n d z) (some (.int (yap m b k mo w))) (fun w' => ∃ n1 d1, yD d1 ∧ w' = WW s a q u c h m b n1 d1 z) := by
  refine mc_start (own := RX7) (ini := false) rfl (by decide +kernel) (fun h => by cases h) (Nat.le_of_ble_eq_true rfl) ?_
  show mc_E _ _ _ _ _ [some (.ref 29), some (.int k), some (.int mo), some (.int w), none, none, none] [] _ _ _
  refine e_aloadn (pc := 0) dX7_apart_0 rfl ?_
  refine e_iloadn (pc := 1) dX7_apart_1 rfl ?_
  refine e_cvD (pc := 2) (sp_y_isClerk) dX7_apart_2 kX7_159 rfl rfl rfl rfl rfl (mc_CR_of (Nat.le_of_ble_eq_true rfl) (Nat.le_of_ble_eq_true rfl) (Nat.le_refl _) (Nat.le_refl _)) (Nat.le_of_ble_eq_true rfl) ?_
  refine e_if_ne (pc := 5) dX7_apart_5 (t := 11) (by decide) (fun c_5 => ?_) (fun c_5 => ?_)
  · skip
    refine e_iloadn (pc := 11) dX7_apart_11 rfl ?_
    refine e_iconst (v := 0) (pc := 12) dX7_apart_12 (by decide) ?_
    refine e_sipush (v := 999) (pc := 13) dX7_apart_13 (by decide) ?_
    refine e_csD (pc := 16) (sp_y_in) dX7_apart_16 kX7_75 rfl rfl (mc_CR_of (Nat.le_of_ble_eq_true rfl) (Nat.le_of_ble_eq_true rfl) (Nat.le_refl _) (Nat.le_refl _)) (Nat.le_of_ble_eq_true rfl) ?_
    refine e_if_eq (pc := 19) dX7_apart_19 (t := 31) (by decide) (fun c_19 => ?_) (fun c_19 => ?_)
    · skip
      refine e_bipush (v := -7) (pc := 31) dX7_apart_31 (by decide) ?_
      exact e_iret (pc := 33) dX7_apart_33 rfl (Nat.le_refl _) (Nat.le_refl _) ⟨(by (try simp only [mc_cmp_le, mc_cmp_ge, mc_cmp_eq, mc_cmp_lt, mc_cmp_gt, mc_b0, mc_b1, Bool.not_eq_false, Bool.not_eq_true] at c_5 c_19); first | rfl | (simp [yap, c_5, c_19]; done) | ((try simp only [← Int32.not_lt, ← Int64.not_lt, Classical.not_not] at c_5 c_19); simp [yap, c_5, c_19])), n, d, hD, rfl⟩
    · skip
      refine e_iloadn (pc := 22) dX7_apart_22 rfl ?_
      refine e_iconst (v := 0) (pc := 23) dX7_apart_23 (by decide) ?_
      refine e_iconst (v := 1) (pc := 24) dX7_apart_24 (by decide) ?_
      refine e_csD (pc := 25) (sp_y_in) dX7_apart_25 kX7_75 rfl rfl (mc_CR_of (Nat.le_of_ble_eq_true rfl) (Nat.le_of_ble_eq_true rfl) (Nat.le_refl _) (Nat.le_refl _)) (Nat.le_of_ble_eq_true rfl) ?_
      refine e_if_ne (pc := 28) dX7_apart_28 (t := 34) (by decide) (fun c_28 => ?_) (fun c_28 => ?_)
      · skip
        refine e_iconst (v := 0) (pc := 34) dX7_apart_34 (by decide) ?_
        refine e_isw4 (pc := 35) dX7_apart_35 (Nat.le_of_ble_eq_true rfl) rfl ?_
        exact lp_y_apart hG (mc_b1.mp c_5) 1000 0 d none none rfl hD (by have q1 := mc_b1.mp c_5; have q2 := mc_b1.mp c_28; have q3 : mc_wi mo 0 999 = true := (by simpa [mc_b0] using c_19); simp [yap, q1, q2, q3])
      · skip
        refine e_bipush (v := -7) (pc := 31) dX7_apart_31 (by decide) ?_
        exact e_iret (pc := 33) dX7_apart_33 rfl (Nat.le_refl _) (Nat.le_refl _) ⟨(by (try simp only [mc_cmp_le, mc_cmp_ge, mc_cmp_eq, mc_cmp_lt, mc_cmp_gt, mc_b0, mc_b1, Bool.not_eq_false, Bool.not_eq_true] at c_5 c_19 c_28); first | rfl | (simp [yap, c_5, c_19, c_28]; done) | ((try simp only [← Int32.not_lt, ← Int64.not_lt, Classical.not_not] at c_5 c_19 c_28); simp [yap, c_5, c_19, c_28])), n, d, hD, rfl⟩
  · skip
    refine e_bipush (v := -5) (pc := 8) dX7_apart_8 (by decide) ?_
    exact e_iret (pc := 10) dX7_apart_10 rfl (Nat.le_refl _) (Nat.le_refl _) ⟨(by (try simp only [mc_cmp_le, mc_cmp_ge, mc_cmp_eq, mc_cmp_lt, mc_cmp_gt, mc_b0, mc_b1, Bool.not_eq_false, Bool.not_eq_true] at c_5); first | rfl | (simp [yap, c_5]; done) | ((try simp only [← Int32.not_lt, ← Int64.not_lt, Classical.not_not] at c_5); simp [yap, c_5])), n, d, hD, rfl⟩
