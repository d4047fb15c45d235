/-- row i of a row of numbers -/
def gt (l : List Int32) (i : Int32) : Int32 := l.getD i.toNatClampNeg 0
theorem vp_in_wi {k : Int32} {m2 : Int32} {n : Nat} (h : mc_wi k 0 (m2 - 1) = true) (h0 : 0 ≤ m2.toInt) (h1 : m2.toInt ≤ n) (hn : n < 2 ^ 31) : vp_in k n := by
  rw [vp_in_iff]
  rw [mc_wi_iff] at h
  have e : (m2 - 1).toInt = m2.toInt - 1 := by
    rw [Int32.toInt_sub]
    have := m2.toInt_lt
    have : (1 : Int32).toInt = 1 := rfl
    rw [this, Int.bmod_eq_of_le] <;> omega
  rw [e] at h
  have : (0 : Int32).toInt = 0 := rfl
  omega
theorem vp_in_w2 {k lo hi : Int32} {n : Nat} (h : mc_wi k lo hi = true) (h0 : 0 ≤ lo.toInt) (h1 : hi.toInt < n) : vp_in k n := by
  rw [vp_in_iff]
  rw [mc_wi_iff] at h
  omega
/-- how long the rows of the other side are -/
def yL (b : Nat → List Int32) : Prop := (b 0).length = 5 ∧ (b 1).length = 5 ∧ (b 2).length = 36 ∧ (b 3).length = 160 ∧ (b 4).length = 1200 ∧ (b 5).length = 24 ∧ (b 6).length = 36 ∧ (b 7).length = 4 ∧ (b 8).length = 4 ∧ (b 9).length = 160
/-- how many clerks there may be -/
def yC (m : Nat → Int32) : Prop := 0 ≤ (m 2).toInt ∧ (m 2).toInt ≤ 5
def yy_it (k : Int32) : Bool := k == 1 || k == 3
def yy_x2 (n : Int32) : Int32 := if n < 2 then 2 else n
def yy_fg (k mo ba : Int32) : Int32 := yy_x2 (if k = 3 then ba - mo / 3 else if k = 5 then ba - 1 else ba)
theorem sp_y_isTurned {s u m n : Nat → Int32} {a c b d : Nat → List Int32} {q : List (Option Nat)} {h : Nat} {z : mc_W} {k : Int32} (h0 : vp_in k (b 0).length)  : mc_D yX7_isTurned cX7_isTurned 2 (some .boolean) 1 [.ref 29, .int k] (WW s a q u c h m b n d z) (some (.int (mc_b (yy_it (gt (b 0) k))))) (WW s a q u c h m b n d z) := by
  refine mc_start (own := RX7) (ini := false) rfl (by decide +kernel) (fun h => by cases h) (Nat.le_of_ble_eq_true rfl) ?_
  show mc_E _ _ _ _ _ [some (.ref 29), some (.int k)] [] _ _ _
  refine e_aloadn (pc := 0) dX7_isTurned_0 rfl ?_
  refine e_get (pc := 1) dX7_isTurned_1 fX7_16 rfl rfl ?_
  refine e_iloadn (pc := 4) dX7_isTurned_4 rfl ?_
  refine ald_kind (pc := 5) dX7_isTurned_5 (by assumption) ?_
  refine e_iconst (v := 1) (pc := 6) dX7_isTurned_6 (by decide) ?_
  refine e_icmp_eq (pc := 7) dX7_isTurned_7 (t := 20) (by decide) (fun c_7 => ?_) (fun c_7 => ?_)
  · skip
    refine e_iconst (v := 1) (pc := 20) dX7_isTurned_20 (by decide) ?_
    refine e_goto (pc := 21) dX7_isTurned_21 (t := 25) (by decide) ?_
    exact e_zret (pc := 25) dX7_isTurned_25 rfl (by rfl) (Nat.le_refl _) (Nat.le_refl _) ⟨(by first | rfl | (simp [mc_b, yy_it, gt, *]; done) | ((try simp only [mc_cmp_le, mc_cmp_ge, mc_cmp_eq, mc_cmp_lt, mc_cmp_gt, mc_b0, mc_b1, Bool.not_eq_false, Bool.not_eq_true] at *); (try simp only [← Int32.not_lt, ← Int64.not_lt, Classical.not_not] at *); simp [mc_b, yy_it, gt, *]; done) | (simp_all [mc_b, yy_it, gt, mc_b0]; done) | (simp_all [mc_b, yy_it, gt, Int32.le_iff_toInt_le, Int32.lt_iff_toInt_lt] <;> omega)), rfl⟩
  · skip
    refine e_aloadn (pc := 10) dX7_isTurned_10 rfl ?_
    refine e_get (pc := 11) dX7_isTurned_11 fX7_16 rfl rfl ?_
    refine e_iloadn (pc := 14) dX7_isTurned_14 rfl ?_
    refine ald_kind (pc := 15) dX7_isTurned_15 (by assumption) ?_
    refine e_iconst (v := 3) (pc := 16) dX7_isTurned_16 (by decide) ?_
    refine e_icmp_ne (pc := 17) dX7_isTurned_17 (t := 24) (by decide) (fun c_17 => ?_) (fun c_17 => ?_)
    · skip
      refine e_iconst (v := 0) (pc := 24) dX7_isTurned_24 (by decide) ?_
      exact e_zret (pc := 25) dX7_isTurned_25 rfl (by rfl) (Nat.le_refl _) (Nat.le_refl _) ⟨(by first | rfl | (simp [mc_b, yy_it, gt, *]; done) | ((try simp only [mc_cmp_le, mc_cmp_ge, mc_cmp_eq, mc_cmp_lt, mc_cmp_gt, mc_b0, mc_b1, Bool.not_eq_false, Bool.not_eq_true] at *); (try simp only [← Int32.not_lt, ← Int64.not_lt, Classical.not_not] at *); simp [mc_b, yy_it, gt, *]; done) | (simp_all [mc_b, yy_it, gt, mc_b0]; done) | (simp_all [mc_b, yy_it, gt, Int32.le_iff_toInt_le, Int32.lt_iff_toInt_lt] <;> omega)), rfl⟩
    · skip
      refine e_iconst (v := 1) (pc := 20) dX7_isTurned_20 (by decide) ?_
      refine e_goto (pc := 21) dX7_isTurned_21 (t := 25) (by decide) ?_
      exact e_zret (pc := 25) dX7_isTurned_25 rfl (by rfl) (Nat.le_refl _) (Nat.le_refl _) ⟨(by first | rfl | (simp [mc_b, yy_it, gt, *]; done) | ((try simp only [mc_cmp_le, mc_cmp_ge, mc_cmp_eq, mc_cmp_lt, mc_cmp_gt, mc_b0, mc_b1, Bool.not_eq_false, Bool.not_eq_true] at *); (try simp only [← Int32.not_lt, ← Int64.not_lt, Classical.not_not] at *); simp [mc_b, yy_it, gt, *]; done) | (simp_all [mc_b, yy_it, gt, mc_b0]; done) | (simp_all [mc_b, yy_it, gt, Int32.le_iff_toInt_le, Int32.lt_iff_toInt_lt] <;> omega)), rfl⟩
theorem sp_y_figuresOf {s u m n : Nat → Int32} {a c b d : Nat → List Int32} {q : List (Option Nat)} {h : Nat} {z : mc_W} {k : Int32} (h0 : vp_in k (b 0).length) (h1 : vp_in k (b 1).length) : mc_D yX7_figuresOf cX7_figuresOf 3 (some .int) 1 [.ref 29, .int k] (WW s a q u c h m b n d z) (some (.int (yy_fg (gt (b 0) k) (gt (b 1) k) (m 0)))) (WW s a q u c h m b n d z) := by
  refine mc_start (own := RX7) (ini := false) rfl (by decide +kernel) (fun h => by cases h) (Nat.le_of_ble_eq_true rfl) ?_
  show mc_E _ _ _ _ _ [some (.ref 29), some (.int k), none] [] _ _ _
  refine e_aloadn (pc := 0) dX7_figuresOf_0 rfl ?_
  refine e_get (pc := 1) dX7_figuresOf_1 fX7_16 rfl rfl ?_
  refine e_iloadn (pc := 4) dX7_figuresOf_4 rfl ?_
  refine ald_kind (pc := 5) dX7_figuresOf_5 (by assumption) ?_
  refine e_iconst (v := 3) (pc := 6) dX7_figuresOf_6 (by decide) ?_
  refine e_icmp_ne (pc := 7) dX7_figuresOf_7 (t := 26) (by decide) (fun c_7 => ?_) (fun c_7 => ?_)
  · skip
    refine e_aloadn (pc := 26) dX7_figuresOf_26 rfl ?_
    refine e_get (pc := 27) dX7_figuresOf_27 fX7_16 rfl rfl ?_
    refine e_iloadn (pc := 30) dX7_figuresOf_30 rfl ?_
    refine ald_kind (pc := 31) dX7_figuresOf_31 (by assumption) ?_
    refine e_iconst (v := 5) (pc := 32) dX7_figuresOf_32 (by decide) ?_
    refine e_icmp_ne (pc := 33) dX7_figuresOf_33 (t := 45) (by decide) (fun c_33 => ?_) (fun c_33 => ?_)
    · skip
      refine e_aloadn (pc := 45) dX7_figuresOf_45 rfl ?_
      refine e_get (pc := 46) dX7_figuresOf_46 fX7_7 rfl rfl ?_
      refine e_isn2 (pc := 49) dX7_figuresOf_49 (Nat.le_of_ble_eq_true rfl) rfl ?_
      refine e_iloadn (pc := 50) dX7_figuresOf_50 rfl ?_
      refine e_iconst (v := 2) (pc := 51) dX7_figuresOf_51 (by decide) ?_
      refine e_icmp_ge (pc := 52) dX7_figuresOf_52 (t := 59) (by decide) (fun c_52 => ?_) (fun c_52 => ?_)
      · skip
        refine e_iloadn (pc := 59) dX7_figuresOf_59 rfl ?_
        exact e_iret (pc := 60) dX7_figuresOf_60 rfl (Nat.le_refl _) (Nat.le_refl _) ⟨(by first | rfl | (simp [yy_fg, yy_x2, gt, *]; done) | ((try simp only [mc_cmp_le, mc_cmp_ge, mc_cmp_eq, mc_cmp_lt, mc_cmp_gt, mc_b0, mc_b1, Bool.not_eq_false, Bool.not_eq_true] at *); (try simp only [← Int32.not_lt, ← Int64.not_lt, Classical.not_not] at *); simp [yy_fg, yy_x2, gt, *]; done) | (simp_all [yy_fg, yy_x2, gt, mc_b0]; done) | (simp_all [yy_fg, yy_x2, gt, Int32.le_iff_toInt_le, Int32.lt_iff_toInt_lt] <;> omega)), rfl⟩
      · skip
        refine e_iconst (v := 2) (pc := 55) dX7_figuresOf_55 (by decide) ?_
        refine e_goto (pc := 56) dX7_figuresOf_56 (t := 60) (by decide) ?_
        exact e_iret (pc := 60) dX7_figuresOf_60 rfl (Nat.le_refl _) (Nat.le_refl _) ⟨(by first | rfl | (simp [yy_fg, yy_x2, gt, *]; done) | ((try simp only [mc_cmp_le, mc_cmp_ge, mc_cmp_eq, mc_cmp_lt, mc_cmp_gt, mc_b0, mc_b1, Bool.not_eq_false, Bool.not_eq_true] at *); (try simp only [← Int32.not_lt, ← Int64.not_lt, Classical.not_not] at *); simp [yy_fg, yy_x2, gt, *]; done) | (simp_all [yy_fg, yy_x2, gt, mc_b0]; done) | (simp_all [yy_fg, yy_x2, gt, Int32.le_iff_toInt_le, Int32.lt_iff_toInt_lt] <;> omega)), rfl⟩
    · skip
      refine e_aloadn (pc := 36) dX7_figuresOf_36 rfl ?_
      refine e_get (pc := 37) dX7_figuresOf_37 fX7_7 rfl rfl ?_
      refine e_iconst (v := 1) (pc := 40) dX7_figuresOf_40 (by decide) ?_
      refine e_isub (pc := 41) dX7_figuresOf_41 ?_
      refine e_goto (pc := 42) dX7_figuresOf_42 (t := 49) (by decide) ?_
      refine e_isn2 (pc := 49) dX7_figuresOf_49 (Nat.le_of_ble_eq_true rfl) rfl ?_
      refine e_iloadn (pc := 50) dX7_figuresOf_50 rfl ?_
      refine e_iconst (v := 2) (pc := 51) dX7_figuresOf_51 (by decide) ?_
      refine e_icmp_ge (pc := 52) dX7_figuresOf_52 (t := 59) (by decide) (fun c_52 => ?_) (fun c_52 => ?_)
      · skip
        refine e_iloadn (pc := 59) dX7_figuresOf_59 rfl ?_
        exact e_iret (pc := 60) dX7_figuresOf_60 rfl (Nat.le_refl _) (Nat.le_refl _) ⟨(by first | rfl | (simp [yy_fg, yy_x2, gt, *]; done) | ((try simp only [mc_cmp_le, mc_cmp_ge, mc_cmp_eq, mc_cmp_lt, mc_cmp_gt, mc_b0, mc_b1, Bool.not_eq_false, Bool.not_eq_true] at *); (try simp only [← Int32.not_lt, ← Int64.not_lt, Classical.not_not] at *); simp [yy_fg, yy_x2, gt, *]; done) | (simp_all [yy_fg, yy_x2, gt, mc_b0]; done) | (simp_all [yy_fg, yy_x2, gt, Int32.le_iff_toInt_le, Int32.lt_iff_toInt_lt] <;> omega)), rfl⟩
      · skip
        refine e_iconst (v := 2) (pc := 55) dX7_figuresOf_55 (by decide) ?_
        refine e_goto (pc := 56) dX7_figuresOf_56 (t := 60) (by decide) ?_
        exact e_iret (pc := 60) dX7_figuresOf_60 rfl (Nat.le_refl _) (Nat.le_refl _) ⟨(by first | rfl | (simp [yy_fg, yy_x2, gt, *]; done) | ((try simp only [mc_cmp_le, mc_cmp_ge, mc_cmp_eq, mc_cmp_lt, mc_cmp_gt, mc_b0, mc_b1, Bool.not_eq_false, Bool.not_eq_true] at *); (try simp only [← Int32.not_lt, ← Int64.not_lt, Classical.not_not] at *); simp [yy_fg, yy_x2, gt, *]; done) | (simp_all [yy_fg, yy_x2, gt, mc_b0]; done) | (simp_all [yy_fg, yy_x2, gt, Int32.le_iff_toInt_le, Int32.lt_iff_toInt_lt] <;> omega)), rfl⟩
  · skip
    refine e_aloadn (pc := 10) dX7_figuresOf_10 rfl ?_
    refine e_get (pc := 11) dX7_figuresOf_11 fX7_7 rfl rfl ?_
    refine e_aloadn (pc := 14) dX7_figuresOf_14 rfl ?_
    refine e_get (pc := 15) dX7_figuresOf_15 fX7_20 rfl rfl ?_
    refine e_iloadn (pc := 18) dX7_figuresOf_18 rfl ?_
    refine ald_ymore (pc := 19) dX7_figuresOf_19 (by assumption) ?_
    refine e_iconst (v := 3) (pc := 20) dX7_figuresOf_20 (by decide) ?_
    refine e_idiv (pc := 21) dX7_figuresOf_21 (by decide) ?_
    refine e_isub (pc := 22) dX7_figuresOf_22 ?_
    refine e_goto (pc := 23) dX7_figuresOf_23 (t := 49) (by decide) ?_
    refine e_isn2 (pc := 49) dX7_figuresOf_49 (Nat.le_of_ble_eq_true rfl) rfl ?_
    refine e_iloadn (pc := 50) dX7_figuresOf_50 rfl ?_
    refine e_iconst (v := 2) (pc := 51) dX7_figuresOf_51 (by decide) ?_
    refine e_icmp_ge (pc := 52) dX7_figuresOf_52 (t := 59) (by decide) (fun c_52 => ?_) (fun c_52 => ?_)
    · skip
      refine e_iloadn (pc := 59) dX7_figuresOf_59 rfl ?_
      exact e_iret (pc := 60) dX7_figuresOf_60 rfl (Nat.le_refl _) (Nat.le_refl _) ⟨(by first | rfl | (simp [yy_fg, yy_x2, gt, *]; done) | ((try simp only [mc_cmp_le, mc_cmp_ge, mc_cmp_eq, mc_cmp_lt, mc_cmp_gt, mc_b0, mc_b1, Bool.not_eq_false, Bool.not_eq_true] at *); (try simp only [← Int32.not_lt, ← Int64.not_lt, Classical.not_not] at *); simp [yy_fg, yy_x2, gt, *]; done) | (simp_all [yy_fg, yy_x2, gt, mc_b0]; done) | (simp_all [yy_fg, yy_x2, gt, Int32.le_iff_toInt_le, Int32.lt_iff_toInt_lt] <;> omega)), rfl⟩
    · skip
      refine e_iconst (v := 2) (pc := 55) dX7_figuresOf_55 (by decide) ?_
      refine e_goto (pc := 56) dX7_figuresOf_56 (t := 60) (by decide) ?_
      exact e_iret (pc := 60) dX7_figuresOf_60 rfl (Nat.le_refl _) (Nat.le_refl _) ⟨(by first | rfl | (simp [yy_fg, yy_x2, gt, *]; done) | ((try simp only [mc_cmp_le, mc_cmp_ge, mc_cmp_eq, mc_cmp_lt, mc_cmp_gt, mc_b0, mc_b1, Bool.not_eq_false, Bool.not_eq_true] at *); (try simp only [← Int32.not_lt, ← Int64.not_lt, Classical.not_not] at *); simp [yy_fg, yy_x2, gt, *]; done) | (simp_all [yy_fg, yy_x2, gt, mc_b0]; done) | (simp_all [yy_fg, yy_x2, gt, Int32.le_iff_toInt_le, Int32.lt_iff_toInt_lt] <;> omega)), rfl⟩
def yy_td (m : Nat → Int32) (b : Nat → List Int32) (k w : Int32) : Int32 := if mc_wi k 0 (m 2 - 1) = false then -5 else if w = 0 then gt (b 0) k else if w = 1 then gt (b 1) k else if w = 2 then yy_fg (gt (b 0) k) (gt (b 1) k) (m 0) else if w = 3 then mc_b (yy_it (gt (b 0) k)) else -7
theorem sp_y_told {s u m n : Nat → Int32} {a c b d : Nat → List Int32} {q : List (Option Nat)} {h : Nat} {z : mc_W} {k w : Int32} (hL : yL b) (hC : yC m) : mc_D yX7_told cX7_told 3 (some .int) 3 [.ref 29, .int k, .int w] (WW s a q u c h m b n d z) (some (.int (yy_td m b k w))) (WW s a q u c h m b n d z) := by
  refine mc_start (own := RX7) (ini := false) rfl (by decide +kernel) (fun h => by cases h) (Nat.le_of_ble_eq_true rfl) ?_
  show mc_E _ _ _ _ _ [some (.ref 29), some (.int k), some (.int w)] [] _ _ _
  have h0 : mc_wi k 0 (m 2 - 1) = true → vp_in k (b 0).length := fun h => by rw [hL.1]; exact vp_in_wi h hC.1 hC.2 (by decide)
  have h1 : mc_wi k 0 (m 2 - 1) = true → vp_in k (b 1).length := fun h => by rw [hL.2.1]; exact vp_in_wi h hC.1 hC.2 (by decide)
  refine e_aloadn (pc := 0) dX7_told_0 rfl ?_
  refine e_iloadn (pc := 1) dX7_told_1 rfl ?_
  refine e_cvD (pc := 2) (sp_y_isClerk) dX7_told_2 kX7_159 rfl rfl rfl rfl rfl (mc_CR_of (Nat.le_of_ble_eq_true rfl) (Nat.le_of_ble_eq_true rfl) (Nat.le_refl _) (Nat.le_refl _)) (Nat.le_of_ble_eq_true rfl) ?_
  refine e_if_ne (pc := 5) dX7_told_5 (t := 11) (by decide) (fun c_5 => ?_) (fun c_5 => ?_)
  · skip
    refine e_iloadn (pc := 11) dX7_told_11 rfl ?_
    by_cases hs_12_0 : w = 0
    · rw [hs_12_0]
      refine e_tabIn (pc := 12) (t := 44) dX7_told_12 (by decide) (by decide) rfl (by decide) ?_
      refine e_aloadn (pc := 44) dX7_told_44 rfl ?_
      refine e_get (pc := 45) dX7_told_45 fX7_16 rfl rfl ?_
      refine e_iloadn (pc := 48) dX7_told_48 rfl ?_
      refine ald_kind (pc := 49) dX7_told_49 (h0 (mc_b1.mp c_5)) ?_
      exact e_iret (pc := 50) dX7_told_50 rfl (Nat.le_refl _) (Nat.le_refl _) ⟨(by first | rfl | (simp [yy_td, gt, mc_b, *]; done) | ((try simp only [mc_cmp_le, mc_cmp_ge, mc_cmp_eq, mc_cmp_lt, mc_cmp_gt, mc_b0, mc_b1, Bool.not_eq_false, Bool.not_eq_true] at *); (try simp only [← Int32.not_lt, ← Int64.not_lt, Classical.not_not] at *); simp [yy_td, gt, mc_b, *]; done) | (simp_all [yy_td, gt, mc_b, mc_b0]; done) | (simp_all [yy_td, gt, mc_b, Int32.le_iff_toInt_le, Int32.lt_iff_toInt_lt] <;> omega)), rfl⟩
    by_cases hs_12_1 : w = 1
    · rw [hs_12_1]
      refine e_tabIn (pc := 12) (t := 51) dX7_told_12 (by decide) (by decide) rfl (by decide) ?_
      refine e_aloadn (pc := 51) dX7_told_51 rfl ?_
      refine e_get (pc := 52) dX7_told_52 fX7_20 rfl rfl ?_
      refine e_iloadn (pc := 55) dX7_told_55 rfl ?_
      refine ald_ymore (pc := 56) dX7_told_56 (h1 (mc_b1.mp c_5)) ?_
      exact e_iret (pc := 57) dX7_told_57 rfl (Nat.le_refl _) (Nat.le_refl _) ⟨(by first | rfl | (simp [yy_td, gt, mc_b, *]; done) | ((try simp only [mc_cmp_le, mc_cmp_ge, mc_cmp_eq, mc_cmp_lt, mc_cmp_gt, mc_b0, mc_b1, Bool.not_eq_false, Bool.not_eq_true] at *); (try simp only [← Int32.not_lt, ← Int64.not_lt, Classical.not_not] at *); simp [yy_td, gt, mc_b, *]; done) | (simp_all [yy_td, gt, mc_b, mc_b0]; done) | (simp_all [yy_td, gt, mc_b, Int32.le_iff_toInt_le, Int32.lt_iff_toInt_lt] <;> omega)), rfl⟩
    by_cases hs_12_2 : w = 2
    · rw [hs_12_2]
      refine e_tabIn (pc := 12) (t := 58) dX7_told_12 (by decide) (by decide) rfl (by decide) ?_
      refine e_aloadn (pc := 58) dX7_told_58 rfl ?_
      refine e_iloadn (pc := 59) dX7_told_59 rfl ?_
      refine e_cvD (pc := 60) (sp_y_figuresOf (h0 (mc_b1.mp c_5)) (h1 (mc_b1.mp c_5))) dX7_told_60 kX7_169 rfl rfl rfl rfl rfl (mc_CR_of (Nat.le_of_ble_eq_true rfl) (Nat.le_of_ble_eq_true rfl) (Nat.le_refl _) (Nat.le_refl _)) (Nat.le_of_ble_eq_true rfl) ?_
      exact e_iret (pc := 63) dX7_told_63 rfl (Nat.le_refl _) (Nat.le_refl _) ⟨(by first | rfl | (simp [yy_td, gt, mc_b, *]; done) | ((try simp only [mc_cmp_le, mc_cmp_ge, mc_cmp_eq, mc_cmp_lt, mc_cmp_gt, mc_b0, mc_b1, Bool.not_eq_false, Bool.not_eq_true] at *); (try simp only [← Int32.not_lt, ← Int64.not_lt, Classical.not_not] at *); simp [yy_td, gt, mc_b, *]; done) | (simp_all [yy_td, gt, mc_b, mc_b0]; done) | (simp_all [yy_td, gt, mc_b, Int32.le_iff_toInt_le, Int32.lt_iff_toInt_lt] <;> omega)), rfl⟩
    by_cases hs_12_3 : w = 3
    · rw [hs_12_3]
      refine e_tabIn (pc := 12) (t := 64) dX7_told_12 (by decide) (by decide) rfl (by decide) ?_
      refine e_aloadn (pc := 64) dX7_told_64 rfl ?_
      refine e_iloadn (pc := 65) dX7_told_65 rfl ?_
      refine e_cvD (pc := 66) (sp_y_isTurned (h0 (mc_b1.mp c_5))) dX7_told_66 kX7_172 rfl rfl rfl rfl rfl (mc_CR_of (Nat.le_of_ble_eq_true rfl) (Nat.le_of_ble_eq_true rfl) (Nat.le_refl _) (Nat.le_refl _)) (Nat.le_of_ble_eq_true rfl) ?_
      refine e_if_eq (pc := 69) dX7_told_69 (t := 76) (by decide) (fun c_69 => ?_) (fun c_69 => ?_)
      · skip
        refine e_iconst (v := 0) (pc := 76) dX7_told_76 (by decide) ?_
        exact e_iret (pc := 77) dX7_told_77 rfl (Nat.le_refl _) (Nat.le_refl _) ⟨(by first | rfl | (simp [yy_td, gt, mc_b, *]; done) | ((try simp only [mc_cmp_le, mc_cmp_ge, mc_cmp_eq, mc_cmp_lt, mc_cmp_gt, mc_b0, mc_b1, Bool.not_eq_false, Bool.not_eq_true] at *); (try simp only [← Int32.not_lt, ← Int64.not_lt, Classical.not_not] at *); simp [yy_td, gt, mc_b, *]; done) | (simp_all [yy_td, gt, mc_b, mc_b0]; done) | (simp_all [yy_td, gt, mc_b, Int32.le_iff_toInt_le, Int32.lt_iff_toInt_lt] <;> omega)), rfl⟩
      · skip
        refine e_iconst (v := 1) (pc := 72) dX7_told_72 (by decide) ?_
        refine e_goto (pc := 73) dX7_told_73 (t := 77) (by decide) ?_
        exact e_iret (pc := 77) dX7_told_77 rfl (Nat.le_refl _) (Nat.le_refl _) ⟨(by first | rfl | (simp [yy_td, gt, mc_b, *]; done) | ((try simp only [mc_cmp_le, mc_cmp_ge, mc_cmp_eq, mc_cmp_lt, mc_cmp_gt, mc_b0, mc_b1, Bool.not_eq_false, Bool.not_eq_true] at *); (try simp only [← Int32.not_lt, ← Int64.not_lt, Classical.not_not] at *); simp [yy_td, gt, mc_b, *]; done) | (simp_all [yy_td, gt, mc_b, mc_b0]; done) | (simp_all [yy_td, gt, mc_b, Int32.le_iff_toInt_le, Int32.lt_iff_toInt_lt] <;> omega)), rfl⟩
    refine e_tabOut (pc := 12) (t := 78) dX7_told_12 (mc_tabout (by decide) (fun k h1 h2 => ?_)) (by decide) ?_
    · rcases (show k = 0 ∨ k = 1 ∨ k = 2 ∨ k = 3 by omega) with rfl | rfl | rfl | rfl <;> assumption
    refine e_bipush (v := -7) (pc := 78) dX7_told_78 (by decide) ?_
    exact e_iret (pc := 80) dX7_told_80 rfl (Nat.le_refl _) (Nat.le_refl _) ⟨(by first | rfl | (simp [yy_td, gt, mc_b, *]; done) | ((try simp only [mc_cmp_le, mc_cmp_ge, mc_cmp_eq, mc_cmp_lt, mc_cmp_gt, mc_b0, mc_b1, Bool.not_eq_false, Bool.not_eq_true] at *); (try simp only [← Int32.not_lt, ← Int64.not_lt, Classical.not_not] at *); simp [yy_td, gt, mc_b, *]; done) | (simp_all [yy_td, gt, mc_b, mc_b0]; done) | (simp_all [yy_td, gt, mc_b, Int32.le_iff_toInt_le, Int32.lt_iff_toInt_lt] <;> omega)), rfl⟩
  · skip
    refine e_bipush (v := -5) (pc := 8) dX7_told_8 (by decide) ?_
    exact e_iret (pc := 10) dX7_told_10 rfl (Nat.le_refl _) (Nat.le_refl _) ⟨(by first | rfl | (simp [yy_td, gt, mc_b, *]; done) | ((try simp only [mc_cmp_le, mc_cmp_ge, mc_cmp_eq, mc_cmp_lt, mc_cmp_gt, mc_b0, mc_b1, Bool.not_eq_false, Bool.not_eq_true] at *); (try simp only [← Int32.not_lt, ← Int64.not_lt, Classical.not_not] at *); simp [yy_td, gt, mc_b, *]; done) | (simp_all [yy_td, gt, mc_b, mc_b0]; done) | (simp_all [yy_td, gt, mc_b, Int32.le_iff_toInt_le, Int32.lt_iff_toInt_lt] <;> omega)), rfl⟩
def yy_fo1 (m : Nat → Int32) (t : Int32) : Int32 := if mc_wi t 0 (m 4 - 1) = true then m 5 else -2
def yy_fo2 (m : Nat → Int32) (t : Int32) : Nat → Int32 := if mc_wi t 0 (m 4 - 1) = true then mc_up m 5 t else m
theorem sp_y_force {s u m n : Nat → Int32} {a c b d : Nat → List Int32} {q : List (Option Nat)} {h : Nat} {z : mc_W} {t : Int32} : mc_D yX7_force cX7_force 3 (some .int) 2 [.ref 29, .int t] (WW s a q u c h m b n d z) (some (.int (yy_fo1 m t))) (WW s a q u c h (yy_fo2 m t) b n d z) := by
  refine mc_start (own := RX7) (ini := false) rfl (by decide +kernel) (fun h => by cases h) (Nat.le_of_ble_eq_true rfl) ?_
  show mc_E _ _ _ _ _ [some (.ref 29), some (.int t), none] [] _ _ _
  refine e_iloadn (pc := 0) dX7_force_0 rfl ?_
  refine e_iconst (v := 0) (pc := 1) dX7_force_1 (by decide) ?_
  refine e_aloadn (pc := 2) dX7_force_2 rfl ?_
  refine e_get (pc := 3) dX7_force_3 fX7_80 rfl rfl ?_
  refine e_iconst (v := 1) (pc := 6) dX7_force_6 (by decide) ?_
  refine e_isub (pc := 7) dX7_force_7 ?_
  refine e_csD (pc := 8) (sp_y_in) dX7_force_8 kX7_75 rfl rfl (mc_CR_of (Nat.le_of_ble_eq_true rfl) (Nat.le_of_ble_eq_true rfl) (Nat.le_refl _) (Nat.le_refl _)) (Nat.le_of_ble_eq_true rfl) ?_
  refine e_if_ne (pc := 11) dX7_force_11 (t := 17) (by decide) (fun c_11 => ?_) (fun c_11 => ?_)
  · skip
    refine e_aloadn (pc := 17) dX7_force_17 rfl ?_
    refine e_get (pc := 18) dX7_force_18 fX7_83 rfl rfl ?_
    refine e_isn2 (pc := 21) dX7_force_21 (Nat.le_of_ble_eq_true rfl) rfl ?_
    refine e_aloadn (pc := 22) dX7_force_22 rfl ?_
    refine e_iloadn (pc := 23) dX7_force_23 rfl ?_
    refine put_y_rule (pc := 24) dX7_force_24 pX7_83 ?_
    refine e_iloadn (pc := 27) dX7_force_27 rfl ?_
    exact e_iret (pc := 28) dX7_force_28 rfl (Nat.le_refl _) (Nat.le_refl _) ⟨(by first | rfl | (simp [yy_fo1, *]; done) | ((try simp only [mc_cmp_le, mc_cmp_ge, mc_cmp_eq, mc_cmp_lt, mc_cmp_gt, mc_b0, mc_b1, Bool.not_eq_false, Bool.not_eq_true] at *); (try simp only [← Int32.not_lt, ← Int64.not_lt, Classical.not_not] at *); simp [yy_fo1, *]; done) | (simp_all [yy_fo1, mc_b0]; done) | (simp_all [yy_fo1, Int32.le_iff_toInt_le, Int32.lt_iff_toInt_lt] <;> omega)), by simp_all [yy_fo2, mc_b0, mc_b1]⟩
  · skip
    refine e_bipush (v := -2) (pc := 14) dX7_force_14 (by decide) ?_
    exact e_iret (pc := 16) dX7_force_16 rfl (Nat.le_refl _) (Nat.le_refl _) ⟨(by first | rfl | (simp [yy_fo1, *]; done) | ((try simp only [mc_cmp_le, mc_cmp_ge, mc_cmp_eq, mc_cmp_lt, mc_cmp_gt, mc_b0, mc_b1, Bool.not_eq_false, Bool.not_eq_true] at *); (try simp only [← Int32.not_lt, ← Int64.not_lt, Classical.not_not] at *); simp [yy_fo1, *]; done) | (simp_all [yy_fo1, mc_b0]; done) | (simp_all [yy_fo1, Int32.le_iff_toInt_le, Int32.lt_iff_toInt_lt] <;> omega)), by simp_all [yy_fo2, mc_b0, mc_b1]⟩
def yy_ck (m : Nat → Int32) (k mo : Int32) : Bool := mc_wi k 0 5 && mc_wi mo 0 9
def yy_ck1 (m : Nat → Int32) (k mo : Int32) : Int32 := if yy_ck m k mo = false then -2 else if m 2 = 5 then -4 else m 2 + 1 - 1
def yy_ckm (m : Nat → Int32) (k mo : Int32) : Nat → Int32 := if yy_ck m k mo = true ∧ ¬ m 2 = 5 then mc_up m 2 (m 2 + 1) else m
def yy_ckb (m : Nat → Int32) (b : Nat → List Int32) (k mo : Int32) : Nat → List Int32 := if yy_ck m k mo = true ∧ ¬ m 2 = 5 then mc_up (mc_up b 0 ((b 0).set (m 2).toNatClampNeg k)) 1 ((b 1).set (m 2).toNatClampNeg mo) else b
theorem sp_y_clerk {s u m n : Nat → Int32} {a c b d : Nat → List Int32} {q : List (Option Nat)} {h : Nat} {z : mc_W} {k mo : Int32} (hL : yL b) (hC : yC m) : mc_D yX7_clerk cX7_clerk 3 (some .int) 2 [.ref 29, .int k, .int mo] (WW s a q u c h m b n d z) (some (.int (yy_ck1 m k mo))) (WW s a q u c h (yy_ckm m k mo) (yy_ckb m b k mo) n d z) := by
  refine mc_start (own := RX7) (ini := false) rfl (by decide +kernel) (fun h => by cases h) (Nat.le_of_ble_eq_true rfl) ?_
  show mc_E _ _ _ _ _ [some (.ref 29), some (.int k), some (.int mo)] [] _ _ _
  have hv : ¬ m 2 = 5 → ∀ l : List Int32, l.length = 5 → vp_in (m 2) l.length := by
    intro h l hl
    rw [vp_in_iff, hl]
    have : ¬ (m 2).toInt = 5 := fun q => h (Int32.toInt_inj.mp q)
    have := hC.1
    have := hC.2
    omega
  refine e_iloadn (pc := 0) dX7_clerk_0 rfl ?_
  refine e_iconst (v := 0) (pc := 1) dX7_clerk_1 (by decide) ?_
  refine e_iconst (v := 5) (pc := 2) dX7_clerk_2 (by decide) ?_
  refine e_csD (pc := 3) (sp_y_in) dX7_clerk_3 kX7_75 rfl rfl (mc_CR_of (Nat.le_of_ble_eq_true rfl) (Nat.le_of_ble_eq_true rfl) (Nat.le_refl _) (Nat.le_refl _)) (Nat.le_of_ble_eq_true rfl) ?_
  refine e_if_eq (pc := 6) dX7_clerk_6 (t := 19) (by decide) (fun c_6 => ?_) (fun c_6 => ?_)
  · skip
    refine e_bipush (v := -2) (pc := 19) dX7_clerk_19 (by decide) ?_
    exact e_iret (pc := 21) dX7_clerk_21 rfl (Nat.le_refl _) (Nat.le_refl _) ⟨(by first | rfl | (simp [yy_ck1, yy_ck, mc_up, *]; done) | ((try simp only [mc_cmp_le, mc_cmp_ge, mc_cmp_eq, mc_cmp_lt, mc_cmp_gt, mc_b0, mc_b1, Bool.not_eq_false, Bool.not_eq_true] at *); (try simp only [← Int32.not_lt, ← Int64.not_lt, Classical.not_not] at *); simp [yy_ck1, yy_ck, mc_up, *]; done) | (simp_all [yy_ck1, yy_ck, mc_up, mc_b0]; done) | (simp_all [yy_ck1, yy_ck, mc_up, Int32.le_iff_toInt_le, Int32.lt_iff_toInt_lt] <;> omega)), by simp_all [yy_ckm, yy_ckb, yy_ck, mc_up, mc_b0, mc_b1]⟩
  · skip
    refine e_iloadn (pc := 9) dX7_clerk_9 rfl ?_
    refine e_iconst (v := 0) (pc := 10) dX7_clerk_10 (by decide) ?_
    refine e_bipush (v := 9) (pc := 11) dX7_clerk_11 (by decide) ?_
    refine e_csD (pc := 13) (sp_y_in) dX7_clerk_13 kX7_75 rfl rfl (mc_CR_of (Nat.le_of_ble_eq_true rfl) (Nat.le_of_ble_eq_true rfl) (Nat.le_refl _) (Nat.le_refl _)) (Nat.le_of_ble_eq_true rfl) ?_
    refine e_if_ne (pc := 16) dX7_clerk_16 (t := 22) (by decide) (fun c_16 => ?_) (fun c_16 => ?_)
    · skip
      refine e_aloadn (pc := 22) dX7_clerk_22 rfl ?_
      refine e_get (pc := 23) dX7_clerk_23 fX7_72 rfl rfl ?_
      refine e_iconst (v := 5) (pc := 26) dX7_clerk_26 (by decide) ?_
      refine e_icmp_ne (pc := 27) dX7_clerk_27 (t := 33) (by decide) (fun c_27 => ?_) (fun c_27 => ?_)
      · skip
        refine e_aloadn (pc := 33) dX7_clerk_33 rfl ?_
        refine e_get (pc := 34) dX7_clerk_34 fX7_16 rfl rfl ?_
        refine e_aloadn (pc := 37) dX7_clerk_37 rfl ?_
        refine e_get (pc := 38) dX7_clerk_38 fX7_72 rfl rfl ?_
        refine e_iloadn (pc := 41) dX7_clerk_41 rfl ?_
        refine ast_kind (pc := 42) dX7_clerk_42 (hv c_27 _ hL.1) ?_
        refine e_aloadn (pc := 43) dX7_clerk_43 rfl ?_
        refine e_get (pc := 44) dX7_clerk_44 fX7_20 rfl rfl ?_
        refine e_aloadn (pc := 47) dX7_clerk_47 rfl ?_
        refine e_get (pc := 48) dX7_clerk_48 fX7_72 rfl rfl ?_
        refine e_iloadn (pc := 51) dX7_clerk_51 rfl ?_
        refine ast_ymore (pc := 52) dX7_clerk_52 (hv c_27 _ hL.2.1) ?_
        refine e_aloadn (pc := 53) dX7_clerk_53 rfl ?_
        refine e_dup (pc := 54) dX7_clerk_54 rfl ?_
        refine e_get (pc := 55) dX7_clerk_55 fX7_72 rfl rfl ?_
        refine e_iconst (v := 1) (pc := 58) dX7_clerk_58 (by decide) ?_
        refine e_iadd (pc := 59) dX7_clerk_59 ?_
        refine put_y_clerks (pc := 60) dX7_clerk_60 pX7_72 ?_
        refine e_aloadn (pc := 63) dX7_clerk_63 rfl ?_
        refine e_get (pc := 64) dX7_clerk_64 fX7_72 rfl rfl ?_
        refine e_iconst (v := 1) (pc := 67) dX7_clerk_67 (by decide) ?_
        refine e_isub (pc := 68) dX7_clerk_68 ?_
        exact e_iret (pc := 69) dX7_clerk_69 rfl (Nat.le_refl _) (Nat.le_refl _) ⟨(by first | rfl | (simp [yy_ck1, yy_ck, mc_up, *]; done) | ((try simp only [mc_cmp_le, mc_cmp_ge, mc_cmp_eq, mc_cmp_lt, mc_cmp_gt, mc_b0, mc_b1, Bool.not_eq_false, Bool.not_eq_true] at *); (try simp only [← Int32.not_lt, ← Int64.not_lt, Classical.not_not] at *); simp [yy_ck1, yy_ck, mc_up, *]; done) | (simp_all [yy_ck1, yy_ck, mc_up, mc_b0]; done) | (simp_all [yy_ck1, yy_ck, mc_up, Int32.le_iff_toInt_le, Int32.lt_iff_toInt_lt] <;> omega)), by simp_all [yy_ckm, yy_ckb, yy_ck, mc_up, mc_b0, mc_b1]⟩
      · skip
        refine e_bipush (v := -4) (pc := 30) dX7_clerk_30 (by decide) ?_
        exact e_iret (pc := 32) dX7_clerk_32 rfl (Nat.le_refl _) (Nat.le_refl _) ⟨(by first | rfl | (simp [yy_ck1, yy_ck, mc_up, *]; done) | ((try simp only [mc_cmp_le, mc_cmp_ge, mc_cmp_eq, mc_cmp_lt, mc_cmp_gt, mc_b0, mc_b1, Bool.not_eq_false, Bool.not_eq_true] at *); (try simp only [← Int32.not_lt, ← Int64.not_lt, Classical.not_not] at *); simp [yy_ck1, yy_ck, mc_up, *]; done) | (simp_all [yy_ck1, yy_ck, mc_up, mc_b0]; done) | (simp_all [yy_ck1, yy_ck, mc_up, Int32.le_iff_toInt_le, Int32.lt_iff_toInt_lt] <;> omega)), by simp_all [yy_ckm, yy_ckb, yy_ck, mc_up, mc_b0, mc_b1]⟩
    · skip
      refine e_bipush (v := -2) (pc := 19) dX7_clerk_19 (by decide) ?_
      exact e_iret (pc := 21) dX7_clerk_21 rfl (Nat.le_refl _) (Nat.le_refl _) ⟨(by first | rfl | (simp [yy_ck1, yy_ck, mc_up, *]; done) | ((try simp only [mc_cmp_le, mc_cmp_ge, mc_cmp_eq, mc_cmp_lt, mc_cmp_gt, mc_b0, mc_b1, Bool.not_eq_false, Bool.not_eq_true] at *); (try simp only [← Int32.not_lt, ← Int64.not_lt, Classical.not_not] at *); simp [yy_ck1, yy_ck, mc_up, *]; done) | (simp_all [yy_ck1, yy_ck, mc_up, mc_b0]; done) | (simp_all [yy_ck1, yy_ck, mc_up, Int32.le_iff_toInt_le, Int32.lt_iff_toInt_lt] <;> omega)), by simp_all [yy_ckm, yy_ckb, yy_ck, mc_up, mc_b0, mc_b1]⟩
def yy_ow (b : Nat → List Int32) (f g : Int32) : Int32 := gt (b 2) (6 * f + g)
theorem vp_in_ow {f g : Int32} (h : yy_fo f g = true) : vp_in (6 * f + g) 36 := by
  simp only [yy_fo, Bool.and_eq_true, mc_wi_iff] at h
  rw [vp_in_iff, Int32.toInt_add, Int32.toInt_mul]
  have e0 : (0 : Int32).toInt = 0 := rfl
  have e5 : (5 : Int32).toInt = 5 := rfl
  have e6 : (6 : Int32).toInt = 6 := rfl
  rw [e0, e5] at h
  rw [e6]
  have e1 : (6 * f.toInt).bmod (2 ^ 32) = 6 * f.toInt := Int.bmod_eq_of_le (by omega) (by omega)
  rw [e1, Int.bmod_eq_of_le (by omega) (by omega)]
  omega
def yy_len (b : Nat → List Int32) (f g mu : Int32) : Int32 := if yy_fo f g = false then -5 else if mc_wi mu 0 9999 = false then -7 else yy_ow b f g
def yy_lenb (b : Nat → List Int32) (f g mu : Int32) : Nat → List Int32 := if yy_fo f g = true ∧ mc_wi mu 0 9999 = true then mc_up b 2 ((b 2).set (6 * f + g).toNatClampNeg mu) else b
theorem sp_y_lend {s u m n : Nat → Int32} {a c b d : Nat → List Int32} {q : List (Option Nat)} {h : Nat} {z : mc_W} {f g mu : Int32} (hL : yL b) : mc_D yX7_lend cX7_lend 5 (some .int) 3 [.ref 29, .int f, .int g, .int mu] (WW s a q u c h m b n d z) (some (.int (yy_len b f g mu))) (WW s a q u c h m (yy_lenb b f g mu) n d z) := by
  refine mc_start (own := RX7) (ini := false) rfl (by decide +kernel) (fun h => by cases h) (Nat.le_of_ble_eq_true rfl) ?_
  show mc_E _ _ _ _ _ [some (.ref 29), some (.int f), some (.int g), some (.int mu), none] [] _ _ _
  refine e_iloadn (pc := 0) dX7_lend_0 rfl ?_
  refine e_iloadn (pc := 1) dX7_lend_1 rfl ?_
  refine e_csD (pc := 2) (sp_y_areFolk) dX7_lend_2 kX7_240 rfl rfl (mc_CR_of (Nat.le_of_ble_eq_true rfl) (Nat.le_of_ble_eq_true rfl) (Nat.le_refl _) (Nat.le_refl _)) (Nat.le_of_ble_eq_true rfl) ?_
  refine e_if_ne (pc := 5) dX7_lend_5 (t := 11) (by decide) (fun c_5 => ?_) (fun c_5 => ?_)
  · skip
    refine e_iloadn (pc := 11) dX7_lend_11 rfl ?_
    refine e_iconst (v := 0) (pc := 12) dX7_lend_12 (by decide) ?_
    refine e_sipush (v := 9999) (pc := 13) dX7_lend_13 (by decide) ?_
    refine e_csD (pc := 16) (sp_y_in) dX7_lend_16 kX7_75 rfl rfl (mc_CR_of (Nat.le_of_ble_eq_true rfl) (Nat.le_of_ble_eq_true rfl) (Nat.le_refl _) (Nat.le_refl _)) (Nat.le_of_ble_eq_true rfl) ?_
    refine e_if_ne (pc := 19) dX7_lend_19 (t := 25) (by decide) (fun c_19 => ?_) (fun c_19 => ?_)
    · skip
      refine e_aloadn (pc := 25) dX7_lend_25 rfl ?_
      refine e_get (pc := 26) dX7_lend_26 fX7_23 rfl rfl ?_
      refine e_bipush (v := 6) (pc := 29) dX7_lend_29 (by decide) ?_
      refine e_iloadn (pc := 31) dX7_lend_31 rfl ?_
      refine e_imul (pc := 32) dX7_lend_32 ?_
      refine e_iloadn (pc := 33) dX7_lend_33 rfl ?_
      refine e_iadd (pc := 34) dX7_lend_34 ?_
      refine ald_owes (pc := 35) dX7_lend_35 (by rw [hL.2.2.1]; exact vp_in_ow (mc_b1.mp c_5)) ?_
      refine e_isw4 (pc := 36) dX7_lend_36 (Nat.le_of_ble_eq_true rfl) rfl ?_
      refine e_aloadn (pc := 38) dX7_lend_38 rfl ?_
      refine e_get (pc := 39) dX7_lend_39 fX7_23 rfl rfl ?_
      refine e_bipush (v := 6) (pc := 42) dX7_lend_42 (by decide) ?_
      refine e_iloadn (pc := 44) dX7_lend_44 rfl ?_
      refine e_imul (pc := 45) dX7_lend_45 ?_
      refine e_iloadn (pc := 46) dX7_lend_46 rfl ?_
      refine e_iadd (pc := 47) dX7_lend_47 ?_
      refine e_iloadn (pc := 48) dX7_lend_48 rfl ?_
      refine ast_owes (pc := 49) dX7_lend_49 (by rw [hL.2.2.1]; exact vp_in_ow (mc_b1.mp c_5)) ?_
      refine e_iload (pc := 50) dX7_lend_50 rfl ?_
      exact e_iret (pc := 52) dX7_lend_52 rfl (Nat.le_refl _) (Nat.le_refl _) ⟨(by first | rfl | (simp [yy_len, yy_ow, gt, *]; done) | ((try simp only [mc_cmp_le, mc_cmp_ge, mc_cmp_eq, mc_cmp_lt, mc_cmp_gt, mc_b0, mc_b1, Bool.not_eq_false, Bool.not_eq_true] at *); (try simp only [← Int32.not_lt, ← Int64.not_lt, Classical.not_not] at *); simp [yy_len, yy_ow, gt, *]; done) | (simp_all [yy_len, yy_ow, gt, mc_b0]; done) | (simp_all [yy_len, yy_ow, gt, Int32.le_iff_toInt_le, Int32.lt_iff_toInt_lt] <;> omega)), by simp_all [yy_lenb, mc_b0, mc_b1]⟩
    · skip
      refine e_bipush (v := -7) (pc := 22) dX7_lend_22 (by decide) ?_
      exact e_iret (pc := 24) dX7_lend_24 rfl (Nat.le_refl _) (Nat.le_refl _) ⟨(by first | rfl | (simp [yy_len, yy_ow, gt, *]; done) | ((try simp only [mc_cmp_le, mc_cmp_ge, mc_cmp_eq, mc_cmp_lt, mc_cmp_gt, mc_b0, mc_b1, Bool.not_eq_false, Bool.not_eq_true] at *); (try simp only [← Int32.not_lt, ← Int64.not_lt, Classical.not_not] at *); simp [yy_len, yy_ow, gt, *]; done) | (simp_all [yy_len, yy_ow, gt, mc_b0]; done) | (simp_all [yy_len, yy_ow, gt, Int32.le_iff_toInt_le, Int32.lt_iff_toInt_lt] <;> omega)), by simp_all [yy_lenb, mc_b0, mc_b1]⟩
  · skip
    refine e_bipush (v := -5) (pc := 8) dX7_lend_8 (by decide) ?_
    exact e_iret (pc := 10) dX7_lend_10 rfl (Nat.le_refl _) (Nat.le_refl _) ⟨(by first | rfl | (simp [yy_len, yy_ow, gt, *]; done) | ((try simp only [mc_cmp_le, mc_cmp_ge, mc_cmp_eq, mc_cmp_lt, mc_cmp_gt, mc_b0, mc_b1, Bool.not_eq_false, Bool.not_eq_true] at *); (try simp only [← Int32.not_lt, ← Int64.not_lt, Classical.not_not] at *); simp [yy_len, yy_ow, gt, *]; done) | (simp_all [yy_len, yy_ow, gt, mc_b0]; done) | (simp_all [yy_len, yy_ow, gt, Int32.le_iff_toInt_le, Int32.lt_iff_toInt_lt] <;> omega)), by simp_all [yy_lenb, mc_b0, mc_b1]⟩
theorem sp_y_debt {s u m n : Nat → Int32} {a c b d : Nat → List Int32} {q : List (Option Nat)} {h : Nat} {z : mc_W} {f g : Int32} (hL : yL b) : mc_D yX7_debt cX7_debt 3 (some .int) 3 [.ref 29, .int f, .int g] (WW s a q u c h m b n d z) (some (.int (if yy_fo f g = true then yy_ow b f g else -5))) (WW s a q u c h m b n d z) := by
  refine mc_start (own := RX7) (ini := false) rfl (by decide +kernel) (fun h => by cases h) (Nat.le_of_ble_eq_true rfl) ?_
  show mc_E _ _ _ _ _ [some (.ref 29), some (.int f), some (.int g)] [] _ _ _
  refine e_iloadn (pc := 0) dX7_debt_0 rfl ?_
  refine e_iloadn (pc := 1) dX7_debt_1 rfl ?_
  refine e_csD (pc := 2) (sp_y_areFolk) dX7_debt_2 kX7_240 rfl rfl (mc_CR_of (Nat.le_of_ble_eq_true rfl) (Nat.le_of_ble_eq_true rfl) (Nat.le_refl _) (Nat.le_refl _)) (Nat.le_of_ble_eq_true rfl) ?_
  refine e_if_eq (pc := 5) dX7_debt_5 (t := 22) (by decide) (fun c_5 => ?_) (fun c_5 => ?_)
  · skip
    refine e_bipush (v := -5) (pc := 22) dX7_debt_22 (by decide) ?_
    exact e_iret (pc := 24) dX7_debt_24 rfl (Nat.le_refl _) (Nat.le_refl _) ⟨(by first | rfl | (simp [yy_ow, gt, *]; done) | ((try simp only [mc_cmp_le, mc_cmp_ge, mc_cmp_eq, mc_cmp_lt, mc_cmp_gt, mc_b0, mc_b1, Bool.not_eq_false, Bool.not_eq_true] at *); (try simp only [← Int32.not_lt, ← Int64.not_lt, Classical.not_not] at *); simp [yy_ow, gt, *]; done) | (simp_all [yy_ow, gt, mc_b0]; done) | (simp_all [yy_ow, gt, Int32.le_iff_toInt_le, Int32.lt_iff_toInt_lt] <;> omega)), rfl⟩
  · skip
    refine e_aloadn (pc := 8) dX7_debt_8 rfl ?_
    refine e_get (pc := 9) dX7_debt_9 fX7_23 rfl rfl ?_
    refine e_bipush (v := 6) (pc := 12) dX7_debt_12 (by decide) ?_
    refine e_iloadn (pc := 14) dX7_debt_14 rfl ?_
    refine e_imul (pc := 15) dX7_debt_15 ?_
    refine e_iloadn (pc := 16) dX7_debt_16 rfl ?_
    refine e_iadd (pc := 17) dX7_debt_17 ?_
    refine ald_owes (pc := 18) dX7_debt_18 (by rw [hL.2.2.1]; exact vp_in_ow (mc_b1.mp c_5)) ?_
    refine e_goto (pc := 19) dX7_debt_19 (t := 24) (by decide) ?_
    exact e_iret (pc := 24) dX7_debt_24 rfl (Nat.le_refl _) (Nat.le_refl _) ⟨(by first | rfl | (simp [yy_ow, gt, *]; done) | ((try simp only [mc_cmp_le, mc_cmp_ge, mc_cmp_eq, mc_cmp_lt, mc_cmp_gt, mc_b0, mc_b1, Bool.not_eq_false, Bool.not_eq_true] at *); (try simp only [← Int32.not_lt, ← Int64.not_lt, Classical.not_not] at *); simp [yy_ow, gt, *]; done) | (simp_all [yy_ow, gt, mc_b0]; done) | (simp_all [yy_ow, gt, Int32.le_iff_toInt_le, Int32.lt_iff_toInt_lt] <;> omega)), rfl⟩
def yy_set1 (m : Nat → Int32) (w v : Int32) : Int32 := if mc_wi w 0 1 = false then -5 else if w = 0 then (if mc_wi v 2 12 = true then m 0 else -7) else if yy_yr v = true then m 1 else -7
def yy_setm (m : Nat → Int32) (w v : Int32) : Nat → Int32 := if mc_wi w 0 1 = false then m else if w = 0 then (if mc_wi v 2 12 = true then mc_up m 0 v else m) else if yy_yr v = true then mc_up m 1 v else m
theorem wi01 {w : Int32} (h : mc_wi w 0 1 = true) (h0 : ¬ w = 0) : w = 1 := by
  rw [mc_wi_iff] at h
  have e0 : (0 : Int32).toInt = 0 := rfl
  have e1 : (1 : Int32).toInt = 1 := rfl
  rw [e0, e1] at h
  have : ¬ w.toInt = 0 := fun q => h0 (Int32.toInt_inj.mp q)
  exact Int32.toInt_inj.mp (by rw [e1]; omega)
theorem sp_y_set {s u m n : Nat → Int32} {a c b d : Nat → List Int32} {q : List (Option Nat)} {h : Nat} {z : mc_W} {w v : Int32} : mc_D yX7_set cX7_set 4 (some .int) 3 [.ref 29, .int w, .int v] (WW s a q u c h m b n d z) (some (.int (yy_set1 m w v))) (WW s a q u c h (yy_setm m w v) b n d z) := by
  refine mc_start (own := RX7) (ini := false) rfl (by decide +kernel) (fun h => by cases h) (Nat.le_of_ble_eq_true rfl) ?_
  show mc_E _ _ _ _ _ [some (.ref 29), some (.int w), some (.int v), none] [] _ _ _
  have w1 : mc_wi w 0 1 = true → ¬ w = 0 → w = 1 := wi01
  refine e_iloadn (pc := 0) dX7_set_0 rfl ?_
  refine e_iconst (v := 0) (pc := 1) dX7_set_1 (by decide) ?_
  refine e_iconst (v := 1) (pc := 2) dX7_set_2 (by decide) ?_
  refine e_csD (pc := 3) (sp_y_in) dX7_set_3 kX7_75 rfl rfl (mc_CR_of (Nat.le_of_ble_eq_true rfl) (Nat.le_of_ble_eq_true rfl) (Nat.le_refl _) (Nat.le_refl _)) (Nat.le_of_ble_eq_true rfl) ?_
  refine e_if_ne (pc := 6) dX7_set_6 (t := 12) (by decide) (fun c_6 => ?_) (fun c_6 => ?_)
  · skip
    refine e_iloadn (pc := 12) dX7_set_12 rfl ?_
    refine e_if_ne (pc := 13) dX7_set_13 (t := 29) (by decide) (fun c_13 => ?_) (fun c_13 => ?_)
    · skip
      refine e_iloadn (pc := 29) dX7_set_29 rfl ?_
      refine e_csD (pc := 30) (sp_y_isYear) dX7_set_30 kX7_86 rfl rfl (mc_CR_of (Nat.le_of_ble_eq_true rfl) (Nat.le_of_ble_eq_true rfl) (Nat.le_refl _) (Nat.le_refl _)) (Nat.le_of_ble_eq_true rfl) ?_
      refine e_if_ne (pc := 33) dX7_set_33 (t := 39) (by decide) (fun c_33 => ?_) (fun c_33 => ?_)
      · skip
        refine e_iloadn (pc := 39) dX7_set_39 rfl ?_
        refine e_if_ne (pc := 40) dX7_set_40 (t := 50) (by decide) (fun c_40 => ?_) (fun c_40 => ?_)
        · skip
          refine e_aloadn (pc := 50) dX7_set_50 rfl ?_
          refine e_get (pc := 51) dX7_set_51 fX7_13 rfl rfl ?_
          refine e_isn3 (pc := 54) dX7_set_54 (Nat.le_of_ble_eq_true rfl) rfl ?_
          refine e_aloadn (pc := 55) dX7_set_55 rfl ?_
          refine e_iloadn (pc := 56) dX7_set_56 rfl ?_
          refine e_if_ne (pc := 57) dX7_set_57 (t := 64) (by decide) (fun c_57 => ?_) (fun c_57 => ?_)
          · skip
            refine e_aloadn (pc := 64) dX7_set_64 rfl ?_
            refine e_get (pc := 65) dX7_set_65 fX7_7 rfl rfl ?_
            refine put_y_base0 (pc := 68) dX7_set_68 pX7_7 ?_
            refine e_aloadn (pc := 71) dX7_set_71 rfl ?_
            refine e_iloadn (pc := 72) dX7_set_72 rfl ?_
            refine e_iconst (v := 1) (pc := 73) dX7_set_73 (by decide) ?_
            refine e_icmp_ne (pc := 74) dX7_set_74 (t := 81) (by decide) (fun c_74 => ?_) (fun c_74 => ?_)
            · skip
              refine e_aloadn (pc := 81) dX7_set_81 rfl ?_
              refine e_get (pc := 82) dX7_set_82 fX7_13 rfl rfl ?_
              refine put_y_year0 (pc := 85) dX7_set_85 pX7_13 ?_
              refine e_iloadn (pc := 88) dX7_set_88 rfl ?_
              exact e_iret (pc := 89) dX7_set_89 rfl (Nat.le_refl _) (Nat.le_refl _) ⟨(by first | rfl | (simp [yy_set1, *]; done) | ((try simp only [mc_cmp_le, mc_cmp_ge, mc_cmp_eq, mc_cmp_lt, mc_cmp_gt, mc_b0, mc_b1, Bool.not_eq_false, Bool.not_eq_true] at *); (try simp only [← Int32.not_lt, ← Int64.not_lt, Classical.not_not] at *); simp [yy_set1, *]; done) | (simp_all [yy_set1, mc_b0]; done) | (simp_all [yy_set1, Int32.le_iff_toInt_le, Int32.lt_iff_toInt_lt] <;> omega)), by simp_all [yy_setm, mc_b0, mc_b1, mc_up_self]⟩
            · skip
              refine e_iloadn (pc := 77) dX7_set_77 rfl ?_
              refine e_goto (pc := 78) dX7_set_78 (t := 85) (by decide) ?_
              refine put_y_year0 (pc := 85) dX7_set_85 pX7_13 ?_
              refine e_iloadn (pc := 88) dX7_set_88 rfl ?_
              exact e_iret (pc := 89) dX7_set_89 rfl (Nat.le_refl _) (Nat.le_refl _) ⟨(by first | rfl | (simp [yy_set1, *]; done) | ((try simp only [mc_cmp_le, mc_cmp_ge, mc_cmp_eq, mc_cmp_lt, mc_cmp_gt, mc_b0, mc_b1, Bool.not_eq_false, Bool.not_eq_true] at *); (try simp only [← Int32.not_lt, ← Int64.not_lt, Classical.not_not] at *); simp [yy_set1, *]; done) | (simp_all [yy_set1, mc_b0]; done) | (simp_all [yy_set1, Int32.le_iff_toInt_le, Int32.lt_iff_toInt_lt] <;> omega)), by simp_all [yy_setm, mc_b0, mc_b1, mc_up_self]⟩
          · skip
            refine e_iloadn (pc := 60) dX7_set_60 rfl ?_
            refine e_goto (pc := 61) dX7_set_61 (t := 68) (by decide) ?_
            refine put_y_base0 (pc := 68) dX7_set_68 pX7_7 ?_
            refine e_aloadn (pc := 71) dX7_set_71 rfl ?_
            refine e_iloadn (pc := 72) dX7_set_72 rfl ?_
            refine e_iconst (v := 1) (pc := 73) dX7_set_73 (by decide) ?_
            refine e_icmp_ne (pc := 74) dX7_set_74 (t := 81) (by decide) (fun c_74 => ?_) (fun c_74 => ?_)
            · skip
              refine e_aloadn (pc := 81) dX7_set_81 rfl ?_
              refine e_get (pc := 82) dX7_set_82 fX7_13 rfl rfl ?_
              refine put_y_year0 (pc := 85) dX7_set_85 pX7_13 ?_
              refine e_iloadn (pc := 88) dX7_set_88 rfl ?_
              exact e_iret (pc := 89) dX7_set_89 rfl (Nat.le_refl _) (Nat.le_refl _) ⟨(by first | rfl | (simp [yy_set1, *]; done) | ((try simp only [mc_cmp_le, mc_cmp_ge, mc_cmp_eq, mc_cmp_lt, mc_cmp_gt, mc_b0, mc_b1, Bool.not_eq_false, Bool.not_eq_true] at *); (try simp only [← Int32.not_lt, ← Int64.not_lt, Classical.not_not] at *); simp [yy_set1, *]; done) | (simp_all [yy_set1, mc_b0]; done) | (simp_all [yy_set1, Int32.le_iff_toInt_le, Int32.lt_iff_toInt_lt] <;> omega)), by simp_all [yy_setm, mc_b0, mc_b1, mc_up_self]⟩
            · skip
              refine e_iloadn (pc := 77) dX7_set_77 rfl ?_
              refine e_goto (pc := 78) dX7_set_78 (t := 85) (by decide) ?_
              refine put_y_year0 (pc := 85) dX7_set_85 pX7_13 ?_
              refine e_iloadn (pc := 88) dX7_set_88 rfl ?_
              exact e_iret (pc := 89) dX7_set_89 rfl (Nat.le_refl _) (Nat.le_refl _) ⟨(by first | rfl | (simp [yy_set1, *]; done) | ((try simp only [mc_cmp_le, mc_cmp_ge, mc_cmp_eq, mc_cmp_lt, mc_cmp_gt, mc_b0, mc_b1, Bool.not_eq_false, Bool.not_eq_true] at *); (try simp only [← Int32.not_lt, ← Int64.not_lt, Classical.not_not] at *); simp [yy_set1, *]; done) | (simp_all [yy_set1, mc_b0]; done) | (simp_all [yy_set1, Int32.le_iff_toInt_le, Int32.lt_iff_toInt_lt] <;> omega)), by simp_all [yy_setm, mc_b0, mc_b1, mc_up_self]⟩
        · skip
          refine e_aloadn (pc := 43) dX7_set_43 rfl ?_
          refine e_get (pc := 44) dX7_set_44 fX7_7 rfl rfl ?_
          refine e_goto (pc := 47) dX7_set_47 (t := 54) (by decide) ?_
          refine e_isn3 (pc := 54) dX7_set_54 (Nat.le_of_ble_eq_true rfl) rfl ?_
          refine e_aloadn (pc := 55) dX7_set_55 rfl ?_
          refine e_iloadn (pc := 56) dX7_set_56 rfl ?_
          refine e_if_ne (pc := 57) dX7_set_57 (t := 64) (by decide) (fun c_57 => ?_) (fun c_57 => ?_)
          · skip
            refine e_aloadn (pc := 64) dX7_set_64 rfl ?_
            refine e_get (pc := 65) dX7_set_65 fX7_7 rfl rfl ?_
            refine put_y_base0 (pc := 68) dX7_set_68 pX7_7 ?_
            refine e_aloadn (pc := 71) dX7_set_71 rfl ?_
            refine e_iloadn (pc := 72) dX7_set_72 rfl ?_
            refine e_iconst (v := 1) (pc := 73) dX7_set_73 (by decide) ?_
            refine e_icmp_ne (pc := 74) dX7_set_74 (t := 81) (by decide) (fun c_74 => ?_) (fun c_74 => ?_)
            · skip
              refine e_aloadn (pc := 81) dX7_set_81 rfl ?_
              refine e_get (pc := 82) dX7_set_82 fX7_13 rfl rfl ?_
              refine put_y_year0 (pc := 85) dX7_set_85 pX7_13 ?_
              refine e_iloadn (pc := 88) dX7_set_88 rfl ?_
              exact e_iret (pc := 89) dX7_set_89 rfl (Nat.le_refl _) (Nat.le_refl _) ⟨(by first | rfl | (simp [yy_set1, *]; done) | ((try simp only [mc_cmp_le, mc_cmp_ge, mc_cmp_eq, mc_cmp_lt, mc_cmp_gt, mc_b0, mc_b1, Bool.not_eq_false, Bool.not_eq_true] at *); (try simp only [← Int32.not_lt, ← Int64.not_lt, Classical.not_not] at *); simp [yy_set1, *]; done) | (simp_all [yy_set1, mc_b0]; done) | (simp_all [yy_set1, Int32.le_iff_toInt_le, Int32.lt_iff_toInt_lt] <;> omega)), by simp_all [yy_setm, mc_b0, mc_b1, mc_up_self]⟩
            · skip
              refine e_iloadn (pc := 77) dX7_set_77 rfl ?_
              refine e_goto (pc := 78) dX7_set_78 (t := 85) (by decide) ?_
              refine put_y_year0 (pc := 85) dX7_set_85 pX7_13 ?_
              refine e_iloadn (pc := 88) dX7_set_88 rfl ?_
              exact e_iret (pc := 89) dX7_set_89 rfl (Nat.le_refl _) (Nat.le_refl _) ⟨(by first | rfl | (simp [yy_set1, *]; done) | ((try simp only [mc_cmp_le, mc_cmp_ge, mc_cmp_eq, mc_cmp_lt, mc_cmp_gt, mc_b0, mc_b1, Bool.not_eq_false, Bool.not_eq_true] at *); (try simp only [← Int32.not_lt, ← Int64.not_lt, Classical.not_not] at *); simp [yy_set1, *]; done) | (simp_all [yy_set1, mc_b0]; done) | (simp_all [yy_set1, Int32.le_iff_toInt_le, Int32.lt_iff_toInt_lt] <;> omega)), by simp_all [yy_setm, mc_b0, mc_b1, mc_up_self]⟩
          · skip
            refine e_iloadn (pc := 60) dX7_set_60 rfl ?_
            refine e_goto (pc := 61) dX7_set_61 (t := 68) (by decide) ?_
            refine put_y_base0 (pc := 68) dX7_set_68 pX7_7 ?_
            refine e_aloadn (pc := 71) dX7_set_71 rfl ?_
            refine e_iloadn (pc := 72) dX7_set_72 rfl ?_
            refine e_iconst (v := 1) (pc := 73) dX7_set_73 (by decide) ?_
            refine e_icmp_ne (pc := 74) dX7_set_74 (t := 81) (by decide) (fun c_74 => ?_) (fun c_74 => ?_)
            · skip
              refine e_aloadn (pc := 81) dX7_set_81 rfl ?_
              refine e_get (pc := 82) dX7_set_82 fX7_13 rfl rfl ?_
              refine put_y_year0 (pc := 85) dX7_set_85 pX7_13 ?_
              refine e_iloadn (pc := 88) dX7_set_88 rfl ?_
              exact e_iret (pc := 89) dX7_set_89 rfl (Nat.le_refl _) (Nat.le_refl _) ⟨(by first | rfl | (simp [yy_set1, *]; done) | ((try simp only [mc_cmp_le, mc_cmp_ge, mc_cmp_eq, mc_cmp_lt, mc_cmp_gt, mc_b0, mc_b1, Bool.not_eq_false, Bool.not_eq_true] at *); (try simp only [← Int32.not_lt, ← Int64.not_lt, Classical.not_not] at *); simp [yy_set1, *]; done) | (simp_all [yy_set1, mc_b0]; done) | (simp_all [yy_set1, Int32.le_iff_toInt_le, Int32.lt_iff_toInt_lt] <;> omega)), by simp_all [yy_setm, mc_b0, mc_b1, mc_up_self]⟩
            · skip
              refine e_iloadn (pc := 77) dX7_set_77 rfl ?_
              refine e_goto (pc := 78) dX7_set_78 (t := 85) (by decide) ?_
              refine put_y_year0 (pc := 85) dX7_set_85 pX7_13 ?_
              refine e_iloadn (pc := 88) dX7_set_88 rfl ?_
              exact e_iret (pc := 89) dX7_set_89 rfl (Nat.le_refl _) (Nat.le_refl _) ⟨(by first | rfl | (simp [yy_set1, *]; done) | ((try simp only [mc_cmp_le, mc_cmp_ge, mc_cmp_eq, mc_cmp_lt, mc_cmp_gt, mc_b0, mc_b1, Bool.not_eq_false, Bool.not_eq_true] at *); (try simp only [← Int32.not_lt, ← Int64.not_lt, Classical.not_not] at *); simp [yy_set1, *]; done) | (simp_all [yy_set1, mc_b0]; done) | (simp_all [yy_set1, Int32.le_iff_toInt_le, Int32.lt_iff_toInt_lt] <;> omega)), by simp_all [yy_setm, mc_b0, mc_b1, mc_up_self]⟩
      · skip
        refine e_bipush (v := -7) (pc := 36) dX7_set_36 (by decide) ?_
        exact e_iret (pc := 38) dX7_set_38 rfl (Nat.le_refl _) (Nat.le_refl _) ⟨(by first | rfl | (simp [yy_set1, *]; done) | ((try simp only [mc_cmp_le, mc_cmp_ge, mc_cmp_eq, mc_cmp_lt, mc_cmp_gt, mc_b0, mc_b1, Bool.not_eq_false, Bool.not_eq_true] at *); (try simp only [← Int32.not_lt, ← Int64.not_lt, Classical.not_not] at *); simp [yy_set1, *]; done) | (simp_all [yy_set1, mc_b0]; done) | (simp_all [yy_set1, Int32.le_iff_toInt_le, Int32.lt_iff_toInt_lt] <;> omega)), by simp_all [yy_setm, mc_b0, mc_b1, mc_up_self]⟩
    · skip
      refine e_iloadn (pc := 16) dX7_set_16 rfl ?_
      refine e_iconst (v := 2) (pc := 17) dX7_set_17 (by decide) ?_
      refine e_bipush (v := 12) (pc := 18) dX7_set_18 (by decide) ?_
      refine e_csD (pc := 20) (sp_y_in) dX7_set_20 kX7_75 rfl rfl (mc_CR_of (Nat.le_of_ble_eq_true rfl) (Nat.le_of_ble_eq_true rfl) (Nat.le_refl _) (Nat.le_refl _)) (Nat.le_of_ble_eq_true rfl) ?_
      refine e_if_ne (pc := 23) dX7_set_23 (t := 39) (by decide) (fun c_23 => ?_) (fun c_23 => ?_)
      · skip
        refine e_iloadn (pc := 39) dX7_set_39 rfl ?_
        refine e_if_ne (pc := 40) dX7_set_40 (t := 50) (by decide) (fun c_40 => ?_) (fun c_40 => ?_)
        · skip
          refine e_aloadn (pc := 50) dX7_set_50 rfl ?_
          refine e_get (pc := 51) dX7_set_51 fX7_13 rfl rfl ?_
          refine e_isn3 (pc := 54) dX7_set_54 (Nat.le_of_ble_eq_true rfl) rfl ?_
          refine e_aloadn (pc := 55) dX7_set_55 rfl ?_
          refine e_iloadn (pc := 56) dX7_set_56 rfl ?_
          refine e_if_ne (pc := 57) dX7_set_57 (t := 64) (by decide) (fun c_57 => ?_) (fun c_57 => ?_)
          · skip
            refine e_aloadn (pc := 64) dX7_set_64 rfl ?_
            refine e_get (pc := 65) dX7_set_65 fX7_7 rfl rfl ?_
            refine put_y_base0 (pc := 68) dX7_set_68 pX7_7 ?_
            refine e_aloadn (pc := 71) dX7_set_71 rfl ?_
            refine e_iloadn (pc := 72) dX7_set_72 rfl ?_
            refine e_iconst (v := 1) (pc := 73) dX7_set_73 (by decide) ?_
            refine e_icmp_ne (pc := 74) dX7_set_74 (t := 81) (by decide) (fun c_74 => ?_) (fun c_74 => ?_)
            · skip
              refine e_aloadn (pc := 81) dX7_set_81 rfl ?_
              refine e_get (pc := 82) dX7_set_82 fX7_13 rfl rfl ?_
              refine put_y_year0 (pc := 85) dX7_set_85 pX7_13 ?_
              refine e_iloadn (pc := 88) dX7_set_88 rfl ?_
              exact e_iret (pc := 89) dX7_set_89 rfl (Nat.le_refl _) (Nat.le_refl _) ⟨(by first | rfl | (simp [yy_set1, *]; done) | ((try simp only [mc_cmp_le, mc_cmp_ge, mc_cmp_eq, mc_cmp_lt, mc_cmp_gt, mc_b0, mc_b1, Bool.not_eq_false, Bool.not_eq_true] at *); (try simp only [← Int32.not_lt, ← Int64.not_lt, Classical.not_not] at *); simp [yy_set1, *]; done) | (simp_all [yy_set1, mc_b0]; done) | (simp_all [yy_set1, Int32.le_iff_toInt_le, Int32.lt_iff_toInt_lt] <;> omega)), by simp_all [yy_setm, mc_b0, mc_b1, mc_up_self]⟩
            · skip
              refine e_iloadn (pc := 77) dX7_set_77 rfl ?_
              refine e_goto (pc := 78) dX7_set_78 (t := 85) (by decide) ?_
              refine put_y_year0 (pc := 85) dX7_set_85 pX7_13 ?_
              refine e_iloadn (pc := 88) dX7_set_88 rfl ?_
              exact e_iret (pc := 89) dX7_set_89 rfl (Nat.le_refl _) (Nat.le_refl _) ⟨(by first | rfl | (simp [yy_set1, *]; done) | ((try simp only [mc_cmp_le, mc_cmp_ge, mc_cmp_eq, mc_cmp_lt, mc_cmp_gt, mc_b0, mc_b1, Bool.not_eq_false, Bool.not_eq_true] at *); (try simp only [← Int32.not_lt, ← Int64.not_lt, Classical.not_not] at *); simp [yy_set1, *]; done) | (simp_all [yy_set1, mc_b0]; done) | (simp_all [yy_set1, Int32.le_iff_toInt_le, Int32.lt_iff_toInt_lt] <;> omega)), by simp_all [yy_setm, mc_b0, mc_b1, mc_up_self]⟩
          · skip
            refine e_iloadn (pc := 60) dX7_set_60 rfl ?_
            refine e_goto (pc := 61) dX7_set_61 (t := 68) (by decide) ?_
            refine put_y_base0 (pc := 68) dX7_set_68 pX7_7 ?_
            refine e_aloadn (pc := 71) dX7_set_71 rfl ?_
            refine e_iloadn (pc := 72) dX7_set_72 rfl ?_
            refine e_iconst (v := 1) (pc := 73) dX7_set_73 (by decide) ?_
            refine e_icmp_ne (pc := 74) dX7_set_74 (t := 81) (by decide) (fun c_74 => ?_) (fun c_74 => ?_)
            · skip
              refine e_aloadn (pc := 81) dX7_set_81 rfl ?_
              refine e_get (pc := 82) dX7_set_82 fX7_13 rfl rfl ?_
              refine put_y_year0 (pc := 85) dX7_set_85 pX7_13 ?_
              refine e_iloadn (pc := 88) dX7_set_88 rfl ?_
              exact e_iret (pc := 89) dX7_set_89 rfl (Nat.le_refl _) (Nat.le_refl _) ⟨(by first | rfl | (simp [yy_set1, *]; done) | ((try simp only [mc_cmp_le, mc_cmp_ge, mc_cmp_eq, mc_cmp_lt, mc_cmp_gt, mc_b0, mc_b1, Bool.not_eq_false, Bool.not_eq_true] at *); (try simp only [← Int32.not_lt, ← Int64.not_lt, Classical.not_not] at *); simp [yy_set1, *]; done) | (simp_all [yy_set1, mc_b0]; done) | (simp_all [yy_set1, Int32.le_iff_toInt_le, Int32.lt_iff_toInt_lt] <;> omega)), by simp_all [yy_setm, mc_b0, mc_b1, mc_up_self]⟩
            · skip
              refine e_iloadn (pc := 77) dX7_set_77 rfl ?_
              refine e_goto (pc := 78) dX7_set_78 (t := 85) (by decide) ?_
              refine put_y_year0 (pc := 85) dX7_set_85 pX7_13 ?_
              refine e_iloadn (pc := 88) dX7_set_88 rfl ?_
              exact e_iret (pc := 89) dX7_set_89 rfl (Nat.le_refl _) (Nat.le_refl _) ⟨(by first | rfl | (simp [yy_set1, *]; done) | ((try simp only [mc_cmp_le, mc_cmp_ge, mc_cmp_eq, mc_cmp_lt, mc_cmp_gt, mc_b0, mc_b1, Bool.not_eq_false, Bool.not_eq_true] at *); (try simp only [← Int32.not_lt, ← Int64.not_lt, Classical.not_not] at *); simp [yy_set1, *]; done) | (simp_all [yy_set1, mc_b0]; done) | (simp_all [yy_set1, Int32.le_iff_toInt_le, Int32.lt_iff_toInt_lt] <;> omega)), by simp_all [yy_setm, mc_b0, mc_b1, mc_up_self]⟩
        · skip
          refine e_aloadn (pc := 43) dX7_set_43 rfl ?_
          refine e_get (pc := 44) dX7_set_44 fX7_7 rfl rfl ?_
          refine e_goto (pc := 47) dX7_set_47 (t := 54) (by decide) ?_
          refine e_isn3 (pc := 54) dX7_set_54 (Nat.le_of_ble_eq_true rfl) rfl ?_
          refine e_aloadn (pc := 55) dX7_set_55 rfl ?_
          refine e_iloadn (pc := 56) dX7_set_56 rfl ?_
          refine e_if_ne (pc := 57) dX7_set_57 (t := 64) (by decide) (fun c_57 => ?_) (fun c_57 => ?_)
          · skip
            refine e_aloadn (pc := 64) dX7_set_64 rfl ?_
            refine e_get (pc := 65) dX7_set_65 fX7_7 rfl rfl ?_
            refine put_y_base0 (pc := 68) dX7_set_68 pX7_7 ?_
            refine e_aloadn (pc := 71) dX7_set_71 rfl ?_
            refine e_iloadn (pc := 72) dX7_set_72 rfl ?_
            refine e_iconst (v := 1) (pc := 73) dX7_set_73 (by decide) ?_
            refine e_icmp_ne (pc := 74) dX7_set_74 (t := 81) (by decide) (fun c_74 => ?_) (fun c_74 => ?_)
            · skip
              refine e_aloadn (pc := 81) dX7_set_81 rfl ?_
              refine e_get (pc := 82) dX7_set_82 fX7_13 rfl rfl ?_
              refine put_y_year0 (pc := 85) dX7_set_85 pX7_13 ?_
              refine e_iloadn (pc := 88) dX7_set_88 rfl ?_
              exact e_iret (pc := 89) dX7_set_89 rfl (Nat.le_refl _) (Nat.le_refl _) ⟨(by first | rfl | (simp [yy_set1, *]; done) | ((try simp only [mc_cmp_le, mc_cmp_ge, mc_cmp_eq, mc_cmp_lt, mc_cmp_gt, mc_b0, mc_b1, Bool.not_eq_false, Bool.not_eq_true] at *); (try simp only [← Int32.not_lt, ← Int64.not_lt, Classical.not_not] at *); simp [yy_set1, *]; done) | (simp_all [yy_set1, mc_b0]; done) | (simp_all [yy_set1, Int32.le_iff_toInt_le, Int32.lt_iff_toInt_lt] <;> omega)), by simp_all [yy_setm, mc_b0, mc_b1, mc_up_self]⟩
            · skip
              refine e_iloadn (pc := 77) dX7_set_77 rfl ?_
              refine e_goto (pc := 78) dX7_set_78 (t := 85) (by decide) ?_
              refine put_y_year0 (pc := 85) dX7_set_85 pX7_13 ?_
              refine e_iloadn (pc := 88) dX7_set_88 rfl ?_
              exact e_iret (pc := 89) dX7_set_89 rfl (Nat.le_refl _) (Nat.le_refl _) ⟨(by first | rfl | (simp [yy_set1, *]; done) | ((try simp only [mc_cmp_le, mc_cmp_ge, mc_cmp_eq, mc_cmp_lt, mc_cmp_gt, mc_b0, mc_b1, Bool.not_eq_false, Bool.not_eq_true] at *); (try simp only [← Int32.not_lt, ← Int64.not_lt, Classical.not_not] at *); simp [yy_set1, *]; done) | (simp_all [yy_set1, mc_b0]; done) | (simp_all [yy_set1, Int32.le_iff_toInt_le, Int32.lt_iff_toInt_lt] <;> omega)), by simp_all [yy_setm, mc_b0, mc_b1, mc_up_self]⟩
          · skip
            refine e_iloadn (pc := 60) dX7_set_60 rfl ?_
            refine e_goto (pc := 61) dX7_set_61 (t := 68) (by decide) ?_
            refine put_y_base0 (pc := 68) dX7_set_68 pX7_7 ?_
            refine e_aloadn (pc := 71) dX7_set_71 rfl ?_
            refine e_iloadn (pc := 72) dX7_set_72 rfl ?_
            refine e_iconst (v := 1) (pc := 73) dX7_set_73 (by decide) ?_
            refine e_icmp_ne (pc := 74) dX7_set_74 (t := 81) (by decide) (fun c_74 => ?_) (fun c_74 => ?_)
            · skip
              refine e_aloadn (pc := 81) dX7_set_81 rfl ?_
              refine e_get (pc := 82) dX7_set_82 fX7_13 rfl rfl ?_
              refine put_y_year0 (pc := 85) dX7_set_85 pX7_13 ?_
              refine e_iloadn (pc := 88) dX7_set_88 rfl ?_
              exact e_iret (pc := 89) dX7_set_89 rfl (Nat.le_refl _) (Nat.le_refl _) ⟨(by first | rfl | (simp [yy_set1, *]; done) | ((try simp only [mc_cmp_le, mc_cmp_ge, mc_cmp_eq, mc_cmp_lt, mc_cmp_gt, mc_b0, mc_b1, Bool.not_eq_false, Bool.not_eq_true] at *); (try simp only [← Int32.not_lt, ← Int64.not_lt, Classical.not_not] at *); simp [yy_set1, *]; done) | (simp_all [yy_set1, mc_b0]; done) | (simp_all [yy_set1, Int32.le_iff_toInt_le, Int32.lt_iff_toInt_lt] <;> omega)), by simp_all [yy_setm, mc_b0, mc_b1, mc_up_self]⟩
            · skip
              refine e_iloadn (pc := 77) dX7_set_77 rfl ?_
              refine e_goto (pc := 78) dX7_set_78 (t := 85) (by decide) ?_
              refine put_y_year0 (pc := 85) dX7_set_85 pX7_13 ?_
              refine e_iloadn (pc := 88) dX7_set_88 rfl ?_
              exact e_iret (pc := 89) dX7_set_89 rfl (Nat.le_refl _) (Nat.le_refl _) ⟨(by first | rfl | (simp [yy_set1, *]; done) | ((try simp only [mc_cmp_le, mc_cmp_ge, mc_cmp_eq, mc_cmp_lt, mc_cmp_gt, mc_b0, mc_b1, Bool.not_eq_false, Bool.not_eq_true] at *); (try simp only [← Int32.not_lt, ← Int64.not_lt, Classical.not_not] at *); simp [yy_set1, *]; done) | (simp_all [yy_set1, mc_b0]; done) | (simp_all [yy_set1, Int32.le_iff_toInt_le, Int32.lt_iff_toInt_lt] <;> omega)), by simp_all [yy_setm, mc_b0, mc_b1, mc_up_self]⟩
      · skip
        refine e_goto (pc := 26) dX7_set_26 (t := 36) (by decide) ?_
        refine e_bipush (v := -7) (pc := 36) dX7_set_36 (by decide) ?_
        exact e_iret (pc := 38) dX7_set_38 rfl (Nat.le_refl _) (Nat.le_refl _) ⟨(by first | rfl | (simp [yy_set1, *]; done) | ((try simp only [mc_cmp_le, mc_cmp_ge, mc_cmp_eq, mc_cmp_lt, mc_cmp_gt, mc_b0, mc_b1, Bool.not_eq_false, Bool.not_eq_true] at *); (try simp only [← Int32.not_lt, ← Int64.not_lt, Classical.not_not] at *); simp [yy_set1, *]; done) | (simp_all [yy_set1, mc_b0]; done) | (simp_all [yy_set1, Int32.le_iff_toInt_le, Int32.lt_iff_toInt_lt] <;> omega)), by simp_all [yy_setm, mc_b0, mc_b1, mc_up_self]⟩
  · skip
    refine e_bipush (v := -5) (pc := 9) dX7_set_9 (by decide) ?_
    exact e_iret (pc := 11) dX7_set_11 rfl (Nat.le_refl _) (Nat.le_refl _) ⟨(by first | rfl | (simp [yy_set1, *]; done) | ((try simp only [mc_cmp_le, mc_cmp_ge, mc_cmp_eq, mc_cmp_lt, mc_cmp_gt, mc_b0, mc_b1, Bool.not_eq_false, Bool.not_eq_true] at *); (try simp only [← Int32.not_lt, ← Int64.not_lt, Classical.not_not] at *); simp [yy_set1, *]; done) | (simp_all [yy_set1, mc_b0]; done) | (simp_all [yy_set1, Int32.le_iff_toInt_le, Int32.lt_iff_toInt_lt] <;> omega)), by simp_all [yy_setm, mc_b0, mc_b1, mc_up_self]⟩
