def mc_b (p : Bool) : Int32 := if p then 1 else 0
theorem mc_b0 {p : Bool} : mc_b p = 0 ↔ p = false := by cases p <;> simp [mc_b]
theorem mc_b1 {p : Bool} : ¬ mc_b p = 0 ↔ p = true := by cases p <;> simp [mc_b]
theorem mc_bnar {p : Bool} : narrow .boolean (.int (mc_b p)) = .int (mc_b p) := by cases p <;> rfl
def mc_wi (v lo hi : Int32) : Bool := decide (lo ≤ v) && decide (v ≤ hi)
theorem mc_wi_lt {v lo hi : Int32} (h : v < lo) : mc_wi v lo hi = false := by simp [mc_wi, Int32.not_le.mpr h]
theorem mc_wi_gt {v lo hi : Int32} (h : hi < v) : mc_wi v lo hi = false := by simp [mc_wi, Int32.not_le.mpr h]
theorem mc_wi_in {v lo hi : Int32} (h1 : ¬ v < lo) (h2 : ¬ hi < v) : mc_wi v lo hi = true := by simp [mc_wi, Int32.not_lt.mp h1, Int32.not_lt.mp h2]
theorem mc_wi_iff {v lo hi : Int32} : mc_wi v lo hi = true ↔ lo.toInt ≤ v.toInt ∧ v.toInt ≤ hi.toInt := by simp [mc_wi, Int32.le_iff_toInt_le]
theorem mc_wi_iffF {v lo hi : Int32} : mc_wi v lo hi = false ↔ v.toInt < lo.toInt ∨ hi.toInt < v.toInt := by
  rw [← Bool.not_eq_true, mc_wi_iff]; omega
theorem mc_up_self {α : Type} (f : Nat → α) (k : Nat) : mc_up f k (f k) = f := by
  funext j; unfold mc_up; by_cases h : j = k
  · rw [if_pos h, h]
  · rw [if_neg h]
theorem mc_cmp_le {x y : Int64} : lg_cmp x y ≤ 0 ↔ ¬ y < x := by
  unfold lg_cmp; by_cases h1 : y < x
  · simp [h1]
  · by_cases h2 : x = y <;> simp [h1, h2] <;> decide
theorem mc_cmp_ge {x y : Int64} : 0 ≤ lg_cmp x y ↔ y < x ∨ x = y := by
  unfold lg_cmp; by_cases h1 : y < x
  · simp [h1]
  · by_cases h2 : x = y <;> simp [h1, h2] <;> decide
theorem mc_cmp_eq {x y : Int64} : lg_cmp x y = 0 ↔ x = y := by
  unfold lg_cmp; by_cases h1 : y < x
  · simp [h1]; rintro rfl; simp at h1
  · by_cases h2 : x = y <;> simp [h1, h2]
theorem mc_cmp_lt {x y : Int64} : lg_cmp x y < 0 ↔ ¬ (y < x ∨ x = y) := by rw [← mc_cmp_ge, Int32.not_le]
theorem mc_cmp_gt {x y : Int64} : 0 < lg_cmp x y ↔ y < x := by rw [← Int32.not_le, mc_cmp_le]; simp
/-! ===== the other side: what each of its inner methods says, in words of numbers and rows ===== -/
def yy_wn (v lo hi : Int32) : Int32 := if v < lo then lo else if hi < v then hi else v
def yy_far (x y : Int64) : Int64 := if y < x then x - y else y - x
def yy_bit (x k : Int32) : Int32 := (x >>> (k &&& 31)) &&& 1
def yy_ones (x : Int32) : Int32 := 0 + yy_bit x 0 + yy_bit x 1 + yy_bit x 2 + yy_bit x 3 + yy_bit x 4 + yy_bit x 5
theorem sp_y_in {w : mc_W} {v lo hi : Int32} : mc_D yX7_in cX7_in 3 (some .boolean) 1 [.int v, .int lo, .int hi] w (some (.int (mc_b (mc_wi v lo hi)))) w := by
  refine mc_start (own := RX7) (ini := false) rfl (by decide +kernel) (fun h => by cases h) (Nat.le_of_ble_eq_true rfl) ?_
  show mc_E _ _ _ _ _ [some (.int v), some (.int lo), some (.int hi)] [] _ _ _
  refine e_iloadn (pc := 0) dX7_in_0 rfl ?_
  refine e_iloadn (pc := 1) dX7_in_1 rfl ?_
  refine e_icmp_lt (pc := 2) dX7_in_2 (t := 14) (by decide) (fun c_2 => ?_) (fun c_2 => ?_)
  · skip
    refine e_iconst (v := 0) (pc := 14) dX7_in_14 (by decide) ?_
    exact e_zret (pc := 15) dX7_in_15 rfl (by rfl) (Nat.le_refl _) (Nat.le_refl _) ⟨by first | rw [mc_wi_lt (by assumption)]; rfl | rw [mc_wi_gt (by assumption)]; rfl | rw [mc_wi_in (by assumption) (by assumption)]; rfl, rfl⟩
  · skip
    refine e_iloadn (pc := 5) dX7_in_5 rfl ?_
    refine e_iloadn (pc := 6) dX7_in_6 rfl ?_
    refine e_icmp_gt (pc := 7) dX7_in_7 (t := 14) (by decide) (fun c_7 => ?_) (fun c_7 => ?_)
    · skip
      refine e_iconst (v := 0) (pc := 14) dX7_in_14 (by decide) ?_
      exact e_zret (pc := 15) dX7_in_15 rfl (by rfl) (Nat.le_refl _) (Nat.le_refl _) ⟨by first | rw [mc_wi_lt (by assumption)]; rfl | rw [mc_wi_gt (by assumption)]; rfl | rw [mc_wi_in (by assumption) (by assumption)]; rfl, rfl⟩
    · skip
      refine e_iconst (v := 1) (pc := 10) dX7_in_10 (by decide) ?_
      refine e_goto (pc := 11) dX7_in_11 (t := 15) (by decide) ?_
      exact e_zret (pc := 15) dX7_in_15 rfl (by rfl) (Nat.le_refl _) (Nat.le_refl _) ⟨by first | rw [mc_wi_lt (by assumption)]; rfl | rw [mc_wi_gt (by assumption)]; rfl | rw [mc_wi_in (by assumption) (by assumption)]; rfl, rfl⟩
theorem sp_y_within {w : mc_W} {v lo hi : Int32} : mc_D yX7_within cX7_within 3 (some .int) 1 [.int v, .int lo, .int hi] w (some (.int (yy_wn v lo hi))) w := by
  refine mc_start (own := RX7) (ini := false) rfl (by decide +kernel) (fun h => by cases h) (Nat.le_of_ble_eq_true rfl) ?_
  show mc_E _ _ _ _ _ [some (.int v), some (.int lo), some (.int hi)] [] _ _ _
  refine e_iloadn (pc := 0) dX7_within_0 rfl ?_
  refine e_iloadn (pc := 1) dX7_within_1 rfl ?_
  refine e_icmp_ge (pc := 2) dX7_within_2 (t := 9) (by decide) (fun c_2 => ?_) (fun c_2 => ?_)
  · skip
    refine e_iloadn (pc := 9) dX7_within_9 rfl ?_
    refine e_iloadn (pc := 10) dX7_within_10 rfl ?_
    refine e_icmp_le (pc := 11) dX7_within_11 (t := 18) (by decide) (fun c_11 => ?_) (fun c_11 => ?_)
    · skip
      refine e_iloadn (pc := 18) dX7_within_18 rfl ?_
      exact e_iret (pc := 19) dX7_within_19 rfl (Nat.le_refl _) (Nat.le_refl _) ⟨(by first | rfl | (simp [yy_wn, *]; done) | ((try simp only [mc_cmp_le, mc_cmp_ge, mc_cmp_eq, mc_cmp_lt, mc_cmp_gt, mc_b0, mc_b1, Bool.not_eq_false, Bool.not_eq_true] at *); (try simp only [← Int32.not_lt, ← Int64.not_lt, Classical.not_not] at *); simp [yy_wn, *]; done) | (simp_all [yy_wn, mc_b0]; done) | (simp_all [yy_wn, Int32.le_iff_toInt_le, Int32.lt_iff_toInt_lt] <;> omega)), rfl⟩
    · skip
      refine e_iloadn (pc := 14) dX7_within_14 rfl ?_
      refine e_goto (pc := 15) dX7_within_15 (t := 19) (by decide) ?_
      exact e_iret (pc := 19) dX7_within_19 rfl (Nat.le_refl _) (Nat.le_refl _) ⟨(by first | rfl | (simp [yy_wn, *]; done) | ((try simp only [mc_cmp_le, mc_cmp_ge, mc_cmp_eq, mc_cmp_lt, mc_cmp_gt, mc_b0, mc_b1, Bool.not_eq_false, Bool.not_eq_true] at *); (try simp only [← Int32.not_lt, ← Int64.not_lt, Classical.not_not] at *); simp [yy_wn, *]; done) | (simp_all [yy_wn, mc_b0]; done) | (simp_all [yy_wn, Int32.le_iff_toInt_le, Int32.lt_iff_toInt_lt] <;> omega)), rfl⟩
  · skip
    refine e_iloadn (pc := 5) dX7_within_5 rfl ?_
    refine e_goto (pc := 6) dX7_within_6 (t := 19) (by decide) ?_
    exact e_iret (pc := 19) dX7_within_19 rfl (Nat.le_refl _) (Nat.le_refl _) ⟨(by first | rfl | (simp [yy_wn, *]; done) | ((try simp only [mc_cmp_le, mc_cmp_ge, mc_cmp_eq, mc_cmp_lt, mc_cmp_gt, mc_b0, mc_b1, Bool.not_eq_false, Bool.not_eq_true] at *); (try simp only [← Int32.not_lt, ← Int64.not_lt, Classical.not_not] at *); simp [yy_wn, *]; done) | (simp_all [yy_wn, mc_b0]; done) | (simp_all [yy_wn, Int32.le_iff_toInt_le, Int32.lt_iff_toInt_lt] <;> omega)), rfl⟩
theorem sp_y_far {w : mc_W} {x y : Int64} : mc_D yX7_far cX7_far 4 (some .long) 1 [.long x, .long y] w (some (.long (yy_far x y))) w := by
  refine mc_start (own := RX7) (ini := false) rfl (by decide +kernel) (fun h => by cases h) (Nat.le_of_ble_eq_true rfl) ?_
  show mc_E _ _ _ _ _ [some (.long x), none, some (.long y), none] [] _ _ _
  refine e_lloadn (pc := 0) dX7_far_0 rfl ?_
  refine e_lloadn (pc := 1) dX7_far_1 rfl ?_
  refine e_lcmp (pc := 2) dX7_far_2 ?_
  refine e_if_le (pc := 3) dX7_far_3 (t := 12) (by decide) (fun c_3 => ?_) (fun c_3 => ?_)
  · skip
    refine e_lloadn (pc := 12) dX7_far_12 rfl ?_
    refine e_lloadn (pc := 13) dX7_far_13 rfl ?_
    refine e_lsub (pc := 14) dX7_far_14 ?_
    exact e_lret (pc := 15) dX7_far_15 rfl (Nat.le_refl _) (Nat.le_refl _) ⟨(by first | rfl | (simp [yy_far, mc_cmp_le, *]; done) | ((try simp only [mc_cmp_le, mc_cmp_ge, mc_cmp_eq, mc_cmp_lt, mc_cmp_gt, mc_b0, mc_b1, Bool.not_eq_false, Bool.not_eq_true] at *); (try simp only [← Int32.not_lt, ← Int64.not_lt, Classical.not_not] at *); simp [yy_far, mc_cmp_le, *]; done) | (simp_all [yy_far, mc_cmp_le, mc_b0]; done) | (simp_all [yy_far, mc_cmp_le, Int32.le_iff_toInt_le, Int32.lt_iff_toInt_lt] <;> omega)), rfl⟩
  · skip
    refine e_lloadn (pc := 6) dX7_far_6 rfl ?_
    refine e_lloadn (pc := 7) dX7_far_7 rfl ?_
    refine e_lsub (pc := 8) dX7_far_8 ?_
    refine e_goto (pc := 9) dX7_far_9 (t := 15) (by decide) ?_
    exact e_lret (pc := 15) dX7_far_15 rfl (Nat.le_refl _) (Nat.le_refl _) ⟨(by first | rfl | (simp [yy_far, mc_cmp_le, *]; done) | ((try simp only [mc_cmp_le, mc_cmp_ge, mc_cmp_eq, mc_cmp_lt, mc_cmp_gt, mc_b0, mc_b1, Bool.not_eq_false, Bool.not_eq_true] at *); (try simp only [← Int32.not_lt, ← Int64.not_lt, Classical.not_not] at *); simp [yy_far, mc_cmp_le, *]; done) | (simp_all [yy_far, mc_cmp_le, mc_b0]; done) | (simp_all [yy_far, mc_cmp_le, Int32.le_iff_toInt_le, Int32.lt_iff_toInt_lt] <;> omega)), rfl⟩
theorem sp_y_ones {w : mc_W} {x : Int32} : mc_D yX7_ones cX7_ones 3 (some .int) 1 [.int x] w (some (.int (yy_ones x))) w := by
  refine mc_start (own := RX7) (ini := false) rfl (by decide +kernel) (fun h => by cases h) (Nat.le_of_ble_eq_true rfl) ?_
  show mc_E _ _ _ _ _ [some (.int x), none, none] [] _ _ _
  refine e_iconst (v := 0) (pc := 0) dX7_ones_0 (by decide) ?_
  refine e_isn1 (pc := 1) dX7_ones_1 (Nat.le_of_ble_eq_true rfl) rfl ?_
  refine e_iconst (v := 0) (pc := 2) dX7_ones_2 (by decide) ?_
  refine e_isn2 (pc := 3) dX7_ones_3 (Nat.le_of_ble_eq_true rfl) rfl ?_
  refine e_iloadn (pc := 4) dX7_ones_4 rfl ?_
  refine e_bipush (v := 6) (pc := 5) dX7_ones_5 (by decide) ?_
  refine e_icmp_ge (pc := 7) dX7_ones_7 (t := 24) (by decide) (fun c_7 => absurd c_7 (by decide)) (fun _ => ?_)
  refine e_iloadn (pc := 10) dX7_ones_10 rfl ?_
  refine e_iloadn (pc := 11) dX7_ones_11 rfl ?_
  refine e_iloadn (pc := 12) dX7_ones_12 rfl ?_
  refine e_ishr (pc := 13) dX7_ones_13 ?_
  refine e_iconst (v := 1) (pc := 14) dX7_ones_14 (by decide) ?_
  refine e_iand (pc := 15) dX7_ones_15 ?_
  refine e_iadd (pc := 16) dX7_ones_16 ?_
  refine e_isn1 (pc := 17) dX7_ones_17 (Nat.le_of_ble_eq_true rfl) rfl ?_
  refine e_incC2 (pc := 18) (v := 1) dX7_ones_18 (by decide) (Nat.le_of_ble_eq_true rfl) rfl ?_
  refine e_goto (pc := 21) dX7_ones_21 (t := 4) (by decide) ?_
  refine e_iloadn (pc := 4) dX7_ones_4 rfl ?_
  refine e_bipush (v := 6) (pc := 5) dX7_ones_5 (by decide) ?_
  refine e_icmp_ge (pc := 7) dX7_ones_7 (t := 24) (by decide) (fun c_7 => absurd c_7 (by decide)) (fun _ => ?_)
  refine e_iloadn (pc := 10) dX7_ones_10 rfl ?_
  refine e_iloadn (pc := 11) dX7_ones_11 rfl ?_
  refine e_iloadn (pc := 12) dX7_ones_12 rfl ?_
  refine e_ishr (pc := 13) dX7_ones_13 ?_
  refine e_iconst (v := 1) (pc := 14) dX7_ones_14 (by decide) ?_
  refine e_iand (pc := 15) dX7_ones_15 ?_
  refine e_iadd (pc := 16) dX7_ones_16 ?_
  refine e_isn1 (pc := 17) dX7_ones_17 (Nat.le_of_ble_eq_true rfl) rfl ?_
  refine e_incC2 (pc := 18) (v := 2) dX7_ones_18 (by decide) (Nat.le_of_ble_eq_true rfl) rfl ?_
  refine e_goto (pc := 21) dX7_ones_21 (t := 4) (by decide) ?_
  refine e_iloadn (pc := 4) dX7_ones_4 rfl ?_
  refine e_bipush (v := 6) (pc := 5) dX7_ones_5 (by decide) ?_
  refine e_icmp_ge (pc := 7) dX7_ones_7 (t := 24) (by decide) (fun c_7 => absurd c_7 (by decide)) (fun _ => ?_)
  refine e_iloadn (pc := 10) dX7_ones_10 rfl ?_
  refine e_iloadn (pc := 11) dX7_ones_11 rfl ?_
  refine e_iloadn (pc := 12) dX7_ones_12 rfl ?_
  refine e_ishr (pc := 13) dX7_ones_13 ?_
  refine e_iconst (v := 1) (pc := 14) dX7_ones_14 (by decide) ?_
  refine e_iand (pc := 15) dX7_ones_15 ?_
  refine e_iadd (pc := 16) dX7_ones_16 ?_
  refine e_isn1 (pc := 17) dX7_ones_17 (Nat.le_of_ble_eq_true rfl) rfl ?_
  refine e_incC2 (pc := 18) (v := 3) dX7_ones_18 (by decide) (Nat.le_of_ble_eq_true rfl) rfl ?_
  refine e_goto (pc := 21) dX7_ones_21 (t := 4) (by decide) ?_
  refine e_iloadn (pc := 4) dX7_ones_4 rfl ?_
  refine e_bipush (v := 6) (pc := 5) dX7_ones_5 (by decide) ?_
  refine e_icmp_ge (pc := 7) dX7_ones_7 (t := 24) (by decide) (fun c_7 => absurd c_7 (by decide)) (fun _ => ?_)
  refine e_iloadn (pc := 10) dX7_ones_10 rfl ?_
  refine e_iloadn (pc := 11) dX7_ones_11 rfl ?_
  refine e_iloadn (pc := 12) dX7_ones_12 rfl ?_
  refine e_ishr (pc := 13) dX7_ones_13 ?_
  refine e_iconst (v := 1) (pc := 14) dX7_ones_14 (by decide) ?_
  refine e_iand (pc := 15) dX7_ones_15 ?_
  refine e_iadd (pc := 16) dX7_ones_16 ?_
  refine e_isn1 (pc := 17) dX7_ones_17 (Nat.le_of_ble_eq_true rfl) rfl ?_
  refine e_incC2 (pc := 18) (v := 4) dX7_ones_18 (by decide) (Nat.le_of_ble_eq_true rfl) rfl ?_
  refine e_goto (pc := 21) dX7_ones_21 (t := 4) (by decide) ?_
  refine e_iloadn (pc := 4) dX7_ones_4 rfl ?_
  refine e_bipush (v := 6) (pc := 5) dX7_ones_5 (by decide) ?_
  refine e_icmp_ge (pc := 7) dX7_ones_7 (t := 24) (by decide) (fun c_7 => absurd c_7 (by decide)) (fun _ => ?_)
  refine e_iloadn (pc := 10) dX7_ones_10 rfl ?_
  refine e_iloadn (pc := 11) dX7_ones_11 rfl ?_
  refine e_iloadn (pc := 12) dX7_ones_12 rfl ?_
  refine e_ishr (pc := 13) dX7_ones_13 ?_
  refine e_iconst (v := 1) (pc := 14) dX7_ones_14 (by decide) ?_
  refine e_iand (pc := 15) dX7_ones_15 ?_
  refine e_iadd (pc := 16) dX7_ones_16 ?_
  refine e_isn1 (pc := 17) dX7_ones_17 (Nat.le_of_ble_eq_true rfl) rfl ?_
  refine e_incC2 (pc := 18) (v := 5) dX7_ones_18 (by decide) (Nat.le_of_ble_eq_true rfl) rfl ?_
  refine e_goto (pc := 21) dX7_ones_21 (t := 4) (by decide) ?_
  refine e_iloadn (pc := 4) dX7_ones_4 rfl ?_
  refine e_bipush (v := 6) (pc := 5) dX7_ones_5 (by decide) ?_
  refine e_icmp_ge (pc := 7) dX7_ones_7 (t := 24) (by decide) (fun c_7 => absurd c_7 (by decide)) (fun _ => ?_)
  refine e_iloadn (pc := 10) dX7_ones_10 rfl ?_
  refine e_iloadn (pc := 11) dX7_ones_11 rfl ?_
  refine e_iloadn (pc := 12) dX7_ones_12 rfl ?_
  refine e_ishr (pc := 13) dX7_ones_13 ?_
  refine e_iconst (v := 1) (pc := 14) dX7_ones_14 (by decide) ?_
  refine e_iand (pc := 15) dX7_ones_15 ?_
  refine e_iadd (pc := 16) dX7_ones_16 ?_
  refine e_isn1 (pc := 17) dX7_ones_17 (Nat.le_of_ble_eq_true rfl) rfl ?_
  refine e_incC2 (pc := 18) (v := 6) dX7_ones_18 (by decide) (Nat.le_of_ble_eq_true rfl) rfl ?_
  refine e_goto (pc := 21) dX7_ones_21 (t := 4) (by decide) ?_
  refine e_iloadn (pc := 4) dX7_ones_4 rfl ?_
  refine e_bipush (v := 6) (pc := 5) dX7_ones_5 (by decide) ?_
  refine e_icmp_ge (pc := 7) dX7_ones_7 (t := 24) (by decide) (fun _ => ?_) (fun c_7 => absurd (by decide) c_7)
  refine e_iloadn (pc := 24) dX7_ones_24 rfl ?_
  exact e_iret (pc := 25) dX7_ones_25 rfl (Nat.le_refl _) (Nat.le_refl _) ⟨rfl, rfl⟩
theorem sp_y_isNumber {w : mc_W} {v : Int32} : mc_D yX7_isNumber cX7_isNumber 1 (some .boolean) 2 [.int v] w (some (.int (mc_b (mc_wi v 0 99999)))) w := by
  refine mc_start (own := RX7) (ini := false) rfl (by decide +kernel) (fun h => by cases h) (Nat.le_of_ble_eq_true rfl) ?_
  show mc_E _ _ _ _ _ [some (.int v)] [] _ _ _
  refine e_iloadn (pc := 0) dX7_isNumber_0 rfl ?_
  refine e_iconst (v := 0) (pc := 1) dX7_isNumber_1 (by decide) ?_
  refine e_ldc (pc := 2) dX7_isNumber_2 qX7_79 ?_
  refine e_csD (pc := 4) (sp_y_in) dX7_isNumber_4 kX7_75 rfl rfl (mc_CR_of (Nat.le_of_ble_eq_true rfl) (Nat.le_of_ble_eq_true rfl) (Nat.le_refl _) (Nat.le_refl _)) (Nat.le_of_ble_eq_true rfl) ?_
  exact e_zret (pc := 7) dX7_isNumber_7 rfl (by exact mc_bnar) (Nat.le_refl _) (Nat.le_refl _) ⟨rfl, rfl⟩
theorem sp_y_isByte {w : mc_W} {v : Int32} : mc_D yX7_isByte cX7_isByte 1 (some .boolean) 2 [.int v] w (some (.int (mc_b (mc_wi v 0 255)))) w := by
  refine mc_start (own := RX7) (ini := false) rfl (by decide +kernel) (fun h => by cases h) (Nat.le_of_ble_eq_true rfl) ?_
  show mc_E _ _ _ _ _ [some (.int v)] [] _ _ _
  refine e_iloadn (pc := 0) dX7_isByte_0 rfl ?_
  refine e_iconst (v := 0) (pc := 1) dX7_isByte_1 (by decide) ?_
  refine e_sipush (v := 255) (pc := 2) dX7_isByte_2 (by decide) ?_
  refine e_csD (pc := 5) (sp_y_in) dX7_isByte_5 kX7_75 rfl rfl (mc_CR_of (Nat.le_of_ble_eq_true rfl) (Nat.le_of_ble_eq_true rfl) (Nat.le_refl _) (Nat.le_refl _)) (Nat.le_of_ble_eq_true rfl) ?_
  exact e_zret (pc := 8) dX7_isByte_8 rfl (by exact mc_bnar) (Nat.le_refl _) (Nat.le_refl _) ⟨rfl, rfl⟩
theorem sp_y_isClerk {s u m n : Nat → Int32} {a c b d : Nat → List Int32} {q : List (Option Nat)} {h : Nat} {z : mc_W} {k : Int32} : mc_D yX7_isClerk cX7_isClerk 2 (some .boolean) 2 [.ref 29, .int k] (WW s a q u c h m b n d z) (some (.int (mc_b (mc_wi k 0 (m 2 - 1))))) (WW s a q u c h m b n d z) := by
  refine mc_start (own := RX7) (ini := false) rfl (by decide +kernel) (fun h => by cases h) (Nat.le_of_ble_eq_true rfl) ?_
  show mc_E _ _ _ _ _ [some (.ref 29), some (.int k)] [] _ _ _
  refine e_iloadn (pc := 0) dX7_isClerk_0 rfl ?_
  refine e_iconst (v := 0) (pc := 1) dX7_isClerk_1 (by decide) ?_
  refine e_aloadn (pc := 2) dX7_isClerk_2 rfl ?_
  refine e_get (pc := 3) dX7_isClerk_3 fX7_72 rfl rfl ?_
  refine e_iconst (v := 1) (pc := 6) dX7_isClerk_6 (by decide) ?_
  refine e_isub (pc := 7) dX7_isClerk_7 ?_
  refine e_csD (pc := 8) (sp_y_in) dX7_isClerk_8 kX7_75 rfl rfl (mc_CR_of (Nat.le_of_ble_eq_true rfl) (Nat.le_of_ble_eq_true rfl) (Nat.le_refl _) (Nat.le_refl _)) (Nat.le_of_ble_eq_true rfl) ?_
  exact e_zret (pc := 11) dX7_isClerk_11 rfl (by exact mc_bnar) (Nat.le_refl _) (Nat.le_refl _) ⟨rfl, rfl⟩
def yy_yr (v : Int32) : Bool := mc_wi v (-999) 999 && v != 0
theorem sp_y_isYear {w : mc_W} {v : Int32} : mc_D yX7_isYear cX7_isYear 1 (some .boolean) 2 [.int v] w (some (.int (mc_b (yy_yr v)))) w := by
  refine mc_start (own := RX7) (ini := false) rfl (by decide +kernel) (fun h => by cases h) (Nat.le_of_ble_eq_true rfl) ?_
  show mc_E _ _ _ _ _ [some (.int v)] [] _ _ _
  refine e_iloadn (pc := 0) dX7_isYear_0 rfl ?_
  refine e_sipush (v := -999) (pc := 1) dX7_isYear_1 (by decide) ?_
  refine e_sipush (v := 999) (pc := 4) dX7_isYear_4 (by decide) ?_
  refine e_csD (pc := 7) (sp_y_in) dX7_isYear_7 kX7_75 rfl rfl (mc_CR_of (Nat.le_of_ble_eq_true rfl) (Nat.le_of_ble_eq_true rfl) (Nat.le_refl _) (Nat.le_refl _)) (Nat.le_of_ble_eq_true rfl) ?_
  refine e_if_eq (pc := 10) dX7_isYear_10 (t := 21) (by decide) (fun c_10 => ?_) (fun c_10 => ?_)
  · skip
    refine e_iconst (v := 0) (pc := 21) dX7_isYear_21 (by decide) ?_
    exact e_zret (pc := 22) dX7_isYear_22 rfl (by rfl) (Nat.le_refl _) (Nat.le_refl _) ⟨(by first | rfl | (simp [mc_b, yy_yr, *]; done) | ((try simp only [mc_cmp_le, mc_cmp_ge, mc_cmp_eq, mc_cmp_lt, mc_cmp_gt, mc_b0, mc_b1, Bool.not_eq_false, Bool.not_eq_true] at *); (try simp only [← Int32.not_lt, ← Int64.not_lt, Classical.not_not] at *); simp [mc_b, yy_yr, *]; done) | (simp_all [mc_b, yy_yr, mc_b0]; done) | (simp_all [mc_b, yy_yr, Int32.le_iff_toInt_le, Int32.lt_iff_toInt_lt] <;> omega)), rfl⟩
  · skip
    refine e_iloadn (pc := 13) dX7_isYear_13 rfl ?_
    refine e_if_eq (pc := 14) dX7_isYear_14 (t := 21) (by decide) (fun c_14 => ?_) (fun c_14 => ?_)
    · skip
      refine e_iconst (v := 0) (pc := 21) dX7_isYear_21 (by decide) ?_
      exact e_zret (pc := 22) dX7_isYear_22 rfl (by rfl) (Nat.le_refl _) (Nat.le_refl _) ⟨(by first | rfl | (simp [mc_b, yy_yr, *]; done) | ((try simp only [mc_cmp_le, mc_cmp_ge, mc_cmp_eq, mc_cmp_lt, mc_cmp_gt, mc_b0, mc_b1, Bool.not_eq_false, Bool.not_eq_true] at *); (try simp only [← Int32.not_lt, ← Int64.not_lt, Classical.not_not] at *); simp [mc_b, yy_yr, *]; done) | (simp_all [mc_b, yy_yr, mc_b0]; done) | (simp_all [mc_b, yy_yr, Int32.le_iff_toInt_le, Int32.lt_iff_toInt_lt] <;> omega)), rfl⟩
    · skip
      refine e_iconst (v := 1) (pc := 17) dX7_isYear_17 (by decide) ?_
      refine e_goto (pc := 18) dX7_isYear_18 (t := 22) (by decide) ?_
      exact e_zret (pc := 22) dX7_isYear_22 rfl (by rfl) (Nat.le_refl _) (Nat.le_refl _) ⟨(by first | rfl | (simp [mc_b, yy_yr, *]; done) | ((try simp only [mc_cmp_le, mc_cmp_ge, mc_cmp_eq, mc_cmp_lt, mc_cmp_gt, mc_b0, mc_b1, Bool.not_eq_false, Bool.not_eq_true] at *); (try simp only [← Int32.not_lt, ← Int64.not_lt, Classical.not_not] at *); simp [mc_b, yy_yr, *]; done) | (simp_all [mc_b, yy_yr, mc_b0]; done) | (simp_all [mc_b, yy_yr, Int32.le_iff_toInt_le, Int32.lt_iff_toInt_lt] <;> omega)), rfl⟩
def yy_fo (f g : Int32) : Bool := mc_wi f 0 5 && mc_wi g 0 5 && f != g
theorem sp_y_areFolk {w : mc_W} {f g : Int32} : mc_D yX7_areFolk cX7_areFolk 2 (some .boolean) 2 [.int f, .int g] w (some (.int (mc_b (yy_fo f g)))) w := by
  refine mc_start (own := RX7) (ini := false) rfl (by decide +kernel) (fun h => by cases h) (Nat.le_of_ble_eq_true rfl) ?_
  show mc_E _ _ _ _ _ [some (.int f), some (.int g)] [] _ _ _
  refine e_iloadn (pc := 0) dX7_areFolk_0 rfl ?_
  refine e_iconst (v := 0) (pc := 1) dX7_areFolk_1 (by decide) ?_
  refine e_iconst (v := 5) (pc := 2) dX7_areFolk_2 (by decide) ?_
  refine e_csD (pc := 3) (sp_y_in) dX7_areFolk_3 kX7_75 rfl rfl (mc_CR_of (Nat.le_of_ble_eq_true rfl) (Nat.le_of_ble_eq_true rfl) (Nat.le_refl _) (Nat.le_refl _)) (Nat.le_of_ble_eq_true rfl) ?_
  refine e_if_eq (pc := 6) dX7_areFolk_6 (t := 27) (by decide) (fun c_6 => ?_) (fun c_6 => ?_)
  · skip
    refine e_iconst (v := 0) (pc := 27) dX7_areFolk_27 (by decide) ?_
    exact e_zret (pc := 28) dX7_areFolk_28 rfl (by rfl) (Nat.le_refl _) (Nat.le_refl _) ⟨(by first | rfl | (simp [mc_b, yy_fo, *]; done) | ((try simp only [mc_cmp_le, mc_cmp_ge, mc_cmp_eq, mc_cmp_lt, mc_cmp_gt, mc_b0, mc_b1, Bool.not_eq_false, Bool.not_eq_true] at *); (try simp only [← Int32.not_lt, ← Int64.not_lt, Classical.not_not] at *); simp [mc_b, yy_fo, *]; done) | (simp_all [mc_b, yy_fo, mc_b0]; done) | (simp_all [mc_b, yy_fo, Int32.le_iff_toInt_le, Int32.lt_iff_toInt_lt] <;> omega)), rfl⟩
  · skip
    refine e_iloadn (pc := 9) dX7_areFolk_9 rfl ?_
    refine e_iconst (v := 0) (pc := 10) dX7_areFolk_10 (by decide) ?_
    refine e_iconst (v := 5) (pc := 11) dX7_areFolk_11 (by decide) ?_
    refine e_csD (pc := 12) (sp_y_in) dX7_areFolk_12 kX7_75 rfl rfl (mc_CR_of (Nat.le_of_ble_eq_true rfl) (Nat.le_of_ble_eq_true rfl) (Nat.le_refl _) (Nat.le_refl _)) (Nat.le_of_ble_eq_true rfl) ?_
    refine e_if_eq (pc := 15) dX7_areFolk_15 (t := 27) (by decide) (fun c_15 => ?_) (fun c_15 => ?_)
    · skip
      refine e_iconst (v := 0) (pc := 27) dX7_areFolk_27 (by decide) ?_
      exact e_zret (pc := 28) dX7_areFolk_28 rfl (by rfl) (Nat.le_refl _) (Nat.le_refl _) ⟨(by first | rfl | (simp [mc_b, yy_fo, *]; done) | ((try simp only [mc_cmp_le, mc_cmp_ge, mc_cmp_eq, mc_cmp_lt, mc_cmp_gt, mc_b0, mc_b1, Bool.not_eq_false, Bool.not_eq_true] at *); (try simp only [← Int32.not_lt, ← Int64.not_lt, Classical.not_not] at *); simp [mc_b, yy_fo, *]; done) | (simp_all [mc_b, yy_fo, mc_b0]; done) | (simp_all [mc_b, yy_fo, Int32.le_iff_toInt_le, Int32.lt_iff_toInt_lt] <;> omega)), rfl⟩
    · skip
      refine e_iloadn (pc := 18) dX7_areFolk_18 rfl ?_
      refine e_iloadn (pc := 19) dX7_areFolk_19 rfl ?_
      refine e_icmp_eq (pc := 20) dX7_areFolk_20 (t := 27) (by decide) (fun c_20 => ?_) (fun c_20 => ?_)
      · skip
        refine e_iconst (v := 0) (pc := 27) dX7_areFolk_27 (by decide) ?_
        exact e_zret (pc := 28) dX7_areFolk_28 rfl (by rfl) (Nat.le_refl _) (Nat.le_refl _) ⟨(by first | rfl | (simp [mc_b, yy_fo, *]; done) | ((try simp only [mc_cmp_le, mc_cmp_ge, mc_cmp_eq, mc_cmp_lt, mc_cmp_gt, mc_b0, mc_b1, Bool.not_eq_false, Bool.not_eq_true] at *); (try simp only [← Int32.not_lt, ← Int64.not_lt, Classical.not_not] at *); simp [mc_b, yy_fo, *]; done) | (simp_all [mc_b, yy_fo, mc_b0]; done) | (simp_all [mc_b, yy_fo, Int32.le_iff_toInt_le, Int32.lt_iff_toInt_lt] <;> omega)), rfl⟩
      · skip
        refine e_iconst (v := 1) (pc := 23) dX7_areFolk_23 (by decide) ?_
        refine e_goto (pc := 24) dX7_areFolk_24 (t := 28) (by decide) ?_
        exact e_zret (pc := 28) dX7_areFolk_28 rfl (by rfl) (Nat.le_refl _) (Nat.le_refl _) ⟨(by first | rfl | (simp [mc_b, yy_fo, *]; done) | ((try simp only [mc_cmp_le, mc_cmp_ge, mc_cmp_eq, mc_cmp_lt, mc_cmp_gt, mc_b0, mc_b1, Bool.not_eq_false, Bool.not_eq_true] at *); (try simp only [← Int32.not_lt, ← Int64.not_lt, Classical.not_not] at *); simp [mc_b, yy_fo, *]; done) | (simp_all [mc_b, yy_fo, mc_b0]; done) | (simp_all [mc_b, yy_fo, Int32.le_iff_toInt_le, Int32.lt_iff_toInt_lt] <;> omega)), rfl⟩
def yy_le (x y : Int32) : Int32 := if x < y then x else y
theorem sp_y_least {w : mc_W} {x y : Int32} : mc_D yX7_least cX7_least 2 (some .int) 1 [.int x, .int y] w (some (.int (yy_le x y))) w := by
  refine mc_start (own := RX7) (ini := false) rfl (by decide +kernel) (fun h => by cases h) (Nat.le_of_ble_eq_true rfl) ?_
  show mc_E _ _ _ _ _ [some (.int x), some (.int y)] [] _ _ _
  refine e_iloadn (pc := 0) dX7_least_0 rfl ?_
  refine e_iloadn (pc := 1) dX7_least_1 rfl ?_
  refine e_icmp_ge (pc := 2) dX7_least_2 (t := 9) (by decide) (fun c_2 => ?_) (fun c_2 => ?_)
  · skip
    refine e_iloadn (pc := 9) dX7_least_9 rfl ?_
    exact e_iret (pc := 10) dX7_least_10 rfl (Nat.le_refl _) (Nat.le_refl _) ⟨(by first | rfl | (simp [yy_le, *]; done) | ((try simp only [mc_cmp_le, mc_cmp_ge, mc_cmp_eq, mc_cmp_lt, mc_cmp_gt, mc_b0, mc_b1, Bool.not_eq_false, Bool.not_eq_true] at *); (try simp only [← Int32.not_lt, ← Int64.not_lt, Classical.not_not] at *); simp [yy_le, *]; done) | (simp_all [yy_le, mc_b0]; done) | (simp_all [yy_le, Int32.le_iff_toInt_le, Int32.lt_iff_toInt_lt] <;> omega)), rfl⟩
  · skip
    refine e_iloadn (pc := 5) dX7_least_5 rfl ?_
    refine e_goto (pc := 6) dX7_least_6 (t := 10) (by decide) ?_
    exact e_iret (pc := 10) dX7_least_10 rfl (Nat.le_refl _) (Nat.le_refl _) ⟨(by first | rfl | (simp [yy_le, *]; done) | ((try simp only [mc_cmp_le, mc_cmp_ge, mc_cmp_eq, mc_cmp_lt, mc_cmp_gt, mc_b0, mc_b1, Bool.not_eq_false, Bool.not_eq_true] at *); (try simp only [← Int32.not_lt, ← Int64.not_lt, Classical.not_not] at *); simp [yy_le, *]; done) | (simp_all [yy_le, mc_b0]; done) | (simp_all [yy_le, Int32.le_iff_toInt_le, Int32.lt_iff_toInt_lt] <;> omega)), rfl⟩
def yy_az (y : Int32) : Int32 := if y < 0 then y + 1 else y
def yy_ay (n : Int32) : Int32 := if n < 1 then n - 1 else n
theorem sp_y_asIfZero {w : mc_W} {y : Int32} : mc_D yX7_asIfZero cX7_asIfZero 1 (some .int) 1 [.int y] w (some (.int (yy_az y))) w := by
  refine mc_start (own := RX7) (ini := false) rfl (by decide +kernel) (fun h => by cases h) (Nat.le_of_ble_eq_true rfl) ?_
  show mc_E _ _ _ _ _ [some (.int y)] [] _ _ _
  refine e_iloadn (pc := 0) dX7_asIfZero_0 rfl ?_
  refine e_if_ge (pc := 1) dX7_asIfZero_1 (t := 10) (by decide) (fun c_1 => ?_) (fun c_1 => ?_)
  · skip
    refine e_iloadn (pc := 10) dX7_asIfZero_10 rfl ?_
    exact e_iret (pc := 11) dX7_asIfZero_11 rfl (Nat.le_refl _) (Nat.le_refl _) ⟨(by first | rfl | (simp [yy_az, *]; done) | ((try simp only [mc_cmp_le, mc_cmp_ge, mc_cmp_eq, mc_cmp_lt, mc_cmp_gt, mc_b0, mc_b1, Bool.not_eq_false, Bool.not_eq_true] at *); (try simp only [← Int32.not_lt, ← Int64.not_lt, Classical.not_not] at *); simp [yy_az, *]; done) | (simp_all [yy_az, mc_b0]; done) | (simp_all [yy_az, Int32.le_iff_toInt_le, Int32.lt_iff_toInt_lt] <;> omega)), rfl⟩
  · skip
    refine e_iloadn (pc := 4) dX7_asIfZero_4 rfl ?_
    refine e_iconst (v := 1) (pc := 5) dX7_asIfZero_5 (by decide) ?_
    refine e_iadd (pc := 6) dX7_asIfZero_6 ?_
    refine e_goto (pc := 7) dX7_asIfZero_7 (t := 11) (by decide) ?_
    exact e_iret (pc := 11) dX7_asIfZero_11 rfl (Nat.le_refl _) (Nat.le_refl _) ⟨(by first | rfl | (simp [yy_az, *]; done) | ((try simp only [mc_cmp_le, mc_cmp_ge, mc_cmp_eq, mc_cmp_lt, mc_cmp_gt, mc_b0, mc_b1, Bool.not_eq_false, Bool.not_eq_true] at *); (try simp only [← Int32.not_lt, ← Int64.not_lt, Classical.not_not] at *); simp [yy_az, *]; done) | (simp_all [yy_az, mc_b0]; done) | (simp_all [yy_az, Int32.le_iff_toInt_le, Int32.lt_iff_toInt_lt] <;> omega)), rfl⟩
theorem sp_y_asYear {w : mc_W} {y : Int32} : mc_D yX7_asYear cX7_asYear 1 (some .int) 1 [.int y] w (some (.int (yy_ay y))) w := by
  refine mc_start (own := RX7) (ini := false) rfl (by decide +kernel) (fun h => by cases h) (Nat.le_of_ble_eq_true rfl) ?_
  show mc_E _ _ _ _ _ [some (.int y)] [] _ _ _
  refine e_iloadn (pc := 0) dX7_asYear_0 rfl ?_
  refine e_iconst (v := 1) (pc := 1) dX7_asYear_1 (by decide) ?_
  refine e_icmp_ge (pc := 2) dX7_asYear_2 (t := 11) (by decide) (fun c_2 => ?_) (fun c_2 => ?_)
  · skip
    refine e_iloadn (pc := 11) dX7_asYear_11 rfl ?_
    exact e_iret (pc := 12) dX7_asYear_12 rfl (Nat.le_refl _) (Nat.le_refl _) ⟨(by first | rfl | (simp [yy_ay, *]; done) | ((try simp only [mc_cmp_le, mc_cmp_ge, mc_cmp_eq, mc_cmp_lt, mc_cmp_gt, mc_b0, mc_b1, Bool.not_eq_false, Bool.not_eq_true] at *); (try simp only [← Int32.not_lt, ← Int64.not_lt, Classical.not_not] at *); simp [yy_ay, *]; done) | (simp_all [yy_ay, mc_b0]; done) | (simp_all [yy_ay, Int32.le_iff_toInt_le, Int32.lt_iff_toInt_lt] <;> omega)), rfl⟩
  · skip
    refine e_iloadn (pc := 5) dX7_asYear_5 rfl ?_
    refine e_iconst (v := 1) (pc := 6) dX7_asYear_6 (by decide) ?_
    refine e_isub (pc := 7) dX7_asYear_7 ?_
    refine e_goto (pc := 8) dX7_asYear_8 (t := 12) (by decide) ?_
    exact e_iret (pc := 12) dX7_asYear_12 rfl (Nat.le_refl _) (Nat.le_refl _) ⟨(by first | rfl | (simp [yy_ay, *]; done) | ((try simp only [mc_cmp_le, mc_cmp_ge, mc_cmp_eq, mc_cmp_lt, mc_cmp_gt, mc_b0, mc_b1, Bool.not_eq_false, Bool.not_eq_true] at *); (try simp only [← Int32.not_lt, ← Int64.not_lt, Classical.not_not] at *); simp [yy_ay, *]; done) | (simp_all [yy_ay, mc_b0]; done) | (simp_all [yy_ay, Int32.le_iff_toInt_le, Int32.lt_iff_toInt_lt] <;> omega)), rfl⟩
def yy_gr (v : Int64) : Int32 := if 99999 < v then 99999 else v.toInt32
theorem sp_y_great {w : mc_W} {v : Int64} : mc_D yX7_great cX7_great 2 (some .int) 1 [.long v] w (some (.int (yy_gr v))) w := by
  refine mc_start (own := RX7) (ini := false) rfl (by decide +kernel) (fun h => by cases h) (Nat.le_of_ble_eq_true rfl) ?_
  show mc_E _ _ _ _ _ [some (.long v), none] [] _ _ _
  refine e_lloadn (pc := 0) dX7_great_0 rfl ?_
  refine e_ldc2 (pc := 1) dX7_great_1 qX7_212 ?_
  refine e_lcmp (pc := 4) dX7_great_4 ?_
  refine e_if_le (pc := 5) dX7_great_5 (t := 13) (by decide) (fun c_5 => ?_) (fun c_5 => ?_)
  · skip
    refine e_lloadn (pc := 13) dX7_great_13 rfl ?_
    refine e_l2i (pc := 14) dX7_great_14 ?_
    exact e_iret (pc := 15) dX7_great_15 rfl (Nat.le_refl _) (Nat.le_refl _) ⟨(by first | rfl | (simp [yy_gr, mc_cmp_le, *]; done) | ((try simp only [mc_cmp_le, mc_cmp_ge, mc_cmp_eq, mc_cmp_lt, mc_cmp_gt, mc_b0, mc_b1, Bool.not_eq_false, Bool.not_eq_true] at *); (try simp only [← Int32.not_lt, ← Int64.not_lt, Classical.not_not] at *); simp [yy_gr, mc_cmp_le, *]; done) | (simp_all [yy_gr, mc_cmp_le, mc_b0]; done) | (simp_all [yy_gr, mc_cmp_le, Int32.le_iff_toInt_le, Int32.lt_iff_toInt_lt] <;> omega)), rfl⟩
  · skip
    refine e_ldc (pc := 8) dX7_great_8 qX7_79 ?_
    refine e_goto (pc := 10) dX7_great_10 (t := 15) (by decide) ?_
    exact e_iret (pc := 15) dX7_great_15 rfl (Nat.le_refl _) (Nat.le_refl _) ⟨(by first | rfl | (simp [yy_gr, mc_cmp_le, *]; done) | ((try simp only [mc_cmp_le, mc_cmp_ge, mc_cmp_eq, mc_cmp_lt, mc_cmp_gt, mc_b0, mc_b1, Bool.not_eq_false, Bool.not_eq_true] at *); (try simp only [← Int32.not_lt, ← Int64.not_lt, Classical.not_not] at *); simp [yy_gr, mc_cmp_le, *]; done) | (simp_all [yy_gr, mc_cmp_le, mc_b0]; done) | (simp_all [yy_gr, mc_cmp_le, Int32.le_iff_toInt_le, Int32.lt_iff_toInt_lt] <;> omega)), rfl⟩
def yy_un (k f : Int32) : Bool := f == 0 || k == f || (f == 1 && k == 3) || (f == 2 && k == 4)
theorem sp_y_isUnder {w : mc_W} {k f : Int32} : mc_D yX7_isUnder cX7_isUnder 2 (some .boolean) 1 [.int k, .int f] w (some (.int (mc_b (yy_un k f)))) w := by
  refine mc_start (own := RX7) (ini := false) rfl (by decide +kernel) (fun h => by cases h) (Nat.le_of_ble_eq_true rfl) ?_
  show mc_E _ _ _ _ _ [some (.int k), some (.int f)] [] _ _ _
  refine e_iloadn (pc := 0) dX7_isUnder_0 rfl ?_
  refine e_if_eq (pc := 1) dX7_isUnder_1 (t := 29) (by decide) (fun c_1 => ?_) (fun c_1 => ?_)
  · skip
    refine e_iconst (v := 1) (pc := 29) dX7_isUnder_29 (by decide) ?_
    refine e_goto (pc := 30) dX7_isUnder_30 (t := 34) (by decide) ?_
    exact e_zret (pc := 34) dX7_isUnder_34 rfl (by rfl) (Nat.le_refl _) (Nat.le_refl _) ⟨(by first | rfl | (simp [mc_b, yy_un, *]; done) | ((try simp only [mc_cmp_le, mc_cmp_ge, mc_cmp_eq, mc_cmp_lt, mc_cmp_gt, mc_b0, mc_b1, Bool.not_eq_false, Bool.not_eq_true] at *); (try simp only [← Int32.not_lt, ← Int64.not_lt, Classical.not_not] at *); simp [mc_b, yy_un, *]; done) | (simp_all [mc_b, yy_un, mc_b0]; done) | (simp_all [mc_b, yy_un, Int32.le_iff_toInt_le, Int32.lt_iff_toInt_lt] <;> omega)), rfl⟩
  · skip
    refine e_iloadn (pc := 4) dX7_isUnder_4 rfl ?_
    refine e_iloadn (pc := 5) dX7_isUnder_5 rfl ?_
    refine e_icmp_eq (pc := 6) dX7_isUnder_6 (t := 29) (by decide) (fun c_6 => ?_) (fun c_6 => ?_)
    · skip
      refine e_iconst (v := 1) (pc := 29) dX7_isUnder_29 (by decide) ?_
      refine e_goto (pc := 30) dX7_isUnder_30 (t := 34) (by decide) ?_
      exact e_zret (pc := 34) dX7_isUnder_34 rfl (by rfl) (Nat.le_refl _) (Nat.le_refl _) ⟨(by first | rfl | (simp [mc_b, yy_un, *]; done) | ((try simp only [mc_cmp_le, mc_cmp_ge, mc_cmp_eq, mc_cmp_lt, mc_cmp_gt, mc_b0, mc_b1, Bool.not_eq_false, Bool.not_eq_true] at *); (try simp only [← Int32.not_lt, ← Int64.not_lt, Classical.not_not] at *); simp [mc_b, yy_un, *]; done) | (simp_all [mc_b, yy_un, mc_b0]; done) | (simp_all [mc_b, yy_un, Int32.le_iff_toInt_le, Int32.lt_iff_toInt_lt] <;> omega)), rfl⟩
    · skip
      refine e_iloadn (pc := 9) dX7_isUnder_9 rfl ?_
      refine e_iconst (v := 1) (pc := 10) dX7_isUnder_10 (by decide) ?_
      refine e_icmp_ne (pc := 11) dX7_isUnder_11 (t := 19) (by decide) (fun c_11 => ?_) (fun c_11 => ?_)
      · skip
        refine e_iloadn (pc := 19) dX7_isUnder_19 rfl ?_
        refine e_iconst (v := 2) (pc := 20) dX7_isUnder_20 (by decide) ?_
        refine e_icmp_ne (pc := 21) dX7_isUnder_21 (t := 33) (by decide) (fun c_21 => ?_) (fun c_21 => ?_)
        · skip
          refine e_iconst (v := 0) (pc := 33) dX7_isUnder_33 (by decide) ?_
          exact e_zret (pc := 34) dX7_isUnder_34 rfl (by rfl) (Nat.le_refl _) (Nat.le_refl _) ⟨(by first | rfl | (simp [mc_b, yy_un, *]; done) | ((try simp only [mc_cmp_le, mc_cmp_ge, mc_cmp_eq, mc_cmp_lt, mc_cmp_gt, mc_b0, mc_b1, Bool.not_eq_false, Bool.not_eq_true] at *); (try simp only [← Int32.not_lt, ← Int64.not_lt, Classical.not_not] at *); simp [mc_b, yy_un, *]; done) | (simp_all [mc_b, yy_un, mc_b0]; done) | (simp_all [mc_b, yy_un, Int32.le_iff_toInt_le, Int32.lt_iff_toInt_lt] <;> omega)), rfl⟩
        · skip
          refine e_iloadn (pc := 24) dX7_isUnder_24 rfl ?_
          refine e_iconst (v := 4) (pc := 25) dX7_isUnder_25 (by decide) ?_
          refine e_icmp_ne (pc := 26) dX7_isUnder_26 (t := 33) (by decide) (fun c_26 => ?_) (fun c_26 => ?_)
          · skip
            refine e_iconst (v := 0) (pc := 33) dX7_isUnder_33 (by decide) ?_
            exact e_zret (pc := 34) dX7_isUnder_34 rfl (by rfl) (Nat.le_refl _) (Nat.le_refl _) ⟨(by first | rfl | (simp [mc_b, yy_un, *]; done) | ((try simp only [mc_cmp_le, mc_cmp_ge, mc_cmp_eq, mc_cmp_lt, mc_cmp_gt, mc_b0, mc_b1, Bool.not_eq_false, Bool.not_eq_true] at *); (try simp only [← Int32.not_lt, ← Int64.not_lt, Classical.not_not] at *); simp [mc_b, yy_un, *]; done) | (simp_all [mc_b, yy_un, mc_b0]; done) | (simp_all [mc_b, yy_un, Int32.le_iff_toInt_le, Int32.lt_iff_toInt_lt] <;> omega)), rfl⟩
          · skip
            refine e_iconst (v := 1) (pc := 29) dX7_isUnder_29 (by decide) ?_
            refine e_goto (pc := 30) dX7_isUnder_30 (t := 34) (by decide) ?_
            exact e_zret (pc := 34) dX7_isUnder_34 rfl (by rfl) (Nat.le_refl _) (Nat.le_refl _) ⟨(by first | rfl | (simp [mc_b, yy_un, *]; done) | ((try simp only [mc_cmp_le, mc_cmp_ge, mc_cmp_eq, mc_cmp_lt, mc_cmp_gt, mc_b0, mc_b1, Bool.not_eq_false, Bool.not_eq_true] at *); (try simp only [← Int32.not_lt, ← Int64.not_lt, Classical.not_not] at *); simp [mc_b, yy_un, *]; done) | (simp_all [mc_b, yy_un, mc_b0]; done) | (simp_all [mc_b, yy_un, Int32.le_iff_toInt_le, Int32.lt_iff_toInt_lt] <;> omega)), rfl⟩
      · skip
        refine e_iloadn (pc := 14) dX7_isUnder_14 rfl ?_
        refine e_iconst (v := 3) (pc := 15) dX7_isUnder_15 (by decide) ?_
        refine e_icmp_eq (pc := 16) dX7_isUnder_16 (t := 29) (by decide) (fun c_16 => ?_) (fun c_16 => ?_)
        · skip
          refine e_iconst (v := 1) (pc := 29) dX7_isUnder_29 (by decide) ?_
          refine e_goto (pc := 30) dX7_isUnder_30 (t := 34) (by decide) ?_
          exact e_zret (pc := 34) dX7_isUnder_34 rfl (by rfl) (Nat.le_refl _) (Nat.le_refl _) ⟨(by first | rfl | (simp [mc_b, yy_un, *]; done) | ((try simp only [mc_cmp_le, mc_cmp_ge, mc_cmp_eq, mc_cmp_lt, mc_cmp_gt, mc_b0, mc_b1, Bool.not_eq_false, Bool.not_eq_true] at *); (try simp only [← Int32.not_lt, ← Int64.not_lt, Classical.not_not] at *); simp [mc_b, yy_un, *]; done) | (simp_all [mc_b, yy_un, mc_b0]; done) | (simp_all [mc_b, yy_un, Int32.le_iff_toInt_le, Int32.lt_iff_toInt_lt] <;> omega)), rfl⟩
        · skip
          refine e_iloadn (pc := 19) dX7_isUnder_19 rfl ?_
          refine e_iconst (v := 2) (pc := 20) dX7_isUnder_20 (by decide) ?_
          refine e_icmp_ne (pc := 21) dX7_isUnder_21 (t := 33) (by decide) (fun c_21 => ?_) (fun c_21 => ?_)
          · skip
            refine e_iconst (v := 0) (pc := 33) dX7_isUnder_33 (by decide) ?_
            exact e_zret (pc := 34) dX7_isUnder_34 rfl (by rfl) (Nat.le_refl _) (Nat.le_refl _) ⟨(by first | rfl | (simp [mc_b, yy_un, *]; done) | ((try simp only [mc_cmp_le, mc_cmp_ge, mc_cmp_eq, mc_cmp_lt, mc_cmp_gt, mc_b0, mc_b1, Bool.not_eq_false, Bool.not_eq_true] at *); (try simp only [← Int32.not_lt, ← Int64.not_lt, Classical.not_not] at *); simp [mc_b, yy_un, *]; done) | (simp_all [mc_b, yy_un, mc_b0]; done) | (simp_all [mc_b, yy_un, Int32.le_iff_toInt_le, Int32.lt_iff_toInt_lt] <;> omega)), rfl⟩
          · skip
            refine e_iloadn (pc := 24) dX7_isUnder_24 rfl ?_
            refine e_iconst (v := 4) (pc := 25) dX7_isUnder_25 (by decide) ?_
            refine e_icmp_ne (pc := 26) dX7_isUnder_26 (t := 33) (by decide) (fun c_26 => ?_) (fun c_26 => ?_)
            · skip
              refine e_iconst (v := 0) (pc := 33) dX7_isUnder_33 (by decide) ?_
              exact e_zret (pc := 34) dX7_isUnder_34 rfl (by rfl) (Nat.le_refl _) (Nat.le_refl _) ⟨(by first | rfl | (simp [mc_b, yy_un, *]; done) | ((try simp only [mc_cmp_le, mc_cmp_ge, mc_cmp_eq, mc_cmp_lt, mc_cmp_gt, mc_b0, mc_b1, Bool.not_eq_false, Bool.not_eq_true] at *); (try simp only [← Int32.not_lt, ← Int64.not_lt, Classical.not_not] at *); simp [mc_b, yy_un, *]; done) | (simp_all [mc_b, yy_un, mc_b0]; done) | (simp_all [mc_b, yy_un, Int32.le_iff_toInt_le, Int32.lt_iff_toInt_lt] <;> omega)), rfl⟩
            · skip
              refine e_iconst (v := 1) (pc := 29) dX7_isUnder_29 (by decide) ?_
              refine e_goto (pc := 30) dX7_isUnder_30 (t := 34) (by decide) ?_
              exact e_zret (pc := 34) dX7_isUnder_34 rfl (by rfl) (Nat.le_refl _) (Nat.le_refl _) ⟨(by first | rfl | (simp [mc_b, yy_un, *]; done) | ((try simp only [mc_cmp_le, mc_cmp_ge, mc_cmp_eq, mc_cmp_lt, mc_cmp_gt, mc_b0, mc_b1, Bool.not_eq_false, Bool.not_eq_true] at *); (try simp only [← Int32.not_lt, ← Int64.not_lt, Classical.not_not] at *); simp [mc_b, yy_un, *]; done) | (simp_all [mc_b, yy_un, mc_b0]; done) | (simp_all [mc_b, yy_un, Int32.le_iff_toInt_le, Int32.lt_iff_toInt_lt] <;> omega)), rfl⟩
def yy_rk (x : Int32) : Int32 := if x = 0 then 0 else if x = 11 then 1 else if x = 12 then 2 else if x = 13 then 3 else if 15 < x then (if 17 < x then (if x = 18 then 6 else 7) else 5) else 4
theorem sp_y_rank {w : mc_W} {x : Int32} : mc_D yX7_rank cX7_rank 1 (some .int) 1 [.int x] w (some (.int (yy_rk x))) w := by
  refine mc_start (own := RX7) (ini := false) rfl (by decide +kernel) (fun h => by cases h) (Nat.le_of_ble_eq_true rfl) ?_
  show mc_E _ _ _ _ _ [some (.int x)] [] _ _ _
  refine e_iloadn (pc := 0) dX7_rank_0 rfl ?_
  refine e_if_ne (pc := 1) dX7_rank_1 (t := 8) (by decide) (fun c_1 => ?_) (fun c_1 => ?_)
  · skip
    refine e_iloadn (pc := 8) dX7_rank_8 rfl ?_
    refine e_bipush (v := 11) (pc := 9) dX7_rank_9 (by decide) ?_
    refine e_icmp_ne (pc := 11) dX7_rank_11 (t := 18) (by decide) (fun c_11 => ?_) (fun c_11 => ?_)
    · skip
      refine e_iloadn (pc := 18) dX7_rank_18 rfl ?_
      refine e_bipush (v := 12) (pc := 19) dX7_rank_19 (by decide) ?_
      refine e_icmp_ne (pc := 21) dX7_rank_21 (t := 28) (by decide) (fun c_21 => ?_) (fun c_21 => ?_)
      · skip
        refine e_iloadn (pc := 28) dX7_rank_28 rfl ?_
        refine e_bipush (v := 13) (pc := 29) dX7_rank_29 (by decide) ?_
        refine e_icmp_ne (pc := 31) dX7_rank_31 (t := 38) (by decide) (fun c_31 => ?_) (fun c_31 => ?_)
        · skip
          refine e_iloadn (pc := 38) dX7_rank_38 rfl ?_
          refine e_bipush (v := 15) (pc := 39) dX7_rank_39 (by decide) ?_
          refine e_icmp_gt (pc := 41) dX7_rank_41 (t := 48) (by decide) (fun c_41 => ?_) (fun c_41 => ?_)
          · skip
            refine e_iloadn (pc := 48) dX7_rank_48 rfl ?_
            refine e_bipush (v := 17) (pc := 49) dX7_rank_49 (by decide) ?_
            refine e_icmp_gt (pc := 51) dX7_rank_51 (t := 58) (by decide) (fun c_51 => ?_) (fun c_51 => ?_)
            · skip
              refine e_iloadn (pc := 58) dX7_rank_58 rfl ?_
              refine e_bipush (v := 18) (pc := 59) dX7_rank_59 (by decide) ?_
              refine e_icmp_ne (pc := 61) dX7_rank_61 (t := 69) (by decide) (fun c_61 => ?_) (fun c_61 => ?_)
              · skip
                refine e_bipush (v := 7) (pc := 69) dX7_rank_69 (by decide) ?_
                exact e_iret (pc := 71) dX7_rank_71 rfl (Nat.le_refl _) (Nat.le_refl _) ⟨(by first | rfl | (simp [yy_rk, *]; done) | ((try simp only [mc_cmp_le, mc_cmp_ge, mc_cmp_eq, mc_cmp_lt, mc_cmp_gt, mc_b0, mc_b1, Bool.not_eq_false, Bool.not_eq_true] at *); (try simp only [← Int32.not_lt, ← Int64.not_lt, Classical.not_not] at *); simp [yy_rk, *]; done) | (simp_all [yy_rk, mc_b0]; done) | (simp_all [yy_rk, Int32.le_iff_toInt_le, Int32.lt_iff_toInt_lt] <;> omega)), rfl⟩
              · skip
                refine e_bipush (v := 6) (pc := 64) dX7_rank_64 (by decide) ?_
                refine e_goto (pc := 66) dX7_rank_66 (t := 71) (by decide) ?_
                exact e_iret (pc := 71) dX7_rank_71 rfl (Nat.le_refl _) (Nat.le_refl _) ⟨(by first | rfl | (simp [yy_rk, *]; done) | ((try simp only [mc_cmp_le, mc_cmp_ge, mc_cmp_eq, mc_cmp_lt, mc_cmp_gt, mc_b0, mc_b1, Bool.not_eq_false, Bool.not_eq_true] at *); (try simp only [← Int32.not_lt, ← Int64.not_lt, Classical.not_not] at *); simp [yy_rk, *]; done) | (simp_all [yy_rk, mc_b0]; done) | (simp_all [yy_rk, Int32.le_iff_toInt_le, Int32.lt_iff_toInt_lt] <;> omega)), rfl⟩
            · skip
              refine e_iconst (v := 5) (pc := 54) dX7_rank_54 (by decide) ?_
              refine e_goto (pc := 55) dX7_rank_55 (t := 71) (by decide) ?_
              exact e_iret (pc := 71) dX7_rank_71 rfl (Nat.le_refl _) (Nat.le_refl _) ⟨(by first | rfl | (simp [yy_rk, *]; done) | ((try simp only [mc_cmp_le, mc_cmp_ge, mc_cmp_eq, mc_cmp_lt, mc_cmp_gt, mc_b0, mc_b1, Bool.not_eq_false, Bool.not_eq_true] at *); (try simp only [← Int32.not_lt, ← Int64.not_lt, Classical.not_not] at *); simp [yy_rk, *]; done) | (simp_all [yy_rk, mc_b0]; done) | (simp_all [yy_rk, Int32.le_iff_toInt_le, Int32.lt_iff_toInt_lt] <;> omega)), rfl⟩
          · skip
            refine e_iconst (v := 4) (pc := 44) dX7_rank_44 (by decide) ?_
            refine e_goto (pc := 45) dX7_rank_45 (t := 71) (by decide) ?_
            exact e_iret (pc := 71) dX7_rank_71 rfl (Nat.le_refl _) (Nat.le_refl _) ⟨(by first | rfl | (simp [yy_rk, *]; done) | ((try simp only [mc_cmp_le, mc_cmp_ge, mc_cmp_eq, mc_cmp_lt, mc_cmp_gt, mc_b0, mc_b1, Bool.not_eq_false, Bool.not_eq_true] at *); (try simp only [← Int32.not_lt, ← Int64.not_lt, Classical.not_not] at *); simp [yy_rk, *]; done) | (simp_all [yy_rk, mc_b0]; done) | (simp_all [yy_rk, Int32.le_iff_toInt_le, Int32.lt_iff_toInt_lt] <;> omega)), rfl⟩
        · skip
          refine e_iconst (v := 3) (pc := 34) dX7_rank_34 (by decide) ?_
          refine e_goto (pc := 35) dX7_rank_35 (t := 71) (by decide) ?_
          exact e_iret (pc := 71) dX7_rank_71 rfl (Nat.le_refl _) (Nat.le_refl _) ⟨(by first | rfl | (simp [yy_rk, *]; done) | ((try simp only [mc_cmp_le, mc_cmp_ge, mc_cmp_eq, mc_cmp_lt, mc_cmp_gt, mc_b0, mc_b1, Bool.not_eq_false, Bool.not_eq_true] at *); (try simp only [← Int32.not_lt, ← Int64.not_lt, Classical.not_not] at *); simp [yy_rk, *]; done) | (simp_all [yy_rk, mc_b0]; done) | (simp_all [yy_rk, Int32.le_iff_toInt_le, Int32.lt_iff_toInt_lt] <;> omega)), rfl⟩
      · skip
        refine e_iconst (v := 2) (pc := 24) dX7_rank_24 (by decide) ?_
        refine e_goto (pc := 25) dX7_rank_25 (t := 71) (by decide) ?_
        exact e_iret (pc := 71) dX7_rank_71 rfl (Nat.le_refl _) (Nat.le_refl _) ⟨(by first | rfl | (simp [yy_rk, *]; done) | ((try simp only [mc_cmp_le, mc_cmp_ge, mc_cmp_eq, mc_cmp_lt, mc_cmp_gt, mc_b0, mc_b1, Bool.not_eq_false, Bool.not_eq_true] at *); (try simp only [← Int32.not_lt, ← Int64.not_lt, Classical.not_not] at *); simp [yy_rk, *]; done) | (simp_all [yy_rk, mc_b0]; done) | (simp_all [yy_rk, Int32.le_iff_toInt_le, Int32.lt_iff_toInt_lt] <;> omega)), rfl⟩
    · skip
      refine e_iconst (v := 1) (pc := 14) dX7_rank_14 (by decide) ?_
      refine e_goto (pc := 15) dX7_rank_15 (t := 71) (by decide) ?_
      exact e_iret (pc := 71) dX7_rank_71 rfl (Nat.le_refl _) (Nat.le_refl _) ⟨(by first | rfl | (simp [yy_rk, *]; done) | ((try simp only [mc_cmp_le, mc_cmp_ge, mc_cmp_eq, mc_cmp_lt, mc_cmp_gt, mc_b0, mc_b1, Bool.not_eq_false, Bool.not_eq_true] at *); (try simp only [← Int32.not_lt, ← Int64.not_lt, Classical.not_not] at *); simp [yy_rk, *]; done) | (simp_all [yy_rk, mc_b0]; done) | (simp_all [yy_rk, Int32.le_iff_toInt_le, Int32.lt_iff_toInt_lt] <;> omega)), rfl⟩
  · skip
    refine e_iconst (v := 0) (pc := 4) dX7_rank_4 (by decide) ?_
    refine e_goto (pc := 5) dX7_rank_5 (t := 71) (by decide) ?_
    exact e_iret (pc := 71) dX7_rank_71 rfl (Nat.le_refl _) (Nat.le_refl _) ⟨(by first | rfl | (simp [yy_rk, *]; done) | ((try simp only [mc_cmp_le, mc_cmp_ge, mc_cmp_eq, mc_cmp_lt, mc_cmp_gt, mc_b0, mc_b1, Bool.not_eq_false, Bool.not_eq_true] at *); (try simp only [← Int32.not_lt, ← Int64.not_lt, Classical.not_not] at *); simp [yy_rk, *]; done) | (simp_all [yy_rk, mc_b0]; done) | (simp_all [yy_rk, Int32.le_iff_toInt_le, Int32.lt_iff_toInt_lt] <;> omega)), rfl⟩
def yy_two (k x y : Int32) : Int32 := if k = 11 then mc_b (x != 0 || y != 0) else if k = 12 then mc_b (x != 0 && y != 0) else if k = 14 then mc_b (decide (x < y)) else if k = 15 then mc_b (x == y) else if k = 16 then x + y else if k = 17 then x - y else x * y
theorem sp_y_two {w : mc_W} {k x y : Int32} : mc_D yX7_two cX7_two 3 (some .int) 1 [.int k, .int x, .int y] w (some (.int (yy_two k x y))) w := by
  refine mc_start (own := RX7) (ini := false) rfl (by decide +kernel) (fun h => by cases h) (Nat.le_of_ble_eq_true rfl) ?_
  show mc_E _ _ _ _ _ [some (.int k), some (.int x), some (.int y)] [] _ _ _
  refine e_iloadn (pc := 0) dX7_two_0 rfl ?_
  by_cases hs_1_11 : k = 11
  · rw [hs_1_11]
    refine e_tabIn (pc := 1) (t := 44) dX7_two_1 (by decide) (by decide) rfl (by decide) ?_
    refine e_iloadn (pc := 44) dX7_two_44 rfl ?_
    refine e_if_ne (pc := 45) dX7_two_45 (t := 52) (by decide) (fun c_45 => ?_) (fun c_45 => ?_)
    · skip
      refine e_iconst (v := 1) (pc := 52) dX7_two_52 (by decide) ?_
      refine e_goto (pc := 53) dX7_two_53 (t := 57) (by decide) ?_
      exact e_iret (pc := 57) dX7_two_57 rfl (Nat.le_refl _) (Nat.le_refl _) ⟨(by first | rfl | (simp [yy_two, mc_b, *]; done) | ((try simp only [mc_cmp_le, mc_cmp_ge, mc_cmp_eq, mc_cmp_lt, mc_cmp_gt, mc_b0, mc_b1, Bool.not_eq_false, Bool.not_eq_true] at *); (try simp only [← Int32.not_lt, ← Int64.not_lt, Classical.not_not] at *); simp [yy_two, mc_b, *]; done) | (simp_all [yy_two, mc_b, mc_b0]; done) | (simp_all [yy_two, mc_b, Int32.le_iff_toInt_le, Int32.lt_iff_toInt_lt] <;> omega)), rfl⟩
    · skip
      refine e_iloadn (pc := 48) dX7_two_48 rfl ?_
      refine e_if_eq (pc := 49) dX7_two_49 (t := 56) (by decide) (fun c_49 => ?_) (fun c_49 => ?_)
      · skip
        refine e_iconst (v := 0) (pc := 56) dX7_two_56 (by decide) ?_
        exact e_iret (pc := 57) dX7_two_57 rfl (Nat.le_refl _) (Nat.le_refl _) ⟨(by first | rfl | (simp [yy_two, mc_b, *]; done) | ((try simp only [mc_cmp_le, mc_cmp_ge, mc_cmp_eq, mc_cmp_lt, mc_cmp_gt, mc_b0, mc_b1, Bool.not_eq_false, Bool.not_eq_true] at *); (try simp only [← Int32.not_lt, ← Int64.not_lt, Classical.not_not] at *); simp [yy_two, mc_b, *]; done) | (simp_all [yy_two, mc_b, mc_b0]; done) | (simp_all [yy_two, mc_b, Int32.le_iff_toInt_le, Int32.lt_iff_toInt_lt] <;> omega)), rfl⟩
      · skip
        refine e_iconst (v := 1) (pc := 52) dX7_two_52 (by decide) ?_
        refine e_goto (pc := 53) dX7_two_53 (t := 57) (by decide) ?_
        exact e_iret (pc := 57) dX7_two_57 rfl (Nat.le_refl _) (Nat.le_refl _) ⟨(by first | rfl | (simp [yy_two, mc_b, *]; done) | ((try simp only [mc_cmp_le, mc_cmp_ge, mc_cmp_eq, mc_cmp_lt, mc_cmp_gt, mc_b0, mc_b1, Bool.not_eq_false, Bool.not_eq_true] at *); (try simp only [← Int32.not_lt, ← Int64.not_lt, Classical.not_not] at *); simp [yy_two, mc_b, *]; done) | (simp_all [yy_two, mc_b, mc_b0]; done) | (simp_all [yy_two, mc_b, Int32.le_iff_toInt_le, Int32.lt_iff_toInt_lt] <;> omega)), rfl⟩
  by_cases hs_1_12 : k = 12
  · rw [hs_1_12]
    refine e_tabIn (pc := 1) (t := 58) dX7_two_1 (by decide) (by decide) rfl (by decide) ?_
    refine e_iloadn (pc := 58) dX7_two_58 rfl ?_
    refine e_if_eq (pc := 59) dX7_two_59 (t := 70) (by decide) (fun c_59 => ?_) (fun c_59 => ?_)
    · skip
      refine e_iconst (v := 0) (pc := 70) dX7_two_70 (by decide) ?_
      exact e_iret (pc := 71) dX7_two_71 rfl (Nat.le_refl _) (Nat.le_refl _) ⟨(by first | rfl | (simp [yy_two, mc_b, *]; done) | ((try simp only [mc_cmp_le, mc_cmp_ge, mc_cmp_eq, mc_cmp_lt, mc_cmp_gt, mc_b0, mc_b1, Bool.not_eq_false, Bool.not_eq_true] at *); (try simp only [← Int32.not_lt, ← Int64.not_lt, Classical.not_not] at *); simp [yy_two, mc_b, *]; done) | (simp_all [yy_two, mc_b, mc_b0]; done) | (simp_all [yy_two, mc_b, Int32.le_iff_toInt_le, Int32.lt_iff_toInt_lt] <;> omega)), rfl⟩
    · skip
      refine e_iloadn (pc := 62) dX7_two_62 rfl ?_
      refine e_if_eq (pc := 63) dX7_two_63 (t := 70) (by decide) (fun c_63 => ?_) (fun c_63 => ?_)
      · skip
        refine e_iconst (v := 0) (pc := 70) dX7_two_70 (by decide) ?_
        exact e_iret (pc := 71) dX7_two_71 rfl (Nat.le_refl _) (Nat.le_refl _) ⟨(by first | rfl | (simp [yy_two, mc_b, *]; done) | ((try simp only [mc_cmp_le, mc_cmp_ge, mc_cmp_eq, mc_cmp_lt, mc_cmp_gt, mc_b0, mc_b1, Bool.not_eq_false, Bool.not_eq_true] at *); (try simp only [← Int32.not_lt, ← Int64.not_lt, Classical.not_not] at *); simp [yy_two, mc_b, *]; done) | (simp_all [yy_two, mc_b, mc_b0]; done) | (simp_all [yy_two, mc_b, Int32.le_iff_toInt_le, Int32.lt_iff_toInt_lt] <;> omega)), rfl⟩
      · skip
        refine e_iconst (v := 1) (pc := 66) dX7_two_66 (by decide) ?_
        refine e_goto (pc := 67) dX7_two_67 (t := 71) (by decide) ?_
        exact e_iret (pc := 71) dX7_two_71 rfl (Nat.le_refl _) (Nat.le_refl _) ⟨(by first | rfl | (simp [yy_two, mc_b, *]; done) | ((try simp only [mc_cmp_le, mc_cmp_ge, mc_cmp_eq, mc_cmp_lt, mc_cmp_gt, mc_b0, mc_b1, Bool.not_eq_false, Bool.not_eq_true] at *); (try simp only [← Int32.not_lt, ← Int64.not_lt, Classical.not_not] at *); simp [yy_two, mc_b, *]; done) | (simp_all [yy_two, mc_b, mc_b0]; done) | (simp_all [yy_two, mc_b, Int32.le_iff_toInt_le, Int32.lt_iff_toInt_lt] <;> omega)), rfl⟩
  by_cases hs_1_13 : k = 13
  · rw [hs_1_13]
    refine e_tabIn (pc := 1) (t := 102) dX7_two_1 (by decide) (by decide) rfl (by decide) ?_
    refine e_iloadn (pc := 102) dX7_two_102 rfl ?_
    refine e_iloadn (pc := 103) dX7_two_103 rfl ?_
    refine e_imul (pc := 104) dX7_two_104 ?_
    exact e_iret (pc := 105) dX7_two_105 rfl (Nat.le_refl _) (Nat.le_refl _) ⟨(by first | rfl | (simp [yy_two, mc_b, *]; done) | ((try simp only [mc_cmp_le, mc_cmp_ge, mc_cmp_eq, mc_cmp_lt, mc_cmp_gt, mc_b0, mc_b1, Bool.not_eq_false, Bool.not_eq_true] at *); (try simp only [← Int32.not_lt, ← Int64.not_lt, Classical.not_not] at *); simp [yy_two, mc_b, *]; done) | (simp_all [yy_two, mc_b, mc_b0]; done) | (simp_all [yy_two, mc_b, Int32.le_iff_toInt_le, Int32.lt_iff_toInt_lt] <;> omega)), rfl⟩
  by_cases hs_1_14 : k = 14
  · rw [hs_1_14]
    refine e_tabIn (pc := 1) (t := 72) dX7_two_1 (by decide) (by decide) rfl (by decide) ?_
    refine e_iloadn (pc := 72) dX7_two_72 rfl ?_
    refine e_iloadn (pc := 73) dX7_two_73 rfl ?_
    refine e_icmp_ge (pc := 74) dX7_two_74 (t := 81) (by decide) (fun c_74 => ?_) (fun c_74 => ?_)
    · skip
      refine e_iconst (v := 0) (pc := 81) dX7_two_81 (by decide) ?_
      exact e_iret (pc := 82) dX7_two_82 rfl (Nat.le_refl _) (Nat.le_refl _) ⟨(by first | rfl | (simp [yy_two, mc_b, *]; done) | ((try simp only [mc_cmp_le, mc_cmp_ge, mc_cmp_eq, mc_cmp_lt, mc_cmp_gt, mc_b0, mc_b1, Bool.not_eq_false, Bool.not_eq_true] at *); (try simp only [← Int32.not_lt, ← Int64.not_lt, Classical.not_not] at *); simp [yy_two, mc_b, *]; done) | (simp_all [yy_two, mc_b, mc_b0]; done) | (simp_all [yy_two, mc_b, Int32.le_iff_toInt_le, Int32.lt_iff_toInt_lt] <;> omega)), rfl⟩
    · skip
      refine e_iconst (v := 1) (pc := 77) dX7_two_77 (by decide) ?_
      refine e_goto (pc := 78) dX7_two_78 (t := 82) (by decide) ?_
      exact e_iret (pc := 82) dX7_two_82 rfl (Nat.le_refl _) (Nat.le_refl _) ⟨(by first | rfl | (simp [yy_two, mc_b, *]; done) | ((try simp only [mc_cmp_le, mc_cmp_ge, mc_cmp_eq, mc_cmp_lt, mc_cmp_gt, mc_b0, mc_b1, Bool.not_eq_false, Bool.not_eq_true] at *); (try simp only [← Int32.not_lt, ← Int64.not_lt, Classical.not_not] at *); simp [yy_two, mc_b, *]; done) | (simp_all [yy_two, mc_b, mc_b0]; done) | (simp_all [yy_two, mc_b, Int32.le_iff_toInt_le, Int32.lt_iff_toInt_lt] <;> omega)), rfl⟩
  by_cases hs_1_15 : k = 15
  · rw [hs_1_15]
    refine e_tabIn (pc := 1) (t := 83) dX7_two_1 (by decide) (by decide) rfl (by decide) ?_
    refine e_iloadn (pc := 83) dX7_two_83 rfl ?_
    refine e_iloadn (pc := 84) dX7_two_84 rfl ?_
    refine e_icmp_ne (pc := 85) dX7_two_85 (t := 92) (by decide) (fun c_85 => ?_) (fun c_85 => ?_)
    · skip
      refine e_iconst (v := 0) (pc := 92) dX7_two_92 (by decide) ?_
      exact e_iret (pc := 93) dX7_two_93 rfl (Nat.le_refl _) (Nat.le_refl _) ⟨(by first | rfl | (simp [yy_two, mc_b, *]; done) | ((try simp only [mc_cmp_le, mc_cmp_ge, mc_cmp_eq, mc_cmp_lt, mc_cmp_gt, mc_b0, mc_b1, Bool.not_eq_false, Bool.not_eq_true] at *); (try simp only [← Int32.not_lt, ← Int64.not_lt, Classical.not_not] at *); simp [yy_two, mc_b, *]; done) | (simp_all [yy_two, mc_b, mc_b0]; done) | (simp_all [yy_two, mc_b, Int32.le_iff_toInt_le, Int32.lt_iff_toInt_lt] <;> omega)), rfl⟩
    · skip
      refine e_iconst (v := 1) (pc := 88) dX7_two_88 (by decide) ?_
      refine e_goto (pc := 89) dX7_two_89 (t := 93) (by decide) ?_
      exact e_iret (pc := 93) dX7_two_93 rfl (Nat.le_refl _) (Nat.le_refl _) ⟨(by first | rfl | (simp [yy_two, mc_b, *]; done) | ((try simp only [mc_cmp_le, mc_cmp_ge, mc_cmp_eq, mc_cmp_lt, mc_cmp_gt, mc_b0, mc_b1, Bool.not_eq_false, Bool.not_eq_true] at *); (try simp only [← Int32.not_lt, ← Int64.not_lt, Classical.not_not] at *); simp [yy_two, mc_b, *]; done) | (simp_all [yy_two, mc_b, mc_b0]; done) | (simp_all [yy_two, mc_b, Int32.le_iff_toInt_le, Int32.lt_iff_toInt_lt] <;> omega)), rfl⟩
  by_cases hs_1_16 : k = 16
  · rw [hs_1_16]
    refine e_tabIn (pc := 1) (t := 94) dX7_two_1 (by decide) (by decide) rfl (by decide) ?_
    refine e_iloadn (pc := 94) dX7_two_94 rfl ?_
    refine e_iloadn (pc := 95) dX7_two_95 rfl ?_
    refine e_iadd (pc := 96) dX7_two_96 ?_
    exact e_iret (pc := 97) dX7_two_97 rfl (Nat.le_refl _) (Nat.le_refl _) ⟨(by first | rfl | (simp [yy_two, mc_b, *]; done) | ((try simp only [mc_cmp_le, mc_cmp_ge, mc_cmp_eq, mc_cmp_lt, mc_cmp_gt, mc_b0, mc_b1, Bool.not_eq_false, Bool.not_eq_true] at *); (try simp only [← Int32.not_lt, ← Int64.not_lt, Classical.not_not] at *); simp [yy_two, mc_b, *]; done) | (simp_all [yy_two, mc_b, mc_b0]; done) | (simp_all [yy_two, mc_b, Int32.le_iff_toInt_le, Int32.lt_iff_toInt_lt] <;> omega)), rfl⟩
  by_cases hs_1_17 : k = 17
  · rw [hs_1_17]
    refine e_tabIn (pc := 1) (t := 98) dX7_two_1 (by decide) (by decide) rfl (by decide) ?_
    refine e_iloadn (pc := 98) dX7_two_98 rfl ?_
    refine e_iloadn (pc := 99) dX7_two_99 rfl ?_
    refine e_isub (pc := 100) dX7_two_100 ?_
    exact e_iret (pc := 101) dX7_two_101 rfl (Nat.le_refl _) (Nat.le_refl _) ⟨(by first | rfl | (simp [yy_two, mc_b, *]; done) | ((try simp only [mc_cmp_le, mc_cmp_ge, mc_cmp_eq, mc_cmp_lt, mc_cmp_gt, mc_b0, mc_b1, Bool.not_eq_false, Bool.not_eq_true] at *); (try simp only [← Int32.not_lt, ← Int64.not_lt, Classical.not_not] at *); simp [yy_two, mc_b, *]; done) | (simp_all [yy_two, mc_b, mc_b0]; done) | (simp_all [yy_two, mc_b, Int32.le_iff_toInt_le, Int32.lt_iff_toInt_lt] <;> omega)), rfl⟩
  refine e_tabOut (pc := 1) (t := 102) dX7_two_1 (mc_tabout (by decide) (fun k h1 h2 => ?_)) (by decide) ?_
  · rcases (show k = 11 ∨ k = 12 ∨ k = 13 ∨ k = 14 ∨ k = 15 ∨ k = 16 ∨ k = 17 by omega) with rfl | rfl | rfl | rfl | rfl | rfl | rfl <;> assumption
  refine e_iloadn (pc := 102) dX7_two_102 rfl ?_
  refine e_iloadn (pc := 103) dX7_two_103 rfl ?_
  refine e_imul (pc := 104) dX7_two_104 ?_
  exact e_iret (pc := 105) dX7_two_105 rfl (Nat.le_refl _) (Nat.le_refl _) ⟨(by first | rfl | (simp [yy_two, mc_b, *]; done) | ((try simp only [mc_cmp_le, mc_cmp_ge, mc_cmp_eq, mc_cmp_lt, mc_cmp_gt, mc_b0, mc_b1, Bool.not_eq_false, Bool.not_eq_true] at *); (try simp only [← Int32.not_lt, ← Int64.not_lt, Classical.not_not] at *); simp [yy_two, mc_b, *]; done) | (simp_all [yy_two, mc_b, mc_b0]; done) | (simp_all [yy_two, mc_b, Int32.le_iff_toInt_le, Int32.lt_iff_toInt_lt] <;> omega)), rfl⟩
def yy_ct (m : Nat → Int32) (k : Int32) : Int32 := if k = 0 then m 2 else if k = 1 then m 0 else if k = 2 then m 1 else if k = 3 then m 4 else if k = 4 then m 5 else if k = 5 then m 3 else -2
theorem sp_y_count {s u m n : Nat → Int32} {a c b d : Nat → List Int32} {q : List (Option Nat)} {h : Nat} {z : mc_W} {k : Int32} : mc_D yX7_count cX7_count 2 (some .int) 1 [.ref 29, .int k] (WW s a q u c h m b n d z) (some (.int (yy_ct m k))) (WW s a q u c h m b n d z) := by
  refine mc_start (own := RX7) (ini := false) rfl (by decide +kernel) (fun h => by cases h) (Nat.le_of_ble_eq_true rfl) ?_
  show mc_E _ _ _ _ _ [some (.ref 29), some (.int k)] [] _ _ _
  refine e_iloadn (pc := 0) dX7_count_0 rfl ?_
  by_cases hs_1_0 : k = 0
  · rw [hs_1_0]
    refine e_tabIn (pc := 1) (t := 40) dX7_count_1 (by decide) (by decide) rfl (by decide) ?_
    refine e_aloadn (pc := 40) dX7_count_40 rfl ?_
    refine e_get (pc := 41) dX7_count_41 fX7_72 rfl rfl ?_
    exact e_iret (pc := 44) dX7_count_44 rfl (Nat.le_refl _) (Nat.le_refl _) ⟨(by first | rfl | (simp [yy_ct, *]; done) | ((try simp only [mc_cmp_le, mc_cmp_ge, mc_cmp_eq, mc_cmp_lt, mc_cmp_gt, mc_b0, mc_b1, Bool.not_eq_false, Bool.not_eq_true] at *); (try simp only [← Int32.not_lt, ← Int64.not_lt, Classical.not_not] at *); simp [yy_ct, *]; done) | (simp_all [yy_ct, mc_b0]; done) | (simp_all [yy_ct, Int32.le_iff_toInt_le, Int32.lt_iff_toInt_lt] <;> omega)), rfl⟩
  by_cases hs_1_1 : k = 1
  · rw [hs_1_1]
    refine e_tabIn (pc := 1) (t := 45) dX7_count_1 (by decide) (by decide) rfl (by decide) ?_
    refine e_aloadn (pc := 45) dX7_count_45 rfl ?_
    refine e_get (pc := 46) dX7_count_46 fX7_7 rfl rfl ?_
    exact e_iret (pc := 49) dX7_count_49 rfl (Nat.le_refl _) (Nat.le_refl _) ⟨(by first | rfl | (simp [yy_ct, *]; done) | ((try simp only [mc_cmp_le, mc_cmp_ge, mc_cmp_eq, mc_cmp_lt, mc_cmp_gt, mc_b0, mc_b1, Bool.not_eq_false, Bool.not_eq_true] at *); (try simp only [← Int32.not_lt, ← Int64.not_lt, Classical.not_not] at *); simp [yy_ct, *]; done) | (simp_all [yy_ct, mc_b0]; done) | (simp_all [yy_ct, Int32.le_iff_toInt_le, Int32.lt_iff_toInt_lt] <;> omega)), rfl⟩
  by_cases hs_1_2 : k = 2
  · rw [hs_1_2]
    refine e_tabIn (pc := 1) (t := 50) dX7_count_1 (by decide) (by decide) rfl (by decide) ?_
    refine e_aloadn (pc := 50) dX7_count_50 rfl ?_
    refine e_get (pc := 51) dX7_count_51 fX7_13 rfl rfl ?_
    exact e_iret (pc := 54) dX7_count_54 rfl (Nat.le_refl _) (Nat.le_refl _) ⟨(by first | rfl | (simp [yy_ct, *]; done) | ((try simp only [mc_cmp_le, mc_cmp_ge, mc_cmp_eq, mc_cmp_lt, mc_cmp_gt, mc_b0, mc_b1, Bool.not_eq_false, Bool.not_eq_true] at *); (try simp only [← Int32.not_lt, ← Int64.not_lt, Classical.not_not] at *); simp [yy_ct, *]; done) | (simp_all [yy_ct, mc_b0]; done) | (simp_all [yy_ct, Int32.le_iff_toInt_le, Int32.lt_iff_toInt_lt] <;> omega)), rfl⟩
  by_cases hs_1_3 : k = 3
  · rw [hs_1_3]
    refine e_tabIn (pc := 1) (t := 55) dX7_count_1 (by decide) (by decide) rfl (by decide) ?_
    refine e_aloadn (pc := 55) dX7_count_55 rfl ?_
    refine e_get (pc := 56) dX7_count_56 fX7_80 rfl rfl ?_
    exact e_iret (pc := 59) dX7_count_59 rfl (Nat.le_refl _) (Nat.le_refl _) ⟨(by first | rfl | (simp [yy_ct, *]; done) | ((try simp only [mc_cmp_le, mc_cmp_ge, mc_cmp_eq, mc_cmp_lt, mc_cmp_gt, mc_b0, mc_b1, Bool.not_eq_false, Bool.not_eq_true] at *); (try simp only [← Int32.not_lt, ← Int64.not_lt, Classical.not_not] at *); simp [yy_ct, *]; done) | (simp_all [yy_ct, mc_b0]; done) | (simp_all [yy_ct, Int32.le_iff_toInt_le, Int32.lt_iff_toInt_lt] <;> omega)), rfl⟩
  by_cases hs_1_4 : k = 4
  · rw [hs_1_4]
    refine e_tabIn (pc := 1) (t := 60) dX7_count_1 (by decide) (by decide) rfl (by decide) ?_
    refine e_aloadn (pc := 60) dX7_count_60 rfl ?_
    refine e_get (pc := 61) dX7_count_61 fX7_83 rfl rfl ?_
    exact e_iret (pc := 64) dX7_count_64 rfl (Nat.le_refl _) (Nat.le_refl _) ⟨(by first | rfl | (simp [yy_ct, *]; done) | ((try simp only [mc_cmp_le, mc_cmp_ge, mc_cmp_eq, mc_cmp_lt, mc_cmp_gt, mc_b0, mc_b1, Bool.not_eq_false, Bool.not_eq_true] at *); (try simp only [← Int32.not_lt, ← Int64.not_lt, Classical.not_not] at *); simp [yy_ct, *]; done) | (simp_all [yy_ct, mc_b0]; done) | (simp_all [yy_ct, Int32.le_iff_toInt_le, Int32.lt_iff_toInt_lt] <;> omega)), rfl⟩
  by_cases hs_1_5 : k = 5
  · rw [hs_1_5]
    refine e_tabIn (pc := 1) (t := 65) dX7_count_1 (by decide) (by decide) rfl (by decide) ?_
    refine e_aloadn (pc := 65) dX7_count_65 rfl ?_
    refine e_get (pc := 66) dX7_count_66 fX7_65 rfl rfl ?_
    exact e_iret (pc := 69) dX7_count_69 rfl (Nat.le_refl _) (Nat.le_refl _) ⟨(by first | rfl | (simp [yy_ct, *]; done) | ((try simp only [mc_cmp_le, mc_cmp_ge, mc_cmp_eq, mc_cmp_lt, mc_cmp_gt, mc_b0, mc_b1, Bool.not_eq_false, Bool.not_eq_true] at *); (try simp only [← Int32.not_lt, ← Int64.not_lt, Classical.not_not] at *); simp [yy_ct, *]; done) | (simp_all [yy_ct, mc_b0]; done) | (simp_all [yy_ct, Int32.le_iff_toInt_le, Int32.lt_iff_toInt_lt] <;> omega)), rfl⟩
  refine e_tabOut (pc := 1) (t := 70) dX7_count_1 (mc_tabout (by decide) (fun k h1 h2 => ?_)) (by decide) ?_
  · rcases (show k = 0 ∨ k = 1 ∨ k = 2 ∨ k = 3 ∨ k = 4 ∨ k = 5 by omega) with rfl | rfl | rfl | rfl | rfl | rfl <;> assumption
  refine e_bipush (v := -2) (pc := 70) dX7_count_70 (by decide) ?_
  exact e_iret (pc := 72) dX7_count_72 rfl (Nat.le_refl _) (Nat.le_refl _) ⟨(by first | rfl | (simp [yy_ct, *]; done) | ((try simp only [mc_cmp_le, mc_cmp_ge, mc_cmp_eq, mc_cmp_lt, mc_cmp_gt, mc_b0, mc_b1, Bool.not_eq_false, Bool.not_eq_true] at *); (try simp only [← Int32.not_lt, ← Int64.not_lt, Classical.not_not] at *); simp [yy_ct, *]; done) | (simp_all [yy_ct, mc_b0]; done) | (simp_all [yy_ct, Int32.le_iff_toInt_le, Int32.lt_iff_toInt_lt] <;> omega)), rfl⟩
theorem sp_y_span {s u m n : Nat → Int32} {a c b d : Nat → List Int32} {q : List (Option Nat)} {h : Nat} {z : mc_W} {f g : Int32} : mc_D yX7_span cX7_span 3 (some .int) 3 [.ref 29, .int f, .int g] (WW s a q u c h m b n d z) (some (.int (if yy_yr f && yy_yr g then yy_az g - yy_az f else -100000))) (WW s a q u c h m b n d z) := by
  refine mc_start (own := RX7) (ini := false) rfl (by decide +kernel) (fun h => by cases h) (Nat.le_of_ble_eq_true rfl) ?_
  show mc_E _ _ _ _ _ [some (.ref 29), some (.int f), some (.int g)] [] _ _ _
  refine e_iloadn (pc := 0) dX7_span_0 rfl ?_
  refine e_csD (pc := 1) (sp_y_isYear) dX7_span_1 kX7_86 rfl rfl (mc_CR_of (Nat.le_of_ble_eq_true rfl) (Nat.le_of_ble_eq_true rfl) (Nat.le_refl _) (Nat.le_refl _)) (Nat.le_of_ble_eq_true rfl) ?_
  refine e_if_eq (pc := 4) dX7_span_4 (t := 26) (by decide) (fun c_4 => ?_) (fun c_4 => ?_)
  · skip
    refine e_ldcw (pc := 26) dX7_span_26 qX7_259 ?_
    exact e_iret (pc := 29) dX7_span_29 rfl (Nat.le_refl _) (Nat.le_refl _) ⟨(by first | rfl | (simp [mc_b0, mc_b1, *]; done) | ((try simp only [mc_cmp_le, mc_cmp_ge, mc_cmp_eq, mc_cmp_lt, mc_cmp_gt, mc_b0, mc_b1, Bool.not_eq_false, Bool.not_eq_true] at *); (try simp only [← Int32.not_lt, ← Int64.not_lt, Classical.not_not] at *); simp [mc_b0, mc_b1, *]; done) | (simp_all [mc_b0, mc_b1, mc_b0]; done) | (simp_all [mc_b0, mc_b1, Int32.le_iff_toInt_le, Int32.lt_iff_toInt_lt] <;> omega)), rfl⟩
  · skip
    refine e_iloadn (pc := 7) dX7_span_7 rfl ?_
    refine e_csD (pc := 8) (sp_y_isYear) dX7_span_8 kX7_86 rfl rfl (mc_CR_of (Nat.le_of_ble_eq_true rfl) (Nat.le_of_ble_eq_true rfl) (Nat.le_refl _) (Nat.le_refl _)) (Nat.le_of_ble_eq_true rfl) ?_
    refine e_if_eq (pc := 11) dX7_span_11 (t := 26) (by decide) (fun c_11 => ?_) (fun c_11 => ?_)
    · skip
      refine e_ldcw (pc := 26) dX7_span_26 qX7_259 ?_
      exact e_iret (pc := 29) dX7_span_29 rfl (Nat.le_refl _) (Nat.le_refl _) ⟨(by first | rfl | (simp [mc_b0, mc_b1, *]; done) | ((try simp only [mc_cmp_le, mc_cmp_ge, mc_cmp_eq, mc_cmp_lt, mc_cmp_gt, mc_b0, mc_b1, Bool.not_eq_false, Bool.not_eq_true] at *); (try simp only [← Int32.not_lt, ← Int64.not_lt, Classical.not_not] at *); simp [mc_b0, mc_b1, *]; done) | (simp_all [mc_b0, mc_b1, mc_b0]; done) | (simp_all [mc_b0, mc_b1, Int32.le_iff_toInt_le, Int32.lt_iff_toInt_lt] <;> omega)), rfl⟩
    · skip
      refine e_iloadn (pc := 14) dX7_span_14 rfl ?_
      refine e_csD (pc := 15) (sp_y_asIfZero) dX7_span_15 kX7_256 rfl rfl (mc_CR_of (Nat.le_of_ble_eq_true rfl) (Nat.le_of_ble_eq_true rfl) (Nat.le_refl _) (Nat.le_refl _)) (Nat.le_of_ble_eq_true rfl) ?_
      refine e_iloadn (pc := 18) dX7_span_18 rfl ?_
      refine e_csD (pc := 19) (sp_y_asIfZero) dX7_span_19 kX7_256 rfl rfl (mc_CR_of (Nat.le_of_ble_eq_true rfl) (Nat.le_of_ble_eq_true rfl) (Nat.le_refl _) (Nat.le_refl _)) (Nat.le_of_ble_eq_true rfl) ?_
      refine e_isub (pc := 22) dX7_span_22 ?_
      refine e_goto (pc := 23) dX7_span_23 (t := 29) (by decide) ?_
      exact e_iret (pc := 29) dX7_span_29 rfl (Nat.le_refl _) (Nat.le_refl _) ⟨(by first | rfl | (simp [mc_b0, mc_b1, *]; done) | ((try simp only [mc_cmp_le, mc_cmp_ge, mc_cmp_eq, mc_cmp_lt, mc_cmp_gt, mc_b0, mc_b1, Bool.not_eq_false, Bool.not_eq_true] at *); (try simp only [← Int32.not_lt, ← Int64.not_lt, Classical.not_not] at *); simp [mc_b0, mc_b1, *]; done) | (simp_all [mc_b0, mc_b1, mc_b0]; done) | (simp_all [mc_b0, mc_b1, Int32.le_iff_toInt_le, Int32.lt_iff_toInt_lt] <;> omega)), rfl⟩
theorem sp_y_behind {s u m n : Nat → Int32} {a c b d : Nat → List Int32} {q : List (Option Nat)} {h : Nat} {z : mc_W} {f g : Int32} : mc_D yX7_behind cX7_behind 4 (some .int) 3 [.ref 29, .int f, .int g] (WW s a q u c h m b n d z) (some (.int (if yy_yr f && mc_wi g (-3000) 3000 then (if yy_yr (yy_ay (yy_az f + g)) then yy_ay (yy_az f + g) else -100001) else -100000))) (WW s a q u c h m b n d z) := by
  refine mc_start (own := RX7) (ini := false) rfl (by decide +kernel) (fun h => by cases h) (Nat.le_of_ble_eq_true rfl) ?_
  show mc_E _ _ _ _ _ [some (.ref 29), some (.int f), some (.int g), none] [] _ _ _
  refine e_iloadn (pc := 0) dX7_behind_0 rfl ?_
  refine e_csD (pc := 1) (sp_y_isYear) dX7_behind_1 kX7_86 rfl rfl (mc_CR_of (Nat.le_of_ble_eq_true rfl) (Nat.le_of_ble_eq_true rfl) (Nat.le_refl _) (Nat.le_refl _)) (Nat.le_of_ble_eq_true rfl) ?_
  refine e_if_eq (pc := 4) dX7_behind_4 (t := 20) (by decide) (fun c_4 => ?_) (fun c_4 => ?_)
  · skip
    refine e_ldcw (pc := 20) dX7_behind_20 qX7_259 ?_
    exact e_iret (pc := 23) dX7_behind_23 rfl (Nat.le_refl _) (Nat.le_refl _) ⟨(by first | rfl | (simp [mc_b0, mc_b1, *]; done) | ((try simp only [mc_cmp_le, mc_cmp_ge, mc_cmp_eq, mc_cmp_lt, mc_cmp_gt, mc_b0, mc_b1, Bool.not_eq_false, Bool.not_eq_true] at *); (try simp only [← Int32.not_lt, ← Int64.not_lt, Classical.not_not] at *); simp [mc_b0, mc_b1, *]; done) | (simp_all [mc_b0, mc_b1, mc_b0]; done) | (simp_all [mc_b0, mc_b1, Int32.le_iff_toInt_le, Int32.lt_iff_toInt_lt] <;> omega)), rfl⟩
  · skip
    refine e_iloadn (pc := 7) dX7_behind_7 rfl ?_
    refine e_sipush (v := -3000) (pc := 8) dX7_behind_8 (by decide) ?_
    refine e_sipush (v := 3000) (pc := 11) dX7_behind_11 (by decide) ?_
    refine e_csD (pc := 14) (sp_y_in) dX7_behind_14 kX7_75 rfl rfl (mc_CR_of (Nat.le_of_ble_eq_true rfl) (Nat.le_of_ble_eq_true rfl) (Nat.le_refl _) (Nat.le_refl _)) (Nat.le_of_ble_eq_true rfl) ?_
    refine e_if_ne (pc := 17) dX7_behind_17 (t := 24) (by decide) (fun c_17 => ?_) (fun c_17 => ?_)
    · skip
      refine e_iloadn (pc := 24) dX7_behind_24 rfl ?_
      refine e_csD (pc := 25) (sp_y_asIfZero) dX7_behind_25 kX7_256 rfl rfl (mc_CR_of (Nat.le_of_ble_eq_true rfl) (Nat.le_of_ble_eq_true rfl) (Nat.le_refl _) (Nat.le_refl _)) (Nat.le_of_ble_eq_true rfl) ?_
      refine e_iloadn (pc := 28) dX7_behind_28 rfl ?_
      refine e_iadd (pc := 29) dX7_behind_29 ?_
      refine e_csD (pc := 30) (sp_y_asYear) dX7_behind_30 kX7_260 rfl rfl (mc_CR_of (Nat.le_of_ble_eq_true rfl) (Nat.le_of_ble_eq_true rfl) (Nat.le_refl _) (Nat.le_refl _)) (Nat.le_of_ble_eq_true rfl) ?_
      refine e_isn3 (pc := 33) dX7_behind_33 (Nat.le_of_ble_eq_true rfl) rfl ?_
      refine e_iloadn (pc := 34) dX7_behind_34 rfl ?_
      refine e_csD (pc := 35) (sp_y_isYear) dX7_behind_35 kX7_86 rfl rfl (mc_CR_of (Nat.le_of_ble_eq_true rfl) (Nat.le_of_ble_eq_true rfl) (Nat.le_refl _) (Nat.le_refl _)) (Nat.le_of_ble_eq_true rfl) ?_
      refine e_if_eq (pc := 38) dX7_behind_38 (t := 45) (by decide) (fun c_38 => ?_) (fun c_38 => ?_)
      · skip
        refine e_ldcw (pc := 45) dX7_behind_45 qX7_263 ?_
        exact e_iret (pc := 48) dX7_behind_48 rfl (Nat.le_refl _) (Nat.le_refl _) ⟨(by first | rfl | (simp [mc_b0, mc_b1, *]; done) | ((try simp only [mc_cmp_le, mc_cmp_ge, mc_cmp_eq, mc_cmp_lt, mc_cmp_gt, mc_b0, mc_b1, Bool.not_eq_false, Bool.not_eq_true] at *); (try simp only [← Int32.not_lt, ← Int64.not_lt, Classical.not_not] at *); simp [mc_b0, mc_b1, *]; done) | (simp_all [mc_b0, mc_b1, mc_b0]; done) | (simp_all [mc_b0, mc_b1, Int32.le_iff_toInt_le, Int32.lt_iff_toInt_lt] <;> omega)), rfl⟩
      · skip
        refine e_iloadn (pc := 41) dX7_behind_41 rfl ?_
        refine e_goto (pc := 42) dX7_behind_42 (t := 48) (by decide) ?_
        exact e_iret (pc := 48) dX7_behind_48 rfl (Nat.le_refl _) (Nat.le_refl _) ⟨(by first | rfl | (simp [mc_b0, mc_b1, *]; done) | ((try simp only [mc_cmp_le, mc_cmp_ge, mc_cmp_eq, mc_cmp_lt, mc_cmp_gt, mc_b0, mc_b1, Bool.not_eq_false, Bool.not_eq_true] at *); (try simp only [← Int32.not_lt, ← Int64.not_lt, Classical.not_not] at *); simp [mc_b0, mc_b1, *]; done) | (simp_all [mc_b0, mc_b1, mc_b0]; done) | (simp_all [mc_b0, mc_b1, Int32.le_iff_toInt_le, Int32.lt_iff_toInt_lt] <;> omega)), rfl⟩
    · skip
      refine e_ldcw (pc := 20) dX7_behind_20 qX7_259 ?_
      exact e_iret (pc := 23) dX7_behind_23 rfl (Nat.le_refl _) (Nat.le_refl _) ⟨(by first | rfl | (simp [mc_b0, mc_b1, *]; done) | ((try simp only [mc_cmp_le, mc_cmp_ge, mc_cmp_eq, mc_cmp_lt, mc_cmp_gt, mc_b0, mc_b1, Bool.not_eq_false, Bool.not_eq_true] at *); (try simp only [← Int32.not_lt, ← Int64.not_lt, Classical.not_not] at *); simp [mc_b0, mc_b1, *]; done) | (simp_all [mc_b0, mc_b1, mc_b0]; done) | (simp_all [mc_b0, mc_b1, Int32.le_iff_toInt_le, Int32.lt_iff_toInt_lt] <;> omega)), rfl⟩
