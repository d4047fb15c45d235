/-! ===== texts: where they lie, what they come to ===== -/
/-- where text t lies -/
def xad (t : Nat) : Nat := if t = 0 then 3 else 44 + 2 * t
/-- at h lies a text of these codes -/
def xTz (q : List (Option Nat)) (z : mc_W) (h : Nat) (cd : List Int32) (sa ca : Int32) : Prop := ∀ (s : Nat → Int32) (a : Nat → List Int32) (u : Nat → Int32) (c : Nat → List Int32) (h0 : Nat) (m : Nat → Int32) (b : Nat → List Int32) (n : Nat → Int32) (d : Nat → List Int32), (WW s a q u c h0 m b n d z)[h]? = some (.inl (5, [.ref (h + 1), .int sa, .int ca])) ∧ (WW s a q u c h0 m b n d z)[h + 1]? = some (.inr (.inl cd))
/-- the class's code of the other side's -/
def cm (x : Int32) : Int32 := if 100000 ≤ x then x - 100000 else if x < 11 then -1 - x else -x
/-- codes that come to one value, on no more than 48 places -/
def xdp : List Int32 → Nat → Bool
  | [], n => n == 1
  | x :: r, n => if (mc_wi x 100000 109999 || mc_wi x 0 5) = true then decide (n < 48) && xdp r (n + 1)
    else if x = 13 ∨ x = 19 then decide (1 ≤ n) && xdp r n else mc_wi x 11 18 && decide (2 ≤ n) && xdp r (n - 1)
def xjo (k x y : Int32) : Int32 := if k = -17 then x - y else if k = -16 then x + y else if k = -15 then mc_b (x == y) else if k = -14 then mc_b (decide (x < y)) else if k = -13 then x * y else if k = -12 then mc_b (x != 0 && y != 0) else if k = -11 then mc_b (x != 0 || y != 0) else x * y
theorem sp_x_joined {w : mc_W} {k x y : Int32} : mc_D yX5_joined cX5_joined 3 (some .int) 1 [.int k, .int x, .int y] w (some (.int (xjo k x y))) w := by
  refine mc_start (own := RX5) (ini := false) rfl (by decide +kernel) (fun h => by cases h) (Nat.le_of_ble_eq_true rfl) ?_
  show mc_E _ _ _ _ _ [some (.int k), some (.int x), some (.int y)] [] _ _ _
  refine e_iloadn (pc := 0) dX5_joined_0 rfl ?_
  by_cases hs_1_m17 : k = (-17)
  · rw [hs_1_m17]
    refine e_tabIn (pc := 1) (t := 98) dX5_joined_1 (by decide) (by decide) rfl (by decide) ?_
    refine e_iloadn (pc := 98) dX5_joined_98 rfl ?_
    refine e_iloadn (pc := 99) dX5_joined_99 rfl ?_
    refine e_isub (pc := 100) dX5_joined_100 ?_
    exact e_iret (pc := 101) dX5_joined_101 rfl (Nat.le_refl _) (Nat.le_refl _) ⟨(by first | rfl | (simp [xjo, mc_b, *]; done) | ((try simp only [mc_cmp_le, mc_cmp_ge, mc_cmp_eq, mc_cmp_lt, mc_cmp_gt, mc_b0, mc_b1, Bool.not_eq_false, Bool.not_eq_true] at *); (try simp only [← Int32.not_lt, ← Int64.not_lt, Classical.not_not] at *); simp [xjo, mc_b, *]; done) | (simp_all [xjo, mc_b, mc_b0]; done) | (simp_all [xjo, mc_b, Int32.le_iff_toInt_le, Int32.lt_iff_toInt_lt] <;> omega)), rfl⟩
  by_cases hs_1_m16 : k = (-16)
  · rw [hs_1_m16]
    refine e_tabIn (pc := 1) (t := 94) dX5_joined_1 (by decide) (by decide) rfl (by decide) ?_
    refine e_iloadn (pc := 94) dX5_joined_94 rfl ?_
    refine e_iloadn (pc := 95) dX5_joined_95 rfl ?_
    refine e_iadd (pc := 96) dX5_joined_96 ?_
    exact e_iret (pc := 97) dX5_joined_97 rfl (Nat.le_refl _) (Nat.le_refl _) ⟨(by first | rfl | (simp [xjo, mc_b, *]; done) | ((try simp only [mc_cmp_le, mc_cmp_ge, mc_cmp_eq, mc_cmp_lt, mc_cmp_gt, mc_b0, mc_b1, Bool.not_eq_false, Bool.not_eq_true] at *); (try simp only [← Int32.not_lt, ← Int64.not_lt, Classical.not_not] at *); simp [xjo, mc_b, *]; done) | (simp_all [xjo, mc_b, mc_b0]; done) | (simp_all [xjo, mc_b, Int32.le_iff_toInt_le, Int32.lt_iff_toInt_lt] <;> omega)), rfl⟩
  by_cases hs_1_m15 : k = (-15)
  · rw [hs_1_m15]
    refine e_tabIn (pc := 1) (t := 83) dX5_joined_1 (by decide) (by decide) rfl (by decide) ?_
    refine e_iloadn (pc := 83) dX5_joined_83 rfl ?_
    refine e_iloadn (pc := 84) dX5_joined_84 rfl ?_
    refine e_icmp_ne (pc := 85) dX5_joined_85 (t := 92) (by decide) (fun c_85 => ?_) (fun c_85 => ?_)
    · skip
      refine e_iconst (v := 0) (pc := 92) dX5_joined_92 (by decide) ?_
      exact e_iret (pc := 93) dX5_joined_93 rfl (Nat.le_refl _) (Nat.le_refl _) ⟨(by first | rfl | (simp [xjo, mc_b, *]; done) | ((try simp only [mc_cmp_le, mc_cmp_ge, mc_cmp_eq, mc_cmp_lt, mc_cmp_gt, mc_b0, mc_b1, Bool.not_eq_false, Bool.not_eq_true] at *); (try simp only [← Int32.not_lt, ← Int64.not_lt, Classical.not_not] at *); simp [xjo, mc_b, *]; done) | (simp_all [xjo, mc_b, mc_b0]; done) | (simp_all [xjo, mc_b, Int32.le_iff_toInt_le, Int32.lt_iff_toInt_lt] <;> omega)), rfl⟩
    · skip
      refine e_iconst (v := 1) (pc := 88) dX5_joined_88 (by decide) ?_
      refine e_goto (pc := 89) dX5_joined_89 (t := 93) (by decide) ?_
      exact e_iret (pc := 93) dX5_joined_93 rfl (Nat.le_refl _) (Nat.le_refl _) ⟨(by first | rfl | (simp [xjo, mc_b, *]; done) | ((try simp only [mc_cmp_le, mc_cmp_ge, mc_cmp_eq, mc_cmp_lt, mc_cmp_gt, mc_b0, mc_b1, Bool.not_eq_false, Bool.not_eq_true] at *); (try simp only [← Int32.not_lt, ← Int64.not_lt, Classical.not_not] at *); simp [xjo, mc_b, *]; done) | (simp_all [xjo, mc_b, mc_b0]; done) | (simp_all [xjo, mc_b, Int32.le_iff_toInt_le, Int32.lt_iff_toInt_lt] <;> omega)), rfl⟩
  by_cases hs_1_m14 : k = (-14)
  · rw [hs_1_m14]
    refine e_tabIn (pc := 1) (t := 72) dX5_joined_1 (by decide) (by decide) rfl (by decide) ?_
    refine e_iloadn (pc := 72) dX5_joined_72 rfl ?_
    refine e_iloadn (pc := 73) dX5_joined_73 rfl ?_
    refine e_icmp_ge (pc := 74) dX5_joined_74 (t := 81) (by decide) (fun c_74 => ?_) (fun c_74 => ?_)
    · skip
      refine e_iconst (v := 0) (pc := 81) dX5_joined_81 (by decide) ?_
      exact e_iret (pc := 82) dX5_joined_82 rfl (Nat.le_refl _) (Nat.le_refl _) ⟨(by first | rfl | (simp [xjo, mc_b, *]; done) | ((try simp only [mc_cmp_le, mc_cmp_ge, mc_cmp_eq, mc_cmp_lt, mc_cmp_gt, mc_b0, mc_b1, Bool.not_eq_false, Bool.not_eq_true] at *); (try simp only [← Int32.not_lt, ← Int64.not_lt, Classical.not_not] at *); simp [xjo, mc_b, *]; done) | (simp_all [xjo, mc_b, mc_b0]; done) | (simp_all [xjo, mc_b, Int32.le_iff_toInt_le, Int32.lt_iff_toInt_lt] <;> omega)), rfl⟩
    · skip
      refine e_iconst (v := 1) (pc := 77) dX5_joined_77 (by decide) ?_
      refine e_goto (pc := 78) dX5_joined_78 (t := 82) (by decide) ?_
      exact e_iret (pc := 82) dX5_joined_82 rfl (Nat.le_refl _) (Nat.le_refl _) ⟨(by first | rfl | (simp [xjo, mc_b, *]; done) | ((try simp only [mc_cmp_le, mc_cmp_ge, mc_cmp_eq, mc_cmp_lt, mc_cmp_gt, mc_b0, mc_b1, Bool.not_eq_false, Bool.not_eq_true] at *); (try simp only [← Int32.not_lt, ← Int64.not_lt, Classical.not_not] at *); simp [xjo, mc_b, *]; done) | (simp_all [xjo, mc_b, mc_b0]; done) | (simp_all [xjo, mc_b, Int32.le_iff_toInt_le, Int32.lt_iff_toInt_lt] <;> omega)), rfl⟩
  by_cases hs_1_m13 : k = (-13)
  · rw [hs_1_m13]
    refine e_tabIn (pc := 1) (t := 102) dX5_joined_1 (by decide) (by decide) rfl (by decide) ?_
    refine e_iloadn (pc := 102) dX5_joined_102 rfl ?_
    refine e_iloadn (pc := 103) dX5_joined_103 rfl ?_
    refine e_imul (pc := 104) dX5_joined_104 ?_
    exact e_iret (pc := 105) dX5_joined_105 rfl (Nat.le_refl _) (Nat.le_refl _) ⟨(by first | rfl | (simp [xjo, mc_b, *]; done) | ((try simp only [mc_cmp_le, mc_cmp_ge, mc_cmp_eq, mc_cmp_lt, mc_cmp_gt, mc_b0, mc_b1, Bool.not_eq_false, Bool.not_eq_true] at *); (try simp only [← Int32.not_lt, ← Int64.not_lt, Classical.not_not] at *); simp [xjo, mc_b, *]; done) | (simp_all [xjo, mc_b, mc_b0]; done) | (simp_all [xjo, mc_b, Int32.le_iff_toInt_le, Int32.lt_iff_toInt_lt] <;> omega)), rfl⟩
  by_cases hs_1_m12 : k = (-12)
  · rw [hs_1_m12]
    refine e_tabIn (pc := 1) (t := 58) dX5_joined_1 (by decide) (by decide) rfl (by decide) ?_
    refine e_iloadn (pc := 58) dX5_joined_58 rfl ?_
    refine e_if_eq (pc := 59) dX5_joined_59 (t := 70) (by decide) (fun c_59 => ?_) (fun c_59 => ?_)
    · skip
      refine e_iconst (v := 0) (pc := 70) dX5_joined_70 (by decide) ?_
      exact e_iret (pc := 71) dX5_joined_71 rfl (Nat.le_refl _) (Nat.le_refl _) ⟨(by first | rfl | (simp [xjo, mc_b, *]; done) | ((try simp only [mc_cmp_le, mc_cmp_ge, mc_cmp_eq, mc_cmp_lt, mc_cmp_gt, mc_b0, mc_b1, Bool.not_eq_false, Bool.not_eq_true] at *); (try simp only [← Int32.not_lt, ← Int64.not_lt, Classical.not_not] at *); simp [xjo, mc_b, *]; done) | (simp_all [xjo, mc_b, mc_b0]; done) | (simp_all [xjo, mc_b, Int32.le_iff_toInt_le, Int32.lt_iff_toInt_lt] <;> omega)), rfl⟩
    · skip
      refine e_iloadn (pc := 62) dX5_joined_62 rfl ?_
      refine e_if_eq (pc := 63) dX5_joined_63 (t := 70) (by decide) (fun c_63 => ?_) (fun c_63 => ?_)
      · skip
        refine e_iconst (v := 0) (pc := 70) dX5_joined_70 (by decide) ?_
        exact e_iret (pc := 71) dX5_joined_71 rfl (Nat.le_refl _) (Nat.le_refl _) ⟨(by first | rfl | (simp [xjo, mc_b, *]; done) | ((try simp only [mc_cmp_le, mc_cmp_ge, mc_cmp_eq, mc_cmp_lt, mc_cmp_gt, mc_b0, mc_b1, Bool.not_eq_false, Bool.not_eq_true] at *); (try simp only [← Int32.not_lt, ← Int64.not_lt, Classical.not_not] at *); simp [xjo, mc_b, *]; done) | (simp_all [xjo, mc_b, mc_b0]; done) | (simp_all [xjo, mc_b, Int32.le_iff_toInt_le, Int32.lt_iff_toInt_lt] <;> omega)), rfl⟩
      · skip
        refine e_iconst (v := 1) (pc := 66) dX5_joined_66 (by decide) ?_
        refine e_goto (pc := 67) dX5_joined_67 (t := 71) (by decide) ?_
        exact e_iret (pc := 71) dX5_joined_71 rfl (Nat.le_refl _) (Nat.le_refl _) ⟨(by first | rfl | (simp [xjo, mc_b, *]; done) | ((try simp only [mc_cmp_le, mc_cmp_ge, mc_cmp_eq, mc_cmp_lt, mc_cmp_gt, mc_b0, mc_b1, Bool.not_eq_false, Bool.not_eq_true] at *); (try simp only [← Int32.not_lt, ← Int64.not_lt, Classical.not_not] at *); simp [xjo, mc_b, *]; done) | (simp_all [xjo, mc_b, mc_b0]; done) | (simp_all [xjo, mc_b, Int32.le_iff_toInt_le, Int32.lt_iff_toInt_lt] <;> omega)), rfl⟩
  by_cases hs_1_m11 : k = (-11)
  · rw [hs_1_m11]
    refine e_tabIn (pc := 1) (t := 44) dX5_joined_1 (by decide) (by decide) rfl (by decide) ?_
    refine e_iloadn (pc := 44) dX5_joined_44 rfl ?_
    refine e_if_ne (pc := 45) dX5_joined_45 (t := 52) (by decide) (fun c_45 => ?_) (fun c_45 => ?_)
    · skip
      refine e_iconst (v := 1) (pc := 52) dX5_joined_52 (by decide) ?_
      refine e_goto (pc := 53) dX5_joined_53 (t := 57) (by decide) ?_
      exact e_iret (pc := 57) dX5_joined_57 rfl (Nat.le_refl _) (Nat.le_refl _) ⟨(by first | rfl | (simp [xjo, mc_b, *]; done) | ((try simp only [mc_cmp_le, mc_cmp_ge, mc_cmp_eq, mc_cmp_lt, mc_cmp_gt, mc_b0, mc_b1, Bool.not_eq_false, Bool.not_eq_true] at *); (try simp only [← Int32.not_lt, ← Int64.not_lt, Classical.not_not] at *); simp [xjo, mc_b, *]; done) | (simp_all [xjo, mc_b, mc_b0]; done) | (simp_all [xjo, mc_b, Int32.le_iff_toInt_le, Int32.lt_iff_toInt_lt] <;> omega)), rfl⟩
    · skip
      refine e_iloadn (pc := 48) dX5_joined_48 rfl ?_
      refine e_if_eq (pc := 49) dX5_joined_49 (t := 56) (by decide) (fun c_49 => ?_) (fun c_49 => ?_)
      · skip
        refine e_iconst (v := 0) (pc := 56) dX5_joined_56 (by decide) ?_
        exact e_iret (pc := 57) dX5_joined_57 rfl (Nat.le_refl _) (Nat.le_refl _) ⟨(by first | rfl | (simp [xjo, mc_b, *]; done) | ((try simp only [mc_cmp_le, mc_cmp_ge, mc_cmp_eq, mc_cmp_lt, mc_cmp_gt, mc_b0, mc_b1, Bool.not_eq_false, Bool.not_eq_true] at *); (try simp only [← Int32.not_lt, ← Int64.not_lt, Classical.not_not] at *); simp [xjo, mc_b, *]; done) | (simp_all [xjo, mc_b, mc_b0]; done) | (simp_all [xjo, mc_b, Int32.le_iff_toInt_le, Int32.lt_iff_toInt_lt] <;> omega)), rfl⟩
      · skip
        refine e_iconst (v := 1) (pc := 52) dX5_joined_52 (by decide) ?_
        refine e_goto (pc := 53) dX5_joined_53 (t := 57) (by decide) ?_
        exact e_iret (pc := 57) dX5_joined_57 rfl (Nat.le_refl _) (Nat.le_refl _) ⟨(by first | rfl | (simp [xjo, mc_b, *]; done) | ((try simp only [mc_cmp_le, mc_cmp_ge, mc_cmp_eq, mc_cmp_lt, mc_cmp_gt, mc_b0, mc_b1, Bool.not_eq_false, Bool.not_eq_true] at *); (try simp only [← Int32.not_lt, ← Int64.not_lt, Classical.not_not] at *); simp [xjo, mc_b, *]; done) | (simp_all [xjo, mc_b, mc_b0]; done) | (simp_all [xjo, mc_b, Int32.le_iff_toInt_le, Int32.lt_iff_toInt_lt] <;> omega)), rfl⟩
  refine e_tabOut (pc := 1) (t := 102) dX5_joined_1 (mc_tabout (by decide) (fun k h1 h2 => ?_)) (by decide) ?_
  · rcases (show k = -17 ∨ k = -16 ∨ k = -15 ∨ k = -14 ∨ k = -13 ∨ k = -12 ∨ k = -11 by omega) with rfl | rfl | rfl | rfl | rfl | rfl | rfl <;> assumption
  refine e_iloadn (pc := 102) dX5_joined_102 rfl ?_
  refine e_iloadn (pc := 103) dX5_joined_103 rfl ?_
  refine e_imul (pc := 104) dX5_joined_104 ?_
  exact e_iret (pc := 105) dX5_joined_105 rfl (Nat.le_refl _) (Nat.le_refl _) ⟨(by first | rfl | (simp [xjo, mc_b, *]; done) | ((try simp only [mc_cmp_le, mc_cmp_ge, mc_cmp_eq, mc_cmp_lt, mc_cmp_gt, mc_b0, mc_b1, Bool.not_eq_false, Bool.not_eq_true] at *); (try simp only [← Int32.not_lt, ← Int64.not_lt, Classical.not_not] at *); simp [xjo, mc_b, *]; done) | (simp_all [xjo, mc_b, mc_b0]; done) | (simp_all [xjo, mc_b, Int32.le_iff_toInt_le, Int32.lt_iff_toInt_lt] <;> omega)), rfl⟩
theorem xjo_two {co x y : Int32} (h : mc_wi co 11 18 = true) (h13 : ¬ co = 13) : xjo (-co) x y = yy_two co x y := by
  rw [mc_wi_iff, show (11 : Int32).toInt = 11 from rfl, show (18 : Int32).toInt = 18 from rfl] at h
  have : co.toInt = 11 ∨ co.toInt = 12 ∨ co.toInt = 13 ∨ co.toInt = 14 ∨ co.toInt = 15 ∨ co.toInt = 16 ∨ co.toInt = 17 ∨ co.toInt = 18 := by omega
  rcases this with q | q | q | q | q | q | q | q
  · obtain rfl : co = 11 := Int32.toInt_inj.mp q
    rfl
  · obtain rfl : co = 12 := Int32.toInt_inj.mp q
    rfl
  · exact absurd (Int32.toInt_inj.mp q) h13
  · obtain rfl : co = 14 := Int32.toInt_inj.mp q
    rfl
  · obtain rfl : co = 15 := Int32.toInt_inj.mp q
    rfl
  · obtain rfl : co = 16 := Int32.toInt_inj.mp q
    rfl
  · obtain rfl : co = 17 := Int32.toInt_inj.mp q
    rfl
  · obtain rfl : co = 18 := Int32.toInt_inj.mp q
    rfl
/-- a code's kind, and what the class has for it -/
theorem xdp_cases {x : Int32} {r : List Int32} {n : Nat} (h : xdp (x :: r) n = true) :
    (∃ j, j < 10000 ∧ x = nI (100000 + j) ∧ cm x = nI j ∧ n < 48 ∧ xdp r (n + 1) = true) ∨ (∃ j, j < 6 ∧ x = nI j ∧ cm x = -1 - nI j ∧ n < 48 ∧ xdp r (n + 1) = true) ∨
    ((x = 13 ∨ x = 19) ∧ cm x = -x ∧ 1 ≤ n ∧ xdp r n = true) ∨ (mc_wi x 11 18 = true ∧ ¬ x = 13 ∧ cm x = -x ∧ 2 ≤ n ∧ xdp r (n - 1) = true) := by
  simp only [xdp] at h
  by_cases h1 : mc_wi x 100000 109999 = true
  · rw [if_pos (by rw [h1]; rfl)] at h
    simp only [Bool.and_eq_true, decide_eq_true_eq] at h
    rw [mc_wi_iff, show (100000 : Int32).toInt = 100000 from rfl, show (109999 : Int32).toInt = 109999 from rfl] at h1
    have e : x = nI (100000 + (x.toInt.toNat - 100000)) := by
      apply Int32.toInt_inj.mp; rw [nI_toInt (by omega)]; omega
    refine Or.inl ⟨x.toInt.toNat - 100000, by omega, e, ?_, h.1, h.2⟩
    unfold cm
    rw [if_pos (by rw [Int32.le_iff_toInt_le, show (100000 : Int32).toInt = 100000 from rfl]; omega)]
    conv => lhs; rw [e]
    rw [show (100000 : Int32) = nI 100000 from rfl, pk_sub (by omega), show 100000 + (x.toInt.toNat - 100000) - 100000 = x.toInt.toNat - 100000 by omega]
  by_cases h2 : mc_wi x 0 5 = true
  · rw [if_pos (by rw [h2]; simp)] at h
    simp only [Bool.and_eq_true, decide_eq_true_eq] at h
    rw [mc_wi_iff, i0, show (5 : Int32).toInt = 5 from rfl] at h2
    have e : x = nI x.toInt.toNat := by
      apply Int32.toInt_inj.mp; rw [nI_toInt (by omega)]; omega
    refine Or.inr (Or.inl ⟨x.toInt.toNat, by omega, e, ?_, h.1, h.2⟩)
    unfold cm
    rw [if_neg (by rw [Int32.le_iff_toInt_le, show (100000 : Int32).toInt = 100000 from rfl]; omega), if_pos (by rw [Int32.lt_iff_toInt_lt, show (11 : Int32).toInt = 11 from rfl]; omega)]
    conv => lhs; rw [e]
  rw [if_neg (by simp [h1, h2])] at h
  by_cases h3 : x = 13 ∨ x = 19
  · rw [if_pos h3] at h
    simp only [Bool.and_eq_true, decide_eq_true_eq] at h
    refine Or.inr (Or.inr (Or.inl ⟨h3, ?_, h.1, h.2⟩))
    rcases h3 with rfl | rfl <;> rfl
  · rw [if_neg h3] at h
    simp only [Bool.and_eq_true, decide_eq_true_eq] at h
    refine Or.inr (Or.inr (Or.inr ⟨h.1.1, fun q => h3 (Or.inl q), ?_, h.1.2, h.2⟩))
    have h4 := h.1.1
    rw [mc_wi_iff, show (11 : Int32).toInt = 11 from rfl, show (18 : Int32).toInt = 18 from rfl] at h4
    unfold cm
    rw [if_neg (by rw [Int32.le_iff_toInt_le, show (100000 : Int32).toInt = 100000 from rfl]; omega), if_neg (by rw [Int32.lt_iff_toInt_lt, show (11 : Int32).toInt = 11 from rfl]; omega)]
theorem nm_1 {j : Nat} (hj : j < 6) : (-1 : Int32) - (-1 - nI j) = nI j := (show ∀ j, j < 6 → (-1 : Int32) - (-1 - nI j) = nI j by decide +kernel) j hj
theorem sp_x_nameValue {s u m n : Nat → Int32} {a c b d : Nat → List Int32} {q : List (Option Nat)} {h : Nat} {z : mc_W} {j : Nat} {l : List Int32} (hj : j < 6) (hl : c 3 = l) (h6 : l.length = 6) : mc_D yX5_nameValue cX5_nameValue 3 (some .int) 1 [.int (-1 - nI j), .ref 18] (WW s a q u c h m b n d z) (some (.int (gt l (nI j)))) (WW s a q u c h m b n d z) := by
  refine mc_start (own := RX5) (ini := false) rfl (by decide +kernel) (fun h => by cases h) (Nat.le_of_ble_eq_true rfl) ?_
  show mc_E _ _ _ _ _ [some (.int (-1 - nI j)), some (.ref 18), none] [] _ _ _
  refine e_iconst (v := -1) (pc := 0) dX5_nameValue_0 (by decide) ?_
  refine e_iloadn (pc := 1) dX5_nameValue_1 rfl ?_
  refine e_isub (pc := 2) dX5_nameValue_2 ?_
  rw [nm_1 hj]
  refine e_isn2 (pc := 3) dX5_nameValue_3 (Nat.le_of_ble_eq_true rfl) rfl ?_
  refine e_iloadn (pc := 4) dX5_nameValue_4 rfl ?_
  refine e_if_lt (pc := 5) dX5_nameValue_5 (t := 20) (by decide) (fun c_5 => absurd c_5 (nI_pos (by omega))) (fun _ => ?_)
  refine e_iloadn (pc := 8) dX5_nameValue_8 rfl ?_
  refine e_aloadn (pc := 9) dX5_nameValue_9 rfl ?_
  refine e_alen (pc := 10) dX5_nameValue_10 rfl (show Int32.ofNat (c 3).length = 6 by rw [hl, h6]; rfl) ?_
  refine e_icmp_ge (pc := 11) dX5_nameValue_11 (t := 20) (by decide) (fun c_11 => absurd c_11 (nI_ge (b := 6) hj (by decide))) (fun _ => ?_)
  refine e_aloadn (pc := 14) dX5_nameValue_14 rfl ?_
  refine e_iloadn (pc := 15) dX5_nameValue_15 rfl ?_
  refine aldv_names (pc := 16) dX5_nameValue_16 (by rw [hl, h6]; exact vp_in_nI hj (by decide)) (by rw [hl]) ?_
  refine e_goto (pc := 17) dX5_nameValue_17 (t := 21) (by decide) ?_
  exact e_iret (pc := 21) dX5_nameValue_21 rfl (Nat.le_refl _) (Nat.le_refl _) ⟨rfl, rfl⟩
theorem lp_x_rk {s u m n : Nat → Int32} {a c b d : Nat → List Int32} {q : List (Option Nat)} {h0 h : Nat} {z : mc_W} {cd nm : List Int32} {sa ca pt fr V : Int32} {e : Nat} (hX : xTz q z h cd sa ca) (hnm : c 3 = nm) (h6 : nm.length = 6) (he : e ≤ cd.length) (hcd : cd.length ≤ 160) :
    ∀ (r st : List Int32) (k N : Nat) (l : List Int32) (x8 x9 : Option Value), l.length = 48 → N = st.length → l.take N = st.reverse → k + r.length = e → (∀ i, i < r.length → cd.getD (k + i) 0 = cm (r.getD i 0)) → xdp r N = true → yev nm r st = V →
      mc_E RX5 cX5_reckon 10 (mc_JM (some .int) false 3 0 0 (fun r' w' => r' = some (.int V) ∧ ∃ l1, l1.length = 48 ∧ w' = (WW s a q u (mc_up c 4 l1) h0 m b n d z))) 67 [some (.ref h), some (.int pt), some (.ref 18), some (.ref 19), some (.int fr), some (.int (nI e)), some (.int (nI N)), some (.int (nI k)), x8, x9] [] (WW s a q u (mc_up c 4 l) h0 m b n d z) 0 0 := by
  intro r
  induction r with
  | nil =>
    intro st k N l x8 x9 hl hN hst hkr hrr hdp hV
    have hke : k = e := by simpa using hkr
    have h1 : N = 1 := by simpa [xdp] using hdp
    obtain ⟨v, rfl⟩ : ∃ v, st = [v] := by
      match st, hN with
      | [v], _ => exact ⟨v, rfl⟩
      | [], hN => simp at hN; omega
      | _ :: _ :: _, hN => simp at hN; omega
    have h0 := (tk_last hst hN).2.1
    subst h1
    have hx0 : ((mc_up c 4 l) 4).getD (0 : Int32).toNatClampNeg 0 = V := by rw [← hV]; exact h0
    have hi0 : vp_in (0 : Int32) ((mc_up c 4 l) 4).length := by rw [up_at, hl]; exact vp_in_nI (n := 0) (by decide) (by decide)
    refine e_iload (pc := 67) dX5_reckon_67 rfl ?_
    refine e_iload (pc := 69) dX5_reckon_69 rfl ?_
    refine e_icmp_ge (pc := 71) dX5_reckon_71 (t := 229) (by decide) (fun _ => ?_) (fun c_71 => absurd (by rw [hke]; exact nI_le (Nat.le_refl _) (by omega)) c_71)
    refine e_iload (pc := 229) dX5_reckon_229 rfl ?_
    refine e_iconst (v := 1) (pc := 231) dX5_reckon_231 (by decide) ?_
    refine e_icmp_ne (pc := 232) dX5_reckon_232 (t := 241) (by decide) (fun c_232 => absurd c_232 (fun c => c (by decide))) (fun _ => ?_)
    refine e_aloadn (pc := 235) dX5_reckon_235 rfl ?_
    refine e_iconst (v := 0) (pc := 236) dX5_reckon_236 (by decide) ?_
    refine aldv_stack (pc := 237) dX5_reckon_237 hi0 hx0 ?_
    refine e_goto (pc := 238) dX5_reckon_238 (t := 242) (by decide) ?_
    exact e_iret (pc := 242) dX5_reckon_242 rfl (Nat.le_refl _) (Nat.le_refl _) ⟨rfl, l, hl, rfl⟩
  | cons co r ih =>
    intro st k N l x8 x9 hl hN hst hkr hrr hdp hV
    have hk : k < e := by simp at hkr; omega
    have hc : cd.getD (nI k).toNatClampNeg 0 = cm co := by rw [nIc (by omega)]; simpa using hrr 0 (by simp)
    have hik : vp_in (nI k) cd.length := vp_in_nI (by omega) (by omega)
    have hkr2 : k + 1 + r.length = e := by simp at hkr; omega
    have hrr2 : ∀ i, i < r.length → cd.getD (k + 1 + i) 0 = cm (r.getD i 0) := fun i hi => by
      have := hrr (i + 1) (by simp; omega)
      rw [show k + 1 + i = k + (i + 1) by omega, this]
      simp
    have N48 : N ≤ 48 := by
      have := congrArg List.length hst
      rw [List.length_take, List.length_reverse, ← hN, hl] at this
      omega
    have e44 : ∀ l : List Int32, (mc_up c 4 l) 4 = l := fun l => rfl
    simp only [yev] at hV
    rcases xdp_cases hdp with ⟨j, hj, rfl, hcm, hn, hd2⟩ | ⟨j, hj, rfl, hcm, hn, hd2⟩ | ⟨hco, hcm, hn, hd2⟩ | ⟨hco, h13, hcm, hn, hd2⟩
    · have PU : ∀ v x8 x9, v = nI j → mc_E RX5 cX5_reckon 10 (mc_JM (some .int) false 3 0 0 (fun r' w' => r' = some (.int V) ∧ ∃ l1, l1.length = 48 ∧ w' = (WW s a q u (mc_up c 4 l1) h0 m b n d z))) 67 [some (.ref h), some (.int pt), some (.ref 18), some (.ref 19), some (.int fr), some (.int (nI e)), some (.int (nI (N + 1))), some (.int (nI (k + 1))), x8, x9] [] (WW s a q u (mc_up c 4 (l.set N v)) h0 m b n d z) 0 0 := by
        intro v x8 x9 hv
        refine ih (v :: st) (k + 1) (N + 1) _ _ _ (by rw [List.length_set]; exact hl) (by rw [hN]; rfl) ?_ hkr2 hrr2 hd2 ?_
        · rw [tk_set _ _ _ (by rw [hl]; exact hn), hst, List.reverse_cons]
        · rw [← hV]; unfold ystep
          have q1 : (100000 : Int32) ≤ nI (100000 + j) := by rw [show (100000 : Int32) = nI 100000 from rfl]; exact nI_le (by omega) (by omega)
          rw [if_pos (Or.inl q1), if_neg (Int32.not_lt.mpr (by rw [show (11 : Int32) = nI 11 from rfl]; exact nI_le (by omega) (by omega))), hv]
          rw [show (100000 : Int32) = nI 100000 from rfl, pk_sub (by omega), show 100000 + j - 100000 = j by omega]
      refine e_iload (pc := 67) dX5_reckon_67 rfl ?_
      refine e_iload (pc := 69) dX5_reckon_69 rfl ?_
      refine e_icmp_ge (pc := 71) dX5_reckon_71 (t := 229) (by decide) (fun c_71 => absurd c_71 (nI_ge hk (by omega))) (fun _ => ?_)
      refine e_iload (pc := 74) dX5_reckon_74 rfl ?_
      refine e_aloadn (pc := 76) dX5_reckon_76 rfl ?_
      refine e_get (pc := 77) dX5_reckon_77 fX5_9 ((hX _ _ _ _ _ _ _ _ _).1) rfl ?_
      refine e_alen (pc := 80) dX5_reckon_80 ((hX _ _ _ _ _ _ _ _ _).2) (show Int32.ofNat cd.length = nI cd.length from rfl) ?_
      refine e_icmp_ge (pc := 81) dX5_reckon_81 (t := 229) (by decide) (fun c_81 => absurd c_81 (nI_ge (by omega) (by omega))) (fun _ => ?_)
      refine e_aloadn (pc := 84) dX5_reckon_84 rfl ?_
      refine e_get (pc := 85) dX5_reckon_85 fX5_9 ((hX _ _ _ _ _ _ _ _ _).1) rfl ?_
      refine e_iload (pc := 88) dX5_reckon_88 rfl ?_
      refine e_iald (pc := 90) dX5_reckon_90 ((hX _ _ _ _ _ _ _ _ _).2) hik (hc.trans hcm) ?_
      refine e_isw8 (pc := 91) dX5_reckon_91 (Nat.le_of_ble_eq_true rfl) rfl ?_
      refine e_iload (pc := 93) dX5_reckon_93 rfl ?_
      refine e_bipush (v := -6) (pc := 95) dX5_reckon_95 (by decide) ?_
      refine e_icmp_lt (pc := 97) dX5_reckon_97 (t := 133) (by decide) (fun c_97 => absurd c_97 (fun c => absurd c (Int32.not_lt.mpr (Int32.le_trans (by decide : (-6 : Int32) ≤ 0) (nI_pos' (by omega)))))) (fun _ => ?_)
      refine e_iload (pc := 100) dX5_reckon_100 rfl ?_
      refine e_aloadn (pc := 102) dX5_reckon_102 rfl ?_
      refine e_alen (pc := 103) dX5_reckon_103 rfl (show Int32.ofNat ((mc_up c 4 l) 4).length = nI 48 by rw [e44, hl]; rfl) ?_
      refine e_icmp_ge (pc := 104) dX5_reckon_104 (t := 223) (by decide) (fun c_104 => absurd c_104 (nI_ge hn (by decide))) (fun _ => ?_)
      refine e_aloadn (pc := 107) dX5_reckon_107 rfl ?_
      refine e_iload (pc := 108) dX5_reckon_108 rfl ?_
      refine e_iload (pc := 110) dX5_reckon_110 rfl ?_
      refine e_if_lt (pc := 112) dX5_reckon_112 (t := 120) (by decide) (fun c_112 => absurd c_112 (nI_pos (by omega))) (fun _ => ?_)
      refine e_iload (pc := 115) dX5_reckon_115 rfl ?_
      refine e_goto (pc := 117) dX5_reckon_117 (t := 126) (by decide) ?_
      refine ast_stack (pc := 126) dX5_reckon_126 (by rw [e44, hl]; exact vp_in_nI hn (by decide)) ?_
      refine e_incC6 (pc := 127) dX5_reckon_127 (nI_1 N) (Nat.le_of_ble_eq_true rfl) rfl ?_
      refine e_goto (pc := 130) dX5_reckon_130 (t := 223) (by decide) ?_
      refine e_incC7 (pc := 223) dX5_reckon_223 (nI_1 k) (Nat.le_of_ble_eq_true rfl) rfl ?_
      refine e_goto (pc := 226) dX5_reckon_226 (t := 67) (by decide) ?_
      refine e_w (w2 := (WW s a q u (mc_up c 4 (l.set N (nI j))) h0 m b n d z)) (by rw [up_up, e44, nIc (by omega)]) ?_
      exact PU _ _ _ rfl
    · have PU : ∀ v x8 x9, v = gt nm (nI j) → mc_E RX5 cX5_reckon 10 (mc_JM (some .int) false 3 0 0 (fun r' w' => r' = some (.int V) ∧ ∃ l1, l1.length = 48 ∧ w' = (WW s a q u (mc_up c 4 l1) h0 m b n d z))) 67 [some (.ref h), some (.int pt), some (.ref 18), some (.ref 19), some (.int fr), some (.int (nI e)), some (.int (nI (N + 1))), some (.int (nI (k + 1))), x8, x9] [] (WW s a q u (mc_up c 4 (l.set N v)) h0 m b n d z) 0 0 := by
        intro v x8 x9 hv
        refine ih (v :: st) (k + 1) (N + 1) _ _ _ (by rw [List.length_set]; exact hl) (by rw [hN]; rfl) ?_ hkr2 hrr2 hd2 ?_
        · rw [tk_set _ _ _ (by rw [hl]; exact hn), hst, List.reverse_cons]
        · rw [← hV]; unfold ystep
          have q1 : nI j < 11 := by rw [show (11 : Int32) = nI 11 from rfl]; exact nI_lt (by omega) (by omega)
          rw [if_pos (Or.inr q1), if_pos q1, hv]
      have q6 : ¬ (-1 - nI j : Int32) < -6 := (show ∀ j, j < 6 → ¬ (-1 - nI j : Int32) < -6 by decide +kernel) j hj
      have q0 : (-1 - nI j : Int32) < 0 := (show ∀ j, j < 6 → (-1 - nI j : Int32) < 0 by decide +kernel) j hj
      refine e_iload (pc := 67) dX5_reckon_67 rfl ?_
      refine e_iload (pc := 69) dX5_reckon_69 rfl ?_
      refine e_icmp_ge (pc := 71) dX5_reckon_71 (t := 229) (by decide) (fun c_71 => absurd c_71 (nI_ge hk (by omega))) (fun _ => ?_)
      refine e_iload (pc := 74) dX5_reckon_74 rfl ?_
      refine e_aloadn (pc := 76) dX5_reckon_76 rfl ?_
      refine e_get (pc := 77) dX5_reckon_77 fX5_9 ((hX _ _ _ _ _ _ _ _ _).1) rfl ?_
      refine e_alen (pc := 80) dX5_reckon_80 ((hX _ _ _ _ _ _ _ _ _).2) (show Int32.ofNat cd.length = nI cd.length from rfl) ?_
      refine e_icmp_ge (pc := 81) dX5_reckon_81 (t := 229) (by decide) (fun c_81 => absurd c_81 (nI_ge (by omega) (by omega))) (fun _ => ?_)
      refine e_aloadn (pc := 84) dX5_reckon_84 rfl ?_
      refine e_get (pc := 85) dX5_reckon_85 fX5_9 ((hX _ _ _ _ _ _ _ _ _).1) rfl ?_
      refine e_iload (pc := 88) dX5_reckon_88 rfl ?_
      refine e_iald (pc := 90) dX5_reckon_90 ((hX _ _ _ _ _ _ _ _ _).2) hik (hc.trans hcm) ?_
      refine e_isw8 (pc := 91) dX5_reckon_91 (Nat.le_of_ble_eq_true rfl) rfl ?_
      refine e_iload (pc := 93) dX5_reckon_93 rfl ?_
      refine e_bipush (v := -6) (pc := 95) dX5_reckon_95 (by decide) ?_
      refine e_icmp_lt (pc := 97) dX5_reckon_97 (t := 133) (by decide) (fun c_97 => absurd c_97 q6) (fun _ => ?_)
      refine e_iload (pc := 100) dX5_reckon_100 rfl ?_
      refine e_aloadn (pc := 102) dX5_reckon_102 rfl ?_
      refine e_alen (pc := 103) dX5_reckon_103 rfl (show Int32.ofNat ((mc_up c 4 l) 4).length = nI 48 by rw [e44, hl]; rfl) ?_
      refine e_icmp_ge (pc := 104) dX5_reckon_104 (t := 223) (by decide) (fun c_104 => absurd c_104 (nI_ge hn (by decide))) (fun _ => ?_)
      refine e_aloadn (pc := 107) dX5_reckon_107 rfl ?_
      refine e_iload (pc := 108) dX5_reckon_108 rfl ?_
      refine e_iload (pc := 110) dX5_reckon_110 rfl ?_
      refine e_if_lt (pc := 112) dX5_reckon_112 (t := 120) (by decide) (fun _ => ?_) (fun c_112 => absurd q0 c_112)
      refine e_iload (pc := 120) dX5_reckon_120 rfl ?_
      refine e_aloadn (pc := 122) dX5_reckon_122 rfl ?_
      refine e_csD (pc := 123) (sp_x_nameValue (c := mc_up c 4 l) hj (show (mc_up c 4 l) 3 = nm from hnm) h6) dX5_reckon_123 kX5_28 rfl rfl (mc_CR_of (Nat.le_of_ble_eq_true rfl) (Nat.le_of_ble_eq_true rfl) (Nat.le_refl _) (Nat.le_refl _)) (Nat.le_of_ble_eq_true rfl) ?_
      refine ast_stack (pc := 126) dX5_reckon_126 (by rw [e44, hl]; exact vp_in_nI hn (by decide)) ?_
      refine e_incC6 (pc := 127) dX5_reckon_127 (nI_1 N) (Nat.le_of_ble_eq_true rfl) rfl ?_
      refine e_goto (pc := 130) dX5_reckon_130 (t := 223) (by decide) ?_
      refine e_incC7 (pc := 223) dX5_reckon_223 (nI_1 k) (Nat.le_of_ble_eq_true rfl) rfl ?_
      refine e_goto (pc := 226) dX5_reckon_226 (t := 67) (by decide) ?_
      refine e_w (w2 := (WW s a q u (mc_up c 4 (l.set N (gt nm (nI j)))) h0 m b n d z)) (by rw [up_up, e44, nIc (by omega)]) ?_
      exact PU _ _ _ rfl
    · have UN : vp_in (nI N - 1) ((mc_up c 4 l) 4).length ∧ ∀ v x8 x9, v = (if co = 13 then (if ((mc_up c 4 l) 4).getD (nI N - 1).toNatClampNeg 0 = 0 then 1 else 0) else -(((mc_up c 4 l) 4).getD (nI N - 1).toNatClampNeg 0)) → mc_E RX5 cX5_reckon 10 (mc_JM (some .int) false 3 0 0 (fun r' w' => r' = some (.int V) ∧ ∃ l1, l1.length = 48 ∧ w' = (WW s a q u (mc_up c 4 l1) h0 m b n d z))) 67 [some (.ref h), some (.int pt), some (.ref 18), some (.ref 19), some (.int fr), some (.int (nI e)), some (.int (nI N)), some (.int (nI (k + 1))), x8, x9] [] (WW s a q u (mc_up c 4 (l.set (nI N - 1).toNatClampNeg v)) h0 m b n d z) 0 0 := by
        match st, hN, hst, hV with
        | [], hN, _, _ => simp at hN; omega
        | x :: st, hN, hst, hV =>
          obtain ⟨k1, k2, k3⟩ := tk_last hst hN
          have hc2 : (nI N - 1).toNatClampNeg = N - 1 := by rw [nI_sub1 hn, nIc (by omega)]
          refine ⟨by rw [nI_sub1 hn]; exact vp_in_nI k3 (by rw [e44, hl]; decide), fun v x8 x9 hv => ?_⟩
          rw [hc2, e44, k2] at hv
          rw [hc2]
          refine ih (v :: st) (k + 1) N _ _ _ (by rw [List.length_set]; exact hl) (by rw [hN]; rfl) ?_ hkr2 hrr2 hd2 ?_
          · have := tk_set l (N - 1) v k3
            rw [show N - 1 + 1 = N by omega] at this
            rw [this, k1, List.reverse_cons]
          · rw [← hV]; unfold ystep
            rcases hco with h | h
            · subst h; rw [if_neg (by decide), if_pos rfl, hv, if_pos rfl]
            · subst h; rw [if_neg (by decide), if_neg (by decide), if_pos rfl, hv, if_neg (by decide)]
      have hn1 : ¬ nI N < 1 := Int32.not_lt.mpr (nI_le (a := 1) hn (by omega))
      rcases hco with rfl | rfl
      · skip
        refine e_iload (pc := 67) dX5_reckon_67 rfl ?_
        refine e_iload (pc := 69) dX5_reckon_69 rfl ?_
        refine e_icmp_ge (pc := 71) dX5_reckon_71 (t := 229) (by decide) (fun c_71 => absurd c_71 (nI_ge hk (by omega))) (fun _ => ?_)
        refine e_iload (pc := 74) dX5_reckon_74 rfl ?_
        refine e_aloadn (pc := 76) dX5_reckon_76 rfl ?_
        refine e_get (pc := 77) dX5_reckon_77 fX5_9 ((hX _ _ _ _ _ _ _ _ _).1) rfl ?_
        refine e_alen (pc := 80) dX5_reckon_80 ((hX _ _ _ _ _ _ _ _ _).2) (show Int32.ofNat cd.length = nI cd.length from rfl) ?_
        refine e_icmp_ge (pc := 81) dX5_reckon_81 (t := 229) (by decide) (fun c_81 => absurd c_81 (nI_ge (by omega) (by omega))) (fun _ => ?_)
        refine e_aloadn (pc := 84) dX5_reckon_84 rfl ?_
        refine e_get (pc := 85) dX5_reckon_85 fX5_9 ((hX _ _ _ _ _ _ _ _ _).1) rfl ?_
        refine e_iload (pc := 88) dX5_reckon_88 rfl ?_
        refine e_iald (pc := 90) dX5_reckon_90 (x := -13) ((hX _ _ _ _ _ _ _ _ _).2) hik (hc.trans (hcm.trans (by decide))) ?_
        refine e_isw8 (pc := 91) dX5_reckon_91 (Nat.le_of_ble_eq_true rfl) rfl ?_
        refine e_iload (pc := 93) dX5_reckon_93 rfl ?_
        refine e_bipush (v := -6) (pc := 95) dX5_reckon_95 (by decide) ?_
        refine e_icmp_lt (pc := 97) dX5_reckon_97 (t := 133) (by decide) (fun _ => ?_) (fun c_97 => absurd (by decide) c_97)
        refine e_iload (pc := 133) dX5_reckon_133 rfl ?_
        refine e_bipush (v := -13) (pc := 135) dX5_reckon_135 (by decide) ?_
        refine e_icmp_eq (pc := 137) dX5_reckon_137 (t := 147) (by decide) (fun _ => ?_) (fun c_137 => absurd rfl c_137)
        refine e_iload (pc := 147) dX5_reckon_147 rfl ?_
        refine e_iconst (v := 1) (pc := 149) dX5_reckon_149 (by decide) ?_
        refine e_icmp_lt (pc := 150) dX5_reckon_150 (t := 223) (by decide) (fun c_150 => absurd c_150 hn1) (fun _ => ?_)
        refine e_aloadn (pc := 153) dX5_reckon_153 rfl ?_
        refine e_iload (pc := 154) dX5_reckon_154 rfl ?_
        refine e_iconst (v := 1) (pc := 156) dX5_reckon_156 (by decide) ?_
        refine e_isub (pc := 157) dX5_reckon_157 ?_
        refine ald_stack (pc := 158) dX5_reckon_158 UN.1 ?_
        refine e_isw9 (pc := 159) dX5_reckon_159 (Nat.le_of_ble_eq_true rfl) rfl ?_
        refine e_aloadn (pc := 161) dX5_reckon_161 rfl ?_
        refine e_iload (pc := 162) dX5_reckon_162 rfl ?_
        refine e_iconst (v := 1) (pc := 164) dX5_reckon_164 (by decide) ?_
        refine e_isub (pc := 165) dX5_reckon_165 ?_
        refine e_iload (pc := 166) dX5_reckon_166 rfl ?_
        refine e_bipush (v := -19) (pc := 168) dX5_reckon_168 (by decide) ?_
        refine e_icmp_ne (pc := 170) dX5_reckon_170 (t := 179) (by decide) (fun _ => ?_) (fun c_170 => absurd c_170 (by decide))
        refine e_iload (pc := 179) dX5_reckon_179 rfl ?_
        refine e_if_ne (pc := 181) dX5_reckon_181 (t := 188) (by decide) (fun c_181 => ?_) (fun c_181 => ?_)
        · skip
          refine e_iconst (v := 0) (pc := 188) dX5_reckon_188 (by decide) ?_
          refine ast_stack (pc := 189) dX5_reckon_189 UN.1 ?_
          refine e_goto (pc := 190) dX5_reckon_190 (t := 223) (by decide) ?_
          refine e_incC7 (pc := 223) dX5_reckon_223 (nI_1 k) (Nat.le_of_ble_eq_true rfl) rfl ?_
          refine e_goto (pc := 226) dX5_reckon_226 (t := 67) (by decide) ?_
          refine e_w (w2 := (WW s a q u (mc_up c 4 (l.set (nI N - 1).toNatClampNeg _)) h0 m b n d z)) (by rw [up_up, e44]) ?_
          exact UN.2 _ _ _ (by rw [if_pos rfl, if_neg c_181])
        · skip
          refine e_iconst (v := 1) (pc := 184) dX5_reckon_184 (by decide) ?_
          refine e_goto (pc := 185) dX5_reckon_185 (t := 189) (by decide) ?_
          refine ast_stack (pc := 189) dX5_reckon_189 UN.1 ?_
          refine e_goto (pc := 190) dX5_reckon_190 (t := 223) (by decide) ?_
          refine e_incC7 (pc := 223) dX5_reckon_223 (nI_1 k) (Nat.le_of_ble_eq_true rfl) rfl ?_
          refine e_goto (pc := 226) dX5_reckon_226 (t := 67) (by decide) ?_
          refine e_w (w2 := (WW s a q u (mc_up c 4 (l.set (nI N - 1).toNatClampNeg _)) h0 m b n d z)) (by rw [up_up, e44]) ?_
          exact UN.2 _ _ _ (by rw [if_pos rfl, if_pos c_181])
      · skip
        refine e_iload (pc := 67) dX5_reckon_67 rfl ?_
        refine e_iload (pc := 69) dX5_reckon_69 rfl ?_
        refine e_icmp_ge (pc := 71) dX5_reckon_71 (t := 229) (by decide) (fun c_71 => absurd c_71 (nI_ge hk (by omega))) (fun _ => ?_)
        refine e_iload (pc := 74) dX5_reckon_74 rfl ?_
        refine e_aloadn (pc := 76) dX5_reckon_76 rfl ?_
        refine e_get (pc := 77) dX5_reckon_77 fX5_9 ((hX _ _ _ _ _ _ _ _ _).1) rfl ?_
        refine e_alen (pc := 80) dX5_reckon_80 ((hX _ _ _ _ _ _ _ _ _).2) (show Int32.ofNat cd.length = nI cd.length from rfl) ?_
        refine e_icmp_ge (pc := 81) dX5_reckon_81 (t := 229) (by decide) (fun c_81 => absurd c_81 (nI_ge (by omega) (by omega))) (fun _ => ?_)
        refine e_aloadn (pc := 84) dX5_reckon_84 rfl ?_
        refine e_get (pc := 85) dX5_reckon_85 fX5_9 ((hX _ _ _ _ _ _ _ _ _).1) rfl ?_
        refine e_iload (pc := 88) dX5_reckon_88 rfl ?_
        refine e_iald (pc := 90) dX5_reckon_90 (x := -19) ((hX _ _ _ _ _ _ _ _ _).2) hik (hc.trans (hcm.trans (by decide))) ?_
        refine e_isw8 (pc := 91) dX5_reckon_91 (Nat.le_of_ble_eq_true rfl) rfl ?_
        refine e_iload (pc := 93) dX5_reckon_93 rfl ?_
        refine e_bipush (v := -6) (pc := 95) dX5_reckon_95 (by decide) ?_
        refine e_icmp_lt (pc := 97) dX5_reckon_97 (t := 133) (by decide) (fun _ => ?_) (fun c_97 => absurd (by decide) c_97)
        refine e_iload (pc := 133) dX5_reckon_133 rfl ?_
        refine e_bipush (v := -13) (pc := 135) dX5_reckon_135 (by decide) ?_
        refine e_icmp_eq (pc := 137) dX5_reckon_137 (t := 147) (by decide) (fun c_137 => absurd c_137 (by decide)) (fun _ => ?_)
        refine e_iload (pc := 140) dX5_reckon_140 rfl ?_
        refine e_bipush (v := -19) (pc := 142) dX5_reckon_142 (by decide) ?_
        refine e_icmp_ne (pc := 144) dX5_reckon_144 (t := 193) (by decide) (fun c_144 => absurd c_144 (fun c => c rfl)) (fun _ => ?_)
        refine e_iload (pc := 147) dX5_reckon_147 rfl ?_
        refine e_iconst (v := 1) (pc := 149) dX5_reckon_149 (by decide) ?_
        refine e_icmp_lt (pc := 150) dX5_reckon_150 (t := 223) (by decide) (fun c_150 => absurd c_150 hn1) (fun _ => ?_)
        refine e_aloadn (pc := 153) dX5_reckon_153 rfl ?_
        refine e_iload (pc := 154) dX5_reckon_154 rfl ?_
        refine e_iconst (v := 1) (pc := 156) dX5_reckon_156 (by decide) ?_
        refine e_isub (pc := 157) dX5_reckon_157 ?_
        refine ald_stack (pc := 158) dX5_reckon_158 UN.1 ?_
        refine e_isw9 (pc := 159) dX5_reckon_159 (Nat.le_of_ble_eq_true rfl) rfl ?_
        refine e_aloadn (pc := 161) dX5_reckon_161 rfl ?_
        refine e_iload (pc := 162) dX5_reckon_162 rfl ?_
        refine e_iconst (v := 1) (pc := 164) dX5_reckon_164 (by decide) ?_
        refine e_isub (pc := 165) dX5_reckon_165 ?_
        refine e_iload (pc := 166) dX5_reckon_166 rfl ?_
        refine e_bipush (v := -19) (pc := 168) dX5_reckon_168 (by decide) ?_
        refine e_icmp_ne (pc := 170) dX5_reckon_170 (t := 179) (by decide) (fun c_170 => absurd c_170 (fun c => c rfl)) (fun _ => ?_)
        refine e_iload (pc := 173) dX5_reckon_173 rfl ?_
        refine e_ineg (pc := 175) dX5_reckon_175 ?_
        refine e_goto (pc := 176) dX5_reckon_176 (t := 189) (by decide) ?_
        refine ast_stack (pc := 189) dX5_reckon_189 UN.1 ?_
        refine e_goto (pc := 190) dX5_reckon_190 (t := 223) (by decide) ?_
        refine e_incC7 (pc := 223) dX5_reckon_223 (nI_1 k) (Nat.le_of_ble_eq_true rfl) rfl ?_
        refine e_goto (pc := 226) dX5_reckon_226 (t := 67) (by decide) ?_
        refine e_w (w2 := (WW s a q u (mc_up c 4 (l.set (nI N - 1).toNatClampNeg _)) h0 m b n d z)) (by rw [up_up, e44]) ?_
        exact UN.2 _ _ _ (by rw [if_neg (by decide)]; rfl)
    · have BI : vp_in (nI (N - 1) - 1) ((mc_up c 4 l) 4).length ∧ vp_in (nI (N - 1)) ((mc_up c 4 l) 4).length ∧ ∀ v x8 x9, v = yy_two co (((mc_up c 4 l) 4).getD (nI (N - 1) - 1).toNatClampNeg 0) (((mc_up c 4 l) 4).getD (nI (N - 1)).toNatClampNeg 0) → mc_E RX5 cX5_reckon 10 (mc_JM (some .int) false 3 0 0 (fun r' w' => r' = some (.int V) ∧ ∃ l1, l1.length = 48 ∧ w' = (WW s a q u (mc_up c 4 l1) h0 m b n d z))) 67 [some (.ref h), some (.int pt), some (.ref 18), some (.ref 19), some (.int fr), some (.int (nI e)), some (.int (nI (N - 1))), some (.int (nI (k + 1))), x8, x9] [] (WW s a q u (mc_up c 4 (l.set (nI (N - 1) - 1).toNatClampNeg v)) h0 m b n d z) 0 0 := by
        match st, hN, hst, hV with
        | [], hN, _, _ => simp at hN; omega
        | [_], hN, _, _ => simp at hN; omega
        | y :: x :: st, hN, hst, hV =>
          obtain ⟨k1, k2, k3⟩ := tk_last hst hN
          obtain ⟨l1, l2, l3⟩ := tk_last k1 (by rw [hN]; rfl)
          have hc3 : (nI (N - 1) - 1).toNatClampNeg = N - 1 - 1 := by rw [nI_sub1 (by omega), nIc (by omega)]
          have hc4 : (nI (N - 1)).toNatClampNeg = N - 1 := nIc (by omega)
          refine ⟨by rw [nI_sub1 (by omega)]; exact vp_in_nI l3 (by rw [e44, hl]; decide), vp_in_nI k3 (by rw [e44, hl]; decide), fun v x8 x9 hv => ?_⟩
          rw [hc3, hc4, e44, k2, l2] at hv
          rw [hc3]
          refine ih (v :: st) (k + 1) (N - 1) _ _ _ (by rw [List.length_set]; exact hl) (by rw [hN]; simp) ?_ hkr2 hrr2 hd2 ?_
          · have := tk_set l (N - 1 - 1) v l3
            rw [show N - 1 - 1 + 1 = N - 1 by omega] at this
            rw [this, l1, List.reverse_cons]
          · rw [← hV]; unfold ystep
            have h4 := hco
            rw [mc_wi_iff, show (11 : Int32).toInt = 11 from rfl, show (18 : Int32).toInt = 18 from rfl] at h4
            rw [if_neg (by rw [Int32.le_iff_toInt_le, Int32.lt_iff_toInt_lt, show (100000 : Int32).toInt = 100000 from rfl, show (11 : Int32).toInt = 11 from rfl]; omega), if_neg h13, if_neg (fun q => by rw [q] at h4; exact absurd h4 (by decide)), hv]
      have hx : mc_wi co 11 18 = true := hco
      rw [mc_wi_iff, show (11 : Int32).toInt = 11 from rfl, show (18 : Int32).toInt = 18 from rfl] at hx
      have ng : (-co : Int32).toInt = -co.toInt := by rw [Int32.toInt_neg, Int.bmod_eq_of_le] <;> omega
      have g6 : (-co : Int32) < -6 := by rw [Int32.lt_iff_toInt_lt, ng, show (-6 : Int32).toInt = -6 from rfl]; omega
      have g13 : ¬ (-co : Int32) = -13 := fun q => h13 (Int32.neg_inj.mp q)
      have g19 : ¬ (-co : Int32) = -19 := fun q => by
        have : co = 19 := Int32.neg_inj.mp q
        rw [this] at hx; exact absurd hx (by decide)
      have hn2 : ¬ nI N < 2 := Int32.not_lt.mpr (nI_le (a := 2) hn (by omega))
      refine e_iload (pc := 67) dX5_reckon_67 rfl ?_
      refine e_iload (pc := 69) dX5_reckon_69 rfl ?_
      refine e_icmp_ge (pc := 71) dX5_reckon_71 (t := 229) (by decide) (fun c_71 => absurd c_71 (nI_ge hk (by omega))) (fun _ => ?_)
      refine e_iload (pc := 74) dX5_reckon_74 rfl ?_
      refine e_aloadn (pc := 76) dX5_reckon_76 rfl ?_
      refine e_get (pc := 77) dX5_reckon_77 fX5_9 ((hX _ _ _ _ _ _ _ _ _).1) rfl ?_
      refine e_alen (pc := 80) dX5_reckon_80 ((hX _ _ _ _ _ _ _ _ _).2) (show Int32.ofNat cd.length = nI cd.length from rfl) ?_
      refine e_icmp_ge (pc := 81) dX5_reckon_81 (t := 229) (by decide) (fun c_81 => absurd c_81 (nI_ge (by omega) (by omega))) (fun _ => ?_)
      refine e_aloadn (pc := 84) dX5_reckon_84 rfl ?_
      refine e_get (pc := 85) dX5_reckon_85 fX5_9 ((hX _ _ _ _ _ _ _ _ _).1) rfl ?_
      refine e_iload (pc := 88) dX5_reckon_88 rfl ?_
      refine e_iald (pc := 90) dX5_reckon_90 ((hX _ _ _ _ _ _ _ _ _).2) hik (hc.trans hcm) ?_
      refine e_isw8 (pc := 91) dX5_reckon_91 (Nat.le_of_ble_eq_true rfl) rfl ?_
      refine e_iload (pc := 93) dX5_reckon_93 rfl ?_
      refine e_bipush (v := -6) (pc := 95) dX5_reckon_95 (by decide) ?_
      refine e_icmp_lt (pc := 97) dX5_reckon_97 (t := 133) (by decide) (fun _ => ?_) (fun c_97 => absurd g6 c_97)
      refine e_iload (pc := 133) dX5_reckon_133 rfl ?_
      refine e_bipush (v := -13) (pc := 135) dX5_reckon_135 (by decide) ?_
      refine e_icmp_eq (pc := 137) dX5_reckon_137 (t := 147) (by decide) (fun c_137 => absurd c_137 g13) (fun _ => ?_)
      refine e_iload (pc := 140) dX5_reckon_140 rfl ?_
      refine e_bipush (v := -19) (pc := 142) dX5_reckon_142 (by decide) ?_
      refine e_icmp_ne (pc := 144) dX5_reckon_144 (t := 193) (by decide) (fun _ => ?_) (fun c_144 => absurd c_144 g19)
      refine e_iload (pc := 193) dX5_reckon_193 rfl ?_
      refine e_iconst (v := 2) (pc := 195) dX5_reckon_195 (by decide) ?_
      refine e_icmp_lt (pc := 196) dX5_reckon_196 (t := 223) (by decide) (fun c_196 => absurd c_196 hn2) (fun _ => ?_)
      refine e_incC6 (pc := 199) dX5_reckon_199 (nI_dec (by omega)) (Nat.le_of_ble_eq_true rfl) rfl ?_
      refine e_aloadn (pc := 202) dX5_reckon_202 rfl ?_
      refine e_iload (pc := 203) dX5_reckon_203 rfl ?_
      refine e_iconst (v := 1) (pc := 205) dX5_reckon_205 (by decide) ?_
      refine e_isub (pc := 206) dX5_reckon_206 ?_
      refine e_iload (pc := 207) dX5_reckon_207 rfl ?_
      refine e_aloadn (pc := 209) dX5_reckon_209 rfl ?_
      refine e_iload (pc := 210) dX5_reckon_210 rfl ?_
      refine e_iconst (v := 1) (pc := 212) dX5_reckon_212 (by decide) ?_
      refine e_isub (pc := 213) dX5_reckon_213 ?_
      refine ald_stack (pc := 214) dX5_reckon_214 BI.1 ?_
      refine e_aloadn (pc := 215) dX5_reckon_215 rfl ?_
      refine e_iload (pc := 216) dX5_reckon_216 rfl ?_
      refine ald_stack (pc := 218) dX5_reckon_218 BI.2.1 ?_
      refine e_csD (pc := 219) (sp_x_joined) dX5_reckon_219 kX5_32 rfl rfl (mc_CR_of (Nat.le_of_ble_eq_true rfl) (Nat.le_of_ble_eq_true rfl) (Nat.le_refl _) (Nat.le_refl _)) (Nat.le_of_ble_eq_true rfl) ?_
      rw [xjo_two hco h13]
      refine ast_stack (pc := 222) dX5_reckon_222 BI.1 ?_
      refine e_incC7 (pc := 223) dX5_reckon_223 (nI_1 k) (Nat.le_of_ble_eq_true rfl) rfl ?_
      refine e_goto (pc := 226) dX5_reckon_226 (t := 67) (by decide) ?_
      refine e_w (w2 := (WW s a q u (mc_up c 4 (l.set (nI (N - 1) - 1).toNatClampNeg _)) h0 m b n d z)) (by rw [up_up, e44]) ?_
      exact BI.2.2 _ _ _ rfl
