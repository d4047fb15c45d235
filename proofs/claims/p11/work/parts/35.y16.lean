theorem sp_y_drawn {s u m n : Nat → Int32} {a c b d : Nat → List Int32} {q : List (Option Nat)} {h : Nat} {z : mc_W} {sd k v : Int32} (hG : yG m b) (hD : yD d) : mc_T yX7_drawn cX7_drawn 4 (some .long) 7 [.ref 29, .int sd, .int k, .int v] (WW s a q u c h m b n d z) (some (.long (ydrawn m b sd k v))) (fun w' => ∃ n1 d1, yD d1 ∧ w' = WW s a q u c h m b n1 d1 z) := by
  refine mc_start (own := RX7) (ini := false) rfl (by decide +kernel) (fun h => by cases h) (Nat.le_of_ble_eq_true rfl) ?_
  show mc_E _ _ _ _ _ [some (.ref 29), some (.int sd), some (.int k), some (.int v)] [] _ _ _
  refine e_aloadn (pc := 0) dX7_drawn_0 rfl ?_
  refine e_iloadn (pc := 1) dX7_drawn_1 rfl ?_
  refine e_cvD (pc := 2) (sp_y_isClerk) dX7_drawn_2 kX7_159 rfl rfl rfl rfl rfl (mc_CR_of (Nat.le_of_ble_eq_true rfl) (Nat.le_of_ble_eq_true rfl) (Nat.le_refl _) (Nat.le_refl _)) (Nat.le_of_ble_eq_true rfl) ?_
  refine e_if_ne (pc := 5) dX7_drawn_5 (t := 12) (by decide) (fun c_5 => ?_) (fun c_5 => ?_)
  · skip
    refine e_iloadn (pc := 12) dX7_drawn_12 rfl ?_
    refine e_iconst (v := 0) (pc := 13) dX7_drawn_13 (by decide) ?_
    refine e_ldc (pc := 14) dX7_drawn_14 qX7_79 ?_
    refine e_csD (pc := 16) (sp_y_in) dX7_drawn_16 kX7_75 rfl rfl (mc_CR_of (Nat.le_of_ble_eq_true rfl) (Nat.le_of_ble_eq_true rfl) (Nat.le_refl _) (Nat.le_refl _)) (Nat.le_of_ble_eq_true rfl) ?_
    refine e_if_eq (pc := 19) dX7_drawn_19 (t := 39) (by decide) (fun c_19 => ?_) (fun c_19 => ?_)
    · skip
      refine e_ldc2 (pc := 39) dX7_drawn_39 qX7_192 ?_
      exact e_lret (pc := 42) dX7_drawn_42 rfl (Nat.le_refl _) (Nat.le_refl _) ⟨(by (try simp only [mc_cmp_le, mc_cmp_ge, mc_cmp_eq, mc_cmp_lt, mc_cmp_gt, mc_b0, mc_b1, Bool.not_eq_false, Bool.not_eq_true] at c_5 c_19); first | rfl | (simp [ydrawn, c_5, c_19]; done) | ((try simp only [← Int32.not_lt, ← Int64.not_lt, Classical.not_not] at c_5 c_19); simp [ydrawn, c_5, c_19])), by first | exact ⟨n1, d1, hD1, rfl⟩ | exact ⟨n, d, hD, rfl⟩⟩
    · skip
      refine e_iloadn (pc := 22) dX7_drawn_22 rfl ?_
      refine e_csD (pc := 23) (sp_y_isNumber) dX7_drawn_23 kX7_162 rfl rfl (mc_CR_of (Nat.le_of_ble_eq_true rfl) (Nat.le_of_ble_eq_true rfl) (Nat.le_refl _) (Nat.le_refl _)) (Nat.le_of_ble_eq_true rfl) ?_
      refine e_if_eq (pc := 26) dX7_drawn_26 (t := 39) (by decide) (fun c_26 => ?_) (fun c_26 => ?_)
      · skip
        refine e_ldc2 (pc := 39) dX7_drawn_39 qX7_192 ?_
        exact e_lret (pc := 42) dX7_drawn_42 rfl (Nat.le_refl _) (Nat.le_refl _) ⟨(by (try simp only [mc_cmp_le, mc_cmp_ge, mc_cmp_eq, mc_cmp_lt, mc_cmp_gt, mc_b0, mc_b1, Bool.not_eq_false, Bool.not_eq_true] at c_5 c_19 c_26); first | rfl | (simp [ydrawn, c_5, c_19, c_26]; done) | ((try simp only [← Int32.not_lt, ← Int64.not_lt, Classical.not_not] at c_5 c_19 c_26); simp [ydrawn, c_5, c_19, c_26])), by first | exact ⟨n1, d1, hD1, rfl⟩ | exact ⟨n, d, hD, rfl⟩⟩
      · skip
        refine e_aloadn (pc := 29) dX7_drawn_29 rfl ?_
        refine e_iloadn (pc := 30) dX7_drawn_30 rfl ?_
        refine e_iloadn (pc := 31) dX7_drawn_31 rfl ?_
        refine e_iloadn (pc := 32) dX7_drawn_32 rfl ?_
        refine e_cvX (pc := 33) (sp_y_slipsBy hG (mc_b1.mp c_5) (by simpa [mc_b0] using c_26) hD) dX7_drawn_33 kX7_283 rfl rfl rfl rfl rfl (mc_CR_of (Nat.le_of_ble_eq_true rfl) (Nat.le_of_ble_eq_true rfl) (Nat.le_refl _) (Nat.le_refl _)) (Nat.le_of_ble_eq_true rfl) (fun w1 hw1 => ?_)
        obtain ⟨n1, d1, hD1, rfl⟩ := hw1
        refine e_goto (pc := 36) dX7_drawn_36 (t := 42) (by decide) ?_
        exact e_lret (pc := 42) dX7_drawn_42 rfl (Nat.le_refl _) (Nat.le_refl _) ⟨(by (try simp only [mc_cmp_le, mc_cmp_ge, mc_cmp_eq, mc_cmp_lt, mc_cmp_gt, mc_b0, mc_b1, Bool.not_eq_false, Bool.not_eq_true] at c_5 c_19 c_26); first | rfl | (simp [ydrawn, c_5, c_19, c_26]; done) | ((try simp only [← Int32.not_lt, ← Int64.not_lt, Classical.not_not] at c_5 c_19 c_26); simp [ydrawn, c_5, c_19, c_26])), by first | exact ⟨n1, d1, hD1, rfl⟩ | exact ⟨n, d, hD, rfl⟩⟩
  · skip
    refine e_ldc2 (pc := 8) dX7_drawn_8 qX7_190 ?_
    exact e_lret (pc := 11) dX7_drawn_11 rfl (Nat.le_refl _) (Nat.le_refl _) ⟨(by (try simp only [mc_cmp_le, mc_cmp_ge, mc_cmp_eq, mc_cmp_lt, mc_cmp_gt, mc_b0, mc_b1, Bool.not_eq_false, Bool.not_eq_true] at c_5); first | rfl | (simp [ydrawn, c_5]; done) | ((try simp only [← Int32.not_lt, ← Int64.not_lt, Classical.not_not] at c_5); simp [ydrawn, c_5])), by first | exact ⟨n1, d1, hD1, rfl⟩ | exact ⟨n, d, hD, rfl⟩⟩
/-! odds -/
theorem nl_rem : ∀ A, A < 61 → ∀ B, B < 61 → B ≠ 0 → Int64.ofNat A - Int64.ofNat A / Int64.ofNat B * Int64.ofNat B = Int64.ofNat (A % B) := by decide +kernel
theorem nl_0 : ∀ A, A < 61 → (Int64.ofNat A = 0 ↔ A = 0) := by decide +kernel
theorem nl_s : ∀ A, A < 61 → Int64.ofNat A + 1 = Int64.ofNat (A + 1) := by decide +kernel
theorem nl_i : ∀ A, A < 61 → (nI A).toInt64 = Int64.ofNat A := by decide +kernel
def ylow (x y : Nat) (p : Int32) : Int64 := if x = 0 then p.toInt64 else (if p = 0 then Int64.ofNat x else Int64.ofNat y) / Int64.ofNat (Nat.gcd x y)
theorem lp_y_low {w : mc_W} {x y : Nat} {p : Int32} (hx : x < 61) (hy : y < 61) (hx0 : x ≠ 0) :
    ∀ (f e r : Nat) (x9 : Option Value), r ≤ f → e < 61 → r < 61 → Nat.gcd e r = Nat.gcd x y →
      mc_E RX7 cX7_lowest 11 (mc_JM (some .long) false 1 0 0 (fun r' w' => r' = some (.long ((if p = 0 then Int64.ofNat x else Int64.ofNat y) / Int64.ofNat (Nat.gcd x y))) ∧ w' = w)) 16 [some (.long (Int64.ofNat x)), none, some (.long (Int64.ofNat y)), none, some (.int p), some (.long (Int64.ofNat e)), none, some (.long (Int64.ofNat r)), none, x9, none] [] w 0 0 := by
  have g0 : ¬ Int64.ofNat (Nat.gcd x y) = 0 := fun q => by
    have := (nl_0 _ (Nat.lt_of_le_of_lt (Nat.gcd_le_left y (Nat.pos_of_ne_zero hx0)) hx)).mp q
    exact hx0 (Nat.eq_zero_of_gcd_eq_zero_left this)
  intro f
  induction f with
  | zero =>
    intro e r x9 hr he hr6 hg
    have r0 : r = 0 := by omega
    subst r0
    rw [Nat.gcd_zero_right] at hg
    subst hg
    refine e_lload (pc := 16) dX7_lowest_16 rfl ?_
    refine e_lconst (v := 0) (pc := 18) dX7_lowest_18 (by decide) ?_
    refine e_lcmp (pc := 19) dX7_lowest_19 ?_
    refine e_if_eq (pc := 20) dX7_lowest_20 (t := 41) (by decide) (fun _ => ?_) (fun c_20 => absurd (by decide) c_20)
    refine e_iload (pc := 41) dX7_lowest_41 rfl ?_
    refine e_if_ne (pc := 43) dX7_lowest_43 (t := 50) (by decide) (fun c_43 => ?_) (fun c_43 => ?_)
    · skip
      refine e_lloadn (pc := 50) dX7_lowest_50 rfl ?_
      refine e_lload (pc := 51) dX7_lowest_51 rfl ?_
      refine e_ldiv (pc := 53) dX7_lowest_53 g0 ?_
      exact e_lret (pc := 54) dX7_lowest_54 rfl (Nat.le_refl _) (Nat.le_refl _) ⟨by rw [if_neg c_43], rfl⟩
    · skip
      refine e_lloadn (pc := 46) dX7_lowest_46 rfl ?_
      refine e_goto (pc := 47) dX7_lowest_47 (t := 51) (by decide) ?_
      refine e_lload (pc := 51) dX7_lowest_51 rfl ?_
      refine e_ldiv (pc := 53) dX7_lowest_53 g0 ?_
      exact e_lret (pc := 54) dX7_lowest_54 rfl (Nat.le_refl _) (Nat.le_refl _) ⟨by rw [if_pos c_43], rfl⟩
  | succ f ih =>
    intro e r x9 hr he hr6 hg
    by_cases r0 : r = 0
    · exact ih e r x9 (by omega) he hr6 hg
    have rz : ¬ Int64.ofNat r = 0 := fun q => r0 ((nl_0 r hr6).mp q)
    have lt := Nat.mod_lt e (Nat.pos_of_ne_zero r0)
    refine e_lload (pc := 16) dX7_lowest_16 rfl ?_
    refine e_lconst (v := 0) (pc := 18) dX7_lowest_18 (by decide) ?_
    refine e_lcmp (pc := 19) dX7_lowest_19 ?_
    refine e_if_eq (pc := 20) dX7_lowest_20 (t := 41) (by decide) (fun c_20 => absurd c_20 (fun q => rz (mc_cmp_eq.mp q))) (fun _ => ?_)
    refine e_lload (pc := 23) dX7_lowest_23 rfl ?_
    refine e_lload (pc := 25) dX7_lowest_25 rfl ?_
    refine e_lrem (pc := 27) dX7_lowest_27 rz ?_
    refine e_topl (nl_rem e he r hr6 r0) ?_
    refine e_lsw9 (pc := 28) dX7_lowest_28 (Nat.le_of_ble_eq_true rfl) rfl ?_
    refine e_lload (pc := 30) dX7_lowest_30 rfl ?_
    refine e_lsw5 (pc := 32) dX7_lowest_32 (Nat.le_of_ble_eq_true rfl) rfl ?_
    refine e_lload (pc := 34) dX7_lowest_34 rfl ?_
    refine e_lsw7 (pc := 36) dX7_lowest_36 (Nat.le_of_ble_eq_true rfl) rfl ?_
    refine e_goto (pc := 38) dX7_lowest_38 (t := 16) (by decide) ?_
    exact ih r (e % r) _ (by omega) hr6 (by omega) (by rw [← hg, Nat.gcd_comm r, ← Nat.gcd_rec, Nat.gcd_comm])
theorem sp_y_lowest {w : mc_W} {x y : Nat} {p : Int32} (hx : x < 61) (hy : y < 61) : mc_D yX7_lowest cX7_lowest 11 (some .long) 1 [.long (Int64.ofNat x), .long (Int64.ofNat y), .int p] w (some (.long (ylow x y p))) w := by
  refine mc_start (own := RX7) (ini := false) rfl (by decide +kernel) (fun h => by cases h) (Nat.le_of_ble_eq_true rfl) ?_
  show mc_E _ _ _ _ _ [some (.long (Int64.ofNat x)), none, some (.long (Int64.ofNat y)), none, some (.int p), none, none, none, none, none, none] [] _ _ _
  refine e_lloadn (pc := 0) dX7_lowest_0 rfl ?_
  refine e_lconst (v := 0) (pc := 1) dX7_lowest_1 (by decide) ?_
  refine e_lcmp (pc := 2) dX7_lowest_2 ?_
  refine e_if_ne (pc := 3) dX7_lowest_3 (t := 10) (by decide) (fun c_3 => ?_) (fun c_3 => ?_)
  · skip
    refine e_lloadn (pc := 10) dX7_lowest_10 rfl ?_
    refine e_lsw5 (pc := 11) dX7_lowest_11 (Nat.le_of_ble_eq_true rfl) rfl ?_
    refine e_lloadn (pc := 13) dX7_lowest_13 rfl ?_
    refine e_lsw7 (pc := 14) dX7_lowest_14 (Nat.le_of_ble_eq_true rfl) rfl ?_
    have x0 : x ≠ 0 := fun q => c_3 (mc_cmp_eq.mpr ((nl_0 x hx).mpr q))
    unfold ylow
    rw [if_neg x0]
    exact lp_y_low hx hy x0 y x y none (Nat.le_refl _) hx hy rfl
  · skip
    refine e_iload (pc := 6) dX7_lowest_6 rfl ?_
    refine e_i2l (pc := 8) dX7_lowest_8 ?_
    exact e_lret (pc := 9) dX7_lowest_9 rfl (Nat.le_refl _) (Nat.le_refl _) ⟨by unfold ylow; rw [if_pos ((nl_0 x hx).mp (mc_cmp_eq.mp c_3))], rfl⟩
def ycn (P : Nat → Int64) (now : Int64) : Nat → Nat → Nat → Nat
  | 0, _, k => k
  | f + 1, i, k => if P i = now then ycn P now f (i + 1) (k + 1) else ycn P now f (i + 1) k
theorem ycn_le (P : Nat → Int64) (now : Int64) : ∀ f i k, ycn P now f i k ≤ k + f := by
  intro f
  induction f with
  | zero => intro i k; exact Nat.le_refl _
  | succ f ih =>
    intro i k
    unfold ycn
    split
    · have := ih (i + 1) (k + 1); omega
    · have := ih (i + 1) k; omega
def yodc (m : Nat → Int32) (b : Nat → List Int32) (sd sn k v : Int32) : Nat := ycn (fun i => ysb m b (sd + nI i) k v) (yself m b k (ywr m b k v)) sn.toNatClampNeg 0 0
def yodds (m : Nat → Int32) (b : Nat → List Int32) (sd sn k v p : Int32) : Int64 :=
  if (mc_wi sd 0 99999 && mc_wi sn 1 60 && mc_wi k 0 (m 2 - 1) && mc_wi v 0 99999 && mc_wi p 0 1) = false then -4611686018427387904 else ylow (yodc m b sd sn k v) sn.toNatClampNeg p
theorem lp_y_odds {s u m : Nat → Int32} {a c b : Nat → List Int32} {q : List (Option Nat)} {h : Nat} {z : mc_W} {k0 v sd p : Int32} {V N : Nat} (hG : yG m b) (hc : mc_wi k0 0 (m 2 - 1) = true) (hv : mc_wi v 0 99999 = true) (hN : N < 61) :
    ∀ (f i cn : Nat) (n : Nat → Int32) (d : Nat → List Int32), i + f = N → cn ≤ i → yD d → ycn (fun i => ysb m b (sd + nI i) k0 v) (yself m b k0 (ywr m b k0 v)) f i cn = V →
      mc_E RX7 cX7_odds 11 (mc_JM (some .long) false 7 0 0 (fun r' w' => r' = some (.long (ylow V N p)) ∧ ∃ n1 d1, yD d1 ∧ w' = WW s a q u c h m b n1 d1 z)) 79 [some (.ref 29), some (.int sd), some (.int (nI N)), some (.int k0), some (.int v), some (.int p), some (.long (yself m b k0 (ywr m b k0 v))), none, some (.long (Int64.ofNat cn)), none, some (.int (nI i))] [] (WW s a q u c h m b n d z) 0 0 := by
  intro f
  induction f with
  | zero =>
    intro i cn n d hi hcn hD hV
    have e : i = N := by omega
    subst e
    simp only [ycn] at hV
    subst hV
    refine e_iload (pc := 79) dX7_odds_79 rfl ?_
    refine e_iloadn (pc := 81) dX7_odds_81 rfl ?_
    refine e_icmp_ge (pc := 82) dX7_odds_82 (t := 118) (by decide) (fun _ => ?_) (fun c_82 => absurd (Int32.le_refl _) c_82)
    refine e_lload (pc := 118) dX7_odds_118 rfl ?_
    refine e_iloadn (pc := 120) dX7_odds_120 rfl ?_
    refine e_i2l (pc := 121) dX7_odds_121 ?_
    refine e_topl (nl_i i hN) ?_
    refine e_iload (pc := 122) dX7_odds_122 rfl ?_
    refine e_csD (pc := 124) (sp_y_lowest (x := cn) (y := i) (by omega) (by omega)) dX7_odds_124 kX7_288 rfl rfl (mc_CR_of (Nat.le_of_ble_eq_true rfl) (Nat.le_of_ble_eq_true rfl) (Nat.le_refl _) (Nat.le_refl _)) (Nat.le_of_ble_eq_true rfl) ?_
    exact e_lret (pc := 127) dX7_odds_127 rfl (Nat.le_refl _) (Nat.le_refl _) ⟨rfl, n, d, hD, rfl⟩
  | succ f ih =>
    intro i cn n d hi hcn hD hV
    simp only [ycn] at hV
    refine e_iload (pc := 79) dX7_odds_79 rfl ?_
    refine e_iloadn (pc := 81) dX7_odds_81 rfl ?_
    refine e_icmp_ge (pc := 82) dX7_odds_82 (t := 118) (by decide) (fun c_82 => absurd c_82 (nI_ge (by omega : i < N) (by omega))) (fun _ => ?_)
    refine e_lload (pc := 85) dX7_odds_85 rfl ?_
    refine e_aloadn (pc := 87) dX7_odds_87 rfl ?_
    refine e_iloadn (pc := 88) dX7_odds_88 rfl ?_
    refine e_iload (pc := 89) dX7_odds_89 rfl ?_
    refine e_iadd (pc := 91) dX7_odds_91 ?_
    refine e_iloadn (pc := 92) dX7_odds_92 rfl ?_
    refine e_iload (pc := 93) dX7_odds_93 rfl ?_
    refine e_cvX (pc := 95) (sp_y_slipsBy hG hc hv hD) dX7_odds_95 kX7_283 rfl rfl rfl rfl rfl (mc_CR_of (Nat.le_of_ble_eq_true rfl) (Nat.le_of_ble_eq_true rfl) (Nat.le_refl _) (Nat.le_refl _)) (Nat.le_of_ble_eq_true rfl) (fun w1 hw1 => ?_)
    obtain ⟨n1, d1, hD1, rfl⟩ := hw1
    refine e_lload (pc := 98) dX7_odds_98 rfl ?_
    refine e_lcmp (pc := 100) dX7_odds_100 ?_
    refine e_if_ne (pc := 101) dX7_odds_101 (t := 108) (by decide) (fun c_101 => ?_) (fun c_101 => ?_)
    · skip
      refine e_lconst (v := 0) (pc := 108) dX7_odds_108 (by decide) ?_
      refine e_ladd (pc := 109) dX7_odds_109 ?_
      refine e_lsw8 (pc := 110) dX7_odds_110 (Nat.le_of_ble_eq_true rfl) rfl ?_
      refine e_incC10 (pc := 112) dX7_odds_112 (nI_1 i) (Nat.le_of_ble_eq_true rfl) rfl ?_
      refine e_goto (pc := 115) dX7_odds_115 (t := 79) (by decide) ?_
      rw [Int64.add_zero]
      exact ih (i + 1) cn n1 d1 (by omega) (by omega) hD1 (by rw [← hV, if_neg (fun q => c_101 (mc_cmp_eq.mpr q))])
    · skip
      refine e_lconst (v := 1) (pc := 104) dX7_odds_104 (by decide) ?_
      refine e_goto (pc := 105) dX7_odds_105 (t := 109) (by decide) ?_
      refine e_ladd (pc := 109) dX7_odds_109 ?_
      refine e_lsw8 (pc := 110) dX7_odds_110 (Nat.le_of_ble_eq_true rfl) rfl ?_
      refine e_incC10 (pc := 112) dX7_odds_112 (nI_1 i) (Nat.le_of_ble_eq_true rfl) rfl ?_
      refine e_goto (pc := 115) dX7_odds_115 (t := 79) (by decide) ?_
      rw [nl_s cn (by omega)]
      exact ih (i + 1) (cn + 1) n1 d1 (by omega) (by omega) hD1 (by rw [← hV, if_pos (mc_cmp_eq.mp c_101)])
theorem sp_y_odds {s u m n : Nat → Int32} {a c b d : Nat → List Int32} {q : List (Option Nat)} {h : Nat} {z : mc_W} {sd sn k v p : Int32} (hG : yG m b) (hD : yD d) : mc_T yX7_odds cX7_odds 11 (some .long) 7 [.ref 29, .int sd, .int sn, .int k, .int v, .int p] (WW s a q u c h m b n d z) (some (.long (yodds m b sd sn k v p))) (fun w' => ∃ n1 d1, yD d1 ∧ w' = WW s a q u c h m b n1 d1 z) := by
  refine mc_start (own := RX7) (ini := false) rfl (by decide +kernel) (fun h => by cases h) (Nat.le_of_ble_eq_true rfl) ?_
  show mc_E _ _ _ _ _ [some (.ref 29), some (.int sd), some (.int sn), some (.int k), some (.int v), some (.int p), none, none, none, none, none] [] _ _ _
  refine e_iloadn (pc := 0) dX7_odds_0 rfl ?_
  refine e_iconst (v := 0) (pc := 1) dX7_odds_1 (by decide) ?_
  refine e_ldc (pc := 2) dX7_odds_2 qX7_79 ?_
  refine e_csD (pc := 4) (sp_y_in) dX7_odds_4 kX7_75 rfl rfl (mc_CR_of (Nat.le_of_ble_eq_true rfl) (Nat.le_of_ble_eq_true rfl) (Nat.le_refl _) (Nat.le_refl _)) (Nat.le_of_ble_eq_true rfl) ?_
  refine e_if_eq (pc := 7) dX7_odds_7 (t := 46) (by decide) (fun c_7 => ?_) (fun c_7 => ?_)
  · skip
    refine e_ldc2 (pc := 46) dX7_odds_46 qX7_286 ?_
    exact e_lret (pc := 49) dX7_odds_49 rfl (Nat.le_refl _) (Nat.le_refl _) ⟨by unfold yodds; rw [if_pos (by rw [mc_b0.mp c_7]; simp)], n, d, hD, rfl⟩
  · skip
    refine e_iloadn (pc := 10) dX7_odds_10 rfl ?_
    refine e_iconst (v := 1) (pc := 11) dX7_odds_11 (by decide) ?_
    refine e_bipush (v := 60) (pc := 12) dX7_odds_12 (by decide) ?_
    refine e_csD (pc := 14) (sp_y_in) dX7_odds_14 kX7_75 rfl rfl (mc_CR_of (Nat.le_of_ble_eq_true rfl) (Nat.le_of_ble_eq_true rfl) (Nat.le_refl _) (Nat.le_refl _)) (Nat.le_of_ble_eq_true rfl) ?_
    refine e_if_eq (pc := 17) dX7_odds_17 (t := 46) (by decide) (fun c_17 => ?_) (fun c_17 => ?_)
    · skip
      refine e_ldc2 (pc := 46) dX7_odds_46 qX7_286 ?_
      exact e_lret (pc := 49) dX7_odds_49 rfl (Nat.le_refl _) (Nat.le_refl _) ⟨by unfold yodds; rw [if_pos (by rw [mc_b0.mp c_17]; simp)], n, d, hD, rfl⟩
    · skip
      refine e_aloadn (pc := 20) dX7_odds_20 rfl ?_
      refine e_iloadn (pc := 21) dX7_odds_21 rfl ?_
      refine e_cvD (pc := 22) (sp_y_isClerk) dX7_odds_22 kX7_159 rfl rfl rfl rfl rfl (mc_CR_of (Nat.le_of_ble_eq_true rfl) (Nat.le_of_ble_eq_true rfl) (Nat.le_refl _) (Nat.le_refl _)) (Nat.le_of_ble_eq_true rfl) ?_
      refine e_if_eq (pc := 25) dX7_odds_25 (t := 46) (by decide) (fun c_25 => ?_) (fun c_25 => ?_)
      · skip
        refine e_ldc2 (pc := 46) dX7_odds_46 qX7_286 ?_
        exact e_lret (pc := 49) dX7_odds_49 rfl (Nat.le_refl _) (Nat.le_refl _) ⟨by unfold yodds; rw [if_pos (by rw [mc_b0.mp c_25]; simp)], n, d, hD, rfl⟩
      · skip
        refine e_iload (pc := 28) dX7_odds_28 rfl ?_
        refine e_csD (pc := 30) (sp_y_isNumber) dX7_odds_30 kX7_162 rfl rfl (mc_CR_of (Nat.le_of_ble_eq_true rfl) (Nat.le_of_ble_eq_true rfl) (Nat.le_refl _) (Nat.le_refl _)) (Nat.le_of_ble_eq_true rfl) ?_
        refine e_if_eq (pc := 33) dX7_odds_33 (t := 46) (by decide) (fun c_33 => ?_) (fun c_33 => ?_)
        · skip
          refine e_ldc2 (pc := 46) dX7_odds_46 qX7_286 ?_
          exact e_lret (pc := 49) dX7_odds_49 rfl (Nat.le_refl _) (Nat.le_refl _) ⟨by unfold yodds; rw [if_pos (by rw [mc_b0.mp c_33]; simp)], n, d, hD, rfl⟩
        · skip
          refine e_iload (pc := 36) dX7_odds_36 rfl ?_
          refine e_iconst (v := 0) (pc := 38) dX7_odds_38 (by decide) ?_
          refine e_iconst (v := 1) (pc := 39) dX7_odds_39 (by decide) ?_
          refine e_csD (pc := 40) (sp_y_in) dX7_odds_40 kX7_75 rfl rfl (mc_CR_of (Nat.le_of_ble_eq_true rfl) (Nat.le_of_ble_eq_true rfl) (Nat.le_refl _) (Nat.le_refl _)) (Nat.le_of_ble_eq_true rfl) ?_
          refine e_if_ne (pc := 43) dX7_odds_43 (t := 50) (by decide) (fun c_43 => ?_) (fun c_43 => ?_)
          · skip
            refine e_aloadn (pc := 50) dX7_odds_50 rfl ?_
            refine e_iloadn (pc := 51) dX7_odds_51 rfl ?_
            refine e_iload (pc := 52) dX7_odds_52 rfl ?_
            refine e_cvY (pc := 54) (sp_y_writes hG.1 hG.V (hG.k0 (by simpa [mc_b0] using c_25)) (hG.k1 (by simpa [mc_b0] using c_25)) (hG.fg _) (hG.mk _ _ (by simpa [mc_b0] using c_33)) hD) dX7_odds_54 kX7_186 rfl rfl rfl rfl rfl (mc_CR_of (Nat.le_of_ble_eq_true rfl) (Nat.le_of_ble_eq_true rfl) (Nat.le_refl _) (Nat.le_refl _)) (Nat.le_of_ble_eq_true rfl) (fun w1 hw1 => ?_)
            obtain ⟨n1, d1, hF1, rfl⟩ := hw1
            refine e_aloadn (pc := 57) dX7_odds_57 rfl ?_
            refine e_aloadn (pc := 58) dX7_odds_58 rfl ?_
            refine e_iloadn (pc := 59) dX7_odds_59 rfl ?_
            refine e_cvD (pc := 60) (sp_y_figuresOf (hG.k0 (by simpa [mc_b0] using c_25)) (hG.k1 (by simpa [mc_b0] using c_25))) dX7_odds_60 kX7_169 rfl rfl rfl rfl rfl (mc_CR_of (Nat.le_of_ble_eq_true rfl) (Nat.le_of_ble_eq_true rfl) (Nat.le_refl _) (Nat.le_refl _)) (Nat.le_of_ble_eq_true rfl) ?_
            refine e_aloadn (pc := 63) dX7_odds_63 rfl ?_
            refine e_iloadn (pc := 64) dX7_odds_64 rfl ?_
            refine e_cvD (pc := 65) (sp_y_isTurned (hG.k0 (by simpa [mc_b0] using c_25))) dX7_odds_65 kX7_172 rfl rfl rfl rfl rfl (mc_CR_of (Nat.le_of_ble_eq_true rfl) (Nat.le_of_ble_eq_true rfl) (Nat.le_refl _) (Nat.le_refl _)) (Nat.le_of_ble_eq_true rfl) ?_
            refine e_cvD (pc := 68) (sp_y_readsBy hF1 (ywr_len m b k v)) dX7_odds_68 kX7_194 rfl rfl rfl rfl rfl (mc_CR_of (Nat.le_of_ble_eq_true rfl) (Nat.le_of_ble_eq_true rfl) (Nat.le_refl _) (Nat.le_refl _)) (Nat.le_of_ble_eq_true rfl) ?_
            refine e_lsw6 (pc := 71) dX7_odds_71 (Nat.le_of_ble_eq_true rfl) rfl ?_
            refine e_lconst (v := 0) (pc := 73) dX7_odds_73 (by decide) ?_
            refine e_lsw8 (pc := 74) dX7_odds_74 (Nat.le_of_ble_eq_true rfl) rfl ?_
            refine e_iconst (v := 0) (pc := 76) dX7_odds_76 (by decide) ?_
            refine e_isw10 (pc := 77) dX7_odds_77 (Nat.le_of_ble_eq_true rfl) rfl ?_
            have q7 : mc_wi sd 0 99999 = true := by simpa [mc_b0] using c_7
            have q17 : mc_wi sn 1 60 = true := by simpa [mc_b0] using c_17
            have q25 : mc_wi k 0 (m 2 - 1) = true := by simpa [mc_b0] using c_25
            have q33 : mc_wi v 0 99999 = true := by simpa [mc_b0] using c_33
            have hb := mc_wi_iff.mp q17
            have z1 : (1 : Int32).toInt = 1 := rfl
            have z2 : (60 : Int32).toInt = 60 := rfl
            rw [z1, z2] at hb
            have e := nI_back (x := sn) (by omega)
            have t := tnc (x := sn) (by omega)
            have K := lp_y_odds (s := s) (a := a) (q := q) (u := u) (c := c) (h := h) (z := z) (sd := sd) (p := p) (N := sn.toNatClampNeg) hG q25 q33 (by omega) sn.toNatClampNeg 0 0 n1 d1 (by omega) (by omega) hF1.1 rfl
            rw [← e] at K
            unfold yodds
            rw [if_neg (by simp [q7, q17, q25, q33, mc_b1.mp c_43])]
            exact K
          · skip
            refine e_ldc2 (pc := 46) dX7_odds_46 qX7_286 ?_
            exact e_lret (pc := 49) dX7_odds_49 rfl (Nat.le_refl _) (Nat.le_refl _) ⟨by unfold yodds; rw [if_pos (by rw [mc_b0.mp c_43]; simp)], n, d, hD, rfl⟩
