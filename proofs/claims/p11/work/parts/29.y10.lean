/-! told books -/
/-- whether the numbers at the even places are numbers -/
def yevn (row : List Int32) : Nat → Nat → Bool
  | 0, _ => true
  | f + 1, i => if 2 * i < row.length then ynum (row.getD (2 * i) 0) && yevn row f (i + 1) else true
def ysw (b : Nat → List Int32) (s : Int32) : Int32 := if mc_wi s 0 3 = false then -2 else if gt (b 7) s = -1 then -11 else if yevn (yrow b s) 21 0 = true then (if (yrow b s).length % 2 = 0 then 0 else -2) else -2
theorem lp_y_sheetWrong {s u m n : Nat → Int32} {a c b d : Nat → List Int32} {q : List (Option Nat)} {h : Nat} {z : mc_W} {s0 V : Int32} (hL : yL b) (hS : ySh b) (hs : mc_wi s0 0 3 = true) :
    ∀ (f i : Nat), i + f = 21 → (if yevn (yrow b s0) f i = true then (if (yrow b s0).length % 2 = 0 then 0 else -2) else -2) = V →
      mc_E RX7 cX7_sheetWrong 3 (mc_JM (some .int) false 3 0 0 (fun r' w' => r' = some (.int V) ∧ w' = WW s a q u c h m b n d z)) 27 [some (.ref 29), some (.int s0), some (.int (nI (2 * i)))] [] (WW s a q u c h m b n d z) 0 0 := by
  obtain ⟨sz, hz, hlen, i7, i8, e8, i9, e9⟩ := yrow_facts hL hS hs
  have r2 : nI sz - nI sz / 2 * 2 = nI (sz % 2) := pk_rem (a := sz) (d := 2) (by omega) (by decide) (by decide)
  have END : ∀ i, i ≤ 21 → sz ≤ 2 * i → (if sz % 2 = 0 then 0 else -2) = V → mc_E RX7 cX7_sheetWrong 3 (mc_JM (some .int) false 3 0 0 (fun r' w' => r' = some (.int V) ∧ w' = WW s a q u c h m b n d z)) 27 [some (.ref 29), some (.int s0), some (.int (nI (2 * i)))] [] (WW s a q u c h m b n d z) 0 0 := by
    intro i hi hsi hV
    refine e_iloadn (pc := 27) dX7_sheetWrong_27 rfl ?_
    refine e_aloadn (pc := 28) dX7_sheetWrong_28 rfl ?_
    refine e_get (pc := 29) dX7_sheetWrong_29 fX7_41 rfl rfl ?_
    refine e_iloadn (pc := 32) dX7_sheetWrong_32 rfl ?_
    refine aldv_sheetSize (pc := 33) dX7_sheetWrong_33 i8 e8 ?_
    refine e_icmp_ge (pc := 34) dX7_sheetWrong_34 (t := 63) (by decide) (fun _ => ?_) (fun c_34 => absurd (nI_le hsi (by omega)) c_34)
    refine e_aloadn (pc := 63) dX7_sheetWrong_63 rfl ?_
    refine e_get (pc := 64) dX7_sheetWrong_64 fX7_41 rfl rfl ?_
    refine e_iloadn (pc := 67) dX7_sheetWrong_67 rfl ?_
    refine aldv_sheetSize (pc := 68) dX7_sheetWrong_68 i8 e8 ?_
    refine e_iconst (v := 2) (pc := 69) dX7_sheetWrong_69 (by decide) ?_
    refine e_irem (pc := 70) dX7_sheetWrong_70 (by decide) ?_
    refine e_top (r2) ?_
    refine e_if_ne (pc := 71) dX7_sheetWrong_71 (t := 78) (by decide) (fun c_71 => ?_) (fun c_71 => ?_)
    · skip
      refine e_bipush (v := -2) (pc := 78) dX7_sheetWrong_78 (by decide) ?_
      exact e_iret (pc := 80) dX7_sheetWrong_80 rfl (Nat.le_refl _) (Nat.le_refl _) ⟨by rw [← hV, if_neg (fun q => c_71 (by rw [q]; rfl))], rfl⟩
    · skip
      refine e_iconst (v := 0) (pc := 74) dX7_sheetWrong_74 (by decide) ?_
      refine e_goto (pc := 75) dX7_sheetWrong_75 (t := 80) (by decide) ?_
      exact e_iret (pc := 80) dX7_sheetWrong_80 rfl (Nat.le_refl _) (Nat.le_refl _) ⟨by rw [← hV, if_pos ((nI_eq (a := sz % 2) (b := 0) (by omega) (by decide)).mp c_71)], rfl⟩
  intro f
  induction f with
  | zero =>
    intro i hi hV
    rw [hlen] at hV
    exact END i (by omega) (by omega) hV
  | succ f ih =>
    intro i hi hV
    by_cases hsi : sz ≤ 2 * i
    · rw [hlen, show yevn (yrow b s0) (f + 1) i = true by unfold yevn; rw [if_neg (by omega)]] at hV
      exact END i (by omega) hsi hV
    have g3 : 2 * i < sz := by omega
    have ey : yevn (yrow b s0) (f + 1) i = (ynum ((yrow b s0).getD (2 * i) 0) && yevn (yrow b s0) f (i + 1)) := by rw [yevn, if_pos (by omega)]
    have ex := e9 (2 * i) g3
    refine e_iloadn (pc := 27) dX7_sheetWrong_27 rfl ?_
    refine e_aloadn (pc := 28) dX7_sheetWrong_28 rfl ?_
    refine e_get (pc := 29) dX7_sheetWrong_29 fX7_41 rfl rfl ?_
    refine e_iloadn (pc := 32) dX7_sheetWrong_32 rfl ?_
    refine aldv_sheetSize (pc := 33) dX7_sheetWrong_33 i8 e8 ?_
    refine e_icmp_ge (pc := 34) dX7_sheetWrong_34 (t := 63) (by decide) (fun c_34 => absurd c_34 (nI_ge g3 (by omega))) (fun _ => ?_)
    refine e_aloadn (pc := 37) dX7_sheetWrong_37 rfl ?_
    refine e_get (pc := 38) dX7_sheetWrong_38 fX7_44 rfl rfl ?_
    refine e_bipush (v := 40) (pc := 41) dX7_sheetWrong_41 (by decide) ?_
    refine e_iloadn (pc := 43) dX7_sheetWrong_43 rfl ?_
    refine e_imul (pc := 44) dX7_sheetWrong_44 ?_
    refine e_iloadn (pc := 45) dX7_sheetWrong_45 rfl ?_
    refine e_iadd (pc := 46) dX7_sheetWrong_46 ?_
    refine aldv_ycells (pc := 47) dX7_sheetWrong_47 (i9 (2 * i) (by omega)) ex ?_
    refine e_csD (pc := 48) (sp_y_isNumber) dX7_sheetWrong_48 kX7_162 rfl rfl (mc_CR_of (Nat.le_of_ble_eq_true rfl) (Nat.le_of_ble_eq_true rfl) (Nat.le_refl _) (Nat.le_refl _)) (Nat.le_of_ble_eq_true rfl) ?_
    refine e_if_ne (pc := 51) dX7_sheetWrong_51 (t := 57) (by decide) (fun c_51 => ?_) (fun c_51 => ?_)
    · skip
      refine e_incC2 (pc := 57) dX7_sheetWrong_57 (show nI (2 * i) + Int32.ofInt 2 = nI (2 * (i + 1)) from nI_add (2 * i) 2) (Nat.le_of_ble_eq_true rfl) rfl ?_
      refine e_goto (pc := 60) dX7_sheetWrong_60 (t := 27) (by decide) ?_
      exact ih (i + 1) (by omega) (by rw [← hV, ey, show ynum ((yrow b s0).getD (2 * i) 0) = true from mc_b1.mp c_51]; rfl)
    · skip
      refine e_bipush (v := -2) (pc := 54) dX7_sheetWrong_54 (by decide) ?_
      exact e_iret (pc := 56) dX7_sheetWrong_56 rfl (Nat.le_refl _) (Nat.le_refl _) ⟨by rw [← hV, ey, show ynum ((yrow b s0).getD (2 * i) 0) = false from mc_b0.mp c_51]; rfl, rfl⟩
theorem sp_y_sheetWrong {s u m n : Nat → Int32} {a c b d : Nat → List Int32} {q : List (Option Nat)} {h : Nat} {z : mc_W} {s0 : Int32} (hL : yL b) (hS : ySh b) : mc_D yX7_sheetWrong cX7_sheetWrong 3 (some .int) 3 [.ref 29, .int s0] (WW s a q u c h m b n d z) (some (.int (ysw b s0))) (WW s a q u c h m b n d z) := by
  refine mc_start (own := RX7) (ini := false) rfl (by decide +kernel) (fun h => by cases h) (Nat.le_of_ble_eq_true rfl) ?_
  show mc_E _ _ _ _ _ [some (.ref 29), some (.int s0), none] [] _ _ _
  have i7 : mc_wi s0 0 3 = true → vp_in s0 (b 7).length := fun hs => (yrow_facts hL hS hs).choose_spec.2.2.1
  refine e_iloadn (pc := 0) dX7_sheetWrong_0 rfl ?_
  refine e_iconst (v := 0) (pc := 1) dX7_sheetWrong_1 (by decide) ?_
  refine e_iconst (v := 3) (pc := 2) dX7_sheetWrong_2 (by decide) ?_
  refine e_csD (pc := 3) (sp_y_in) dX7_sheetWrong_3 kX7_75 rfl rfl (mc_CR_of (Nat.le_of_ble_eq_true rfl) (Nat.le_of_ble_eq_true rfl) (Nat.le_refl _) (Nat.le_refl _)) (Nat.le_of_ble_eq_true rfl) ?_
  refine e_if_ne (pc := 6) dX7_sheetWrong_6 (t := 12) (by decide) (fun c_6 => ?_) (fun c_6 => ?_)
  · skip
    refine e_aloadn (pc := 12) dX7_sheetWrong_12 rfl ?_
    refine e_get (pc := 13) dX7_sheetWrong_13 fX7_38 rfl rfl ?_
    refine e_iloadn (pc := 16) dX7_sheetWrong_16 rfl ?_
    refine ald_sheetSort (pc := 17) dX7_sheetWrong_17 (i7 (mc_b1.mp c_6)) ?_
    refine e_iconst (v := -1) (pc := 18) dX7_sheetWrong_18 (by decide) ?_
    refine e_icmp_ne (pc := 19) dX7_sheetWrong_19 (t := 25) (by decide) (fun c_19 => ?_) (fun c_19 => ?_)
    · skip
      refine e_iconst (v := 0) (pc := 25) dX7_sheetWrong_25 (by decide) ?_
      refine e_isn2 (pc := 26) dX7_sheetWrong_26 (Nat.le_of_ble_eq_true rfl) rfl ?_
      exact lp_y_sheetWrong hL hS (mc_b1.mp c_6) 21 0 rfl (by unfold ysw; rw [if_neg (c := mc_wi s0 0 3 = false) (by simp [mc_b1.mp c_6]), if_neg (c := gt (b 7) s0 = -1) c_19])
    · skip
      refine e_bipush (v := -11) (pc := 22) dX7_sheetWrong_22 (by decide) ?_
      exact e_iret (pc := 24) dX7_sheetWrong_24 rfl (Nat.le_refl _) (Nat.le_refl _) ⟨by unfold ysw; rw [if_neg (by simp [mc_b1.mp c_6]), if_pos (c := gt (b 7) s0 = -1) c_19], rfl⟩
  · skip
    refine e_bipush (v := -2) (pc := 9) dX7_sheetWrong_9 (by decide) ?_
    exact e_iret (pc := 11) dX7_sheetWrong_11 rfl (Nat.le_refl _) (Nat.le_refl _) ⟨by unfold ysw; rw [if_pos (by simpa [mc_b0] using c_6)], rfl⟩
def ytw (m : Nat → Int32) (b : Nat → List Int32) (s k : Int32) : Int32 := if ¬ ysw b s = 0 then ysw b s else if mc_wi k 0 (m 2 - 1) = true then 0 else -5
theorem sp_y_toldWrong {s u m n : Nat → Int32} {a c b d : Nat → List Int32} {q : List (Option Nat)} {h : Nat} {z : mc_W} {s0 k : Int32} (hL : yL b) (hS : ySh b) : mc_D yX7_toldWrong cX7_toldWrong 4 (some .int) 4 [.ref 29, .int s0, .int k] (WW s a q u c h m b n d z) (some (.int (ytw m b s0 k))) (WW s a q u c h m b n d z) := by
  refine mc_start (own := RX7) (ini := false) rfl (by decide +kernel) (fun h => by cases h) (Nat.le_of_ble_eq_true rfl) ?_
  show mc_E _ _ _ _ _ [some (.ref 29), some (.int s0), some (.int k), none] [] _ _ _
  refine e_aloadn (pc := 0) dX7_toldWrong_0 rfl ?_
  refine e_iloadn (pc := 1) dX7_toldWrong_1 rfl ?_
  refine e_cvD (pc := 2) (sp_y_sheetWrong hL hS) dX7_toldWrong_2 kX7_269 rfl rfl rfl rfl rfl (mc_CR_of (Nat.le_of_ble_eq_true rfl) (Nat.le_of_ble_eq_true rfl) (Nat.le_refl _) (Nat.le_refl _)) (Nat.le_of_ble_eq_true rfl) ?_
  refine e_isn3 (pc := 5) dX7_toldWrong_5 (Nat.le_of_ble_eq_true rfl) rfl ?_
  refine e_iloadn (pc := 6) dX7_toldWrong_6 rfl ?_
  refine e_if_eq (pc := 7) dX7_toldWrong_7 (t := 14) (by decide) (fun c_7 => ?_) (fun c_7 => ?_)
  · skip
    refine e_aloadn (pc := 14) dX7_toldWrong_14 rfl ?_
    refine e_iloadn (pc := 15) dX7_toldWrong_15 rfl ?_
    refine e_cvD (pc := 16) (sp_y_isClerk) dX7_toldWrong_16 kX7_159 rfl rfl rfl rfl rfl (mc_CR_of (Nat.le_of_ble_eq_true rfl) (Nat.le_of_ble_eq_true rfl) (Nat.le_refl _) (Nat.le_refl _)) (Nat.le_of_ble_eq_true rfl) ?_
    refine e_if_eq (pc := 19) dX7_toldWrong_19 (t := 26) (by decide) (fun c_19 => ?_) (fun c_19 => ?_)
    · skip
      refine e_bipush (v := -5) (pc := 26) dX7_toldWrong_26 (by decide) ?_
      exact e_iret (pc := 28) dX7_toldWrong_28 rfl (Nat.le_refl _) (Nat.le_refl _) ⟨(by (try simp only [mc_cmp_le, mc_cmp_ge, mc_cmp_eq, mc_cmp_lt, mc_cmp_gt, mc_b0, mc_b1, Bool.not_eq_false, Bool.not_eq_true] at c_7 c_19); first | rfl | (simp [ytw, c_7, c_19]; done) | ((try simp only [← Int32.not_lt, ← Int64.not_lt, Classical.not_not] at c_7 c_19); simp [ytw, c_7, c_19])), rfl⟩
    · skip
      refine e_iconst (v := 0) (pc := 22) dX7_toldWrong_22 (by decide) ?_
      refine e_goto (pc := 23) dX7_toldWrong_23 (t := 28) (by decide) ?_
      exact e_iret (pc := 28) dX7_toldWrong_28 rfl (Nat.le_refl _) (Nat.le_refl _) ⟨(by (try simp only [mc_cmp_le, mc_cmp_ge, mc_cmp_eq, mc_cmp_lt, mc_cmp_gt, mc_b0, mc_b1, Bool.not_eq_false, Bool.not_eq_true] at c_7 c_19); first | rfl | (simp [ytw, c_7, c_19]; done) | ((try simp only [← Int32.not_lt, ← Int64.not_lt, Classical.not_not] at c_7 c_19); simp [ytw, c_7, c_19])), rfl⟩
  · skip
    refine e_iloadn (pc := 10) dX7_toldWrong_10 rfl ?_
    refine e_goto (pc := 11) dX7_toldWrong_11 (t := 28) (by decide) ?_
    exact e_iret (pc := 28) dX7_toldWrong_28 rfl (Nat.le_refl _) (Nat.le_refl _) ⟨(by (try simp only [mc_cmp_le, mc_cmp_ge, mc_cmp_eq, mc_cmp_lt, mc_cmp_gt, mc_b0, mc_b1, Bool.not_eq_false, Bool.not_eq_true] at c_7); first | rfl | (simp [ytw, c_7]; done) | ((try simp only [← Int32.not_lt, ← Int64.not_lt, Classical.not_not] at c_7); simp [ytw, c_7])), rfl⟩
theorem yevn_ok {row : List Int32} (f i : Nat) (h : yevn row f i = true) : ∀ j, i ≤ j → j < i + f → 2 * j < row.length → ynum (row.getD (2 * j) 0) = true := by
  induction f generalizing i with
  | zero => intro j h1 h2; omega
  | succ f ih =>
    intro j h1 h2 h3
    unfold yevn at h
    rw [if_pos (by omega), Bool.and_eq_true] at h
    by_cases hj : j = i
    · rw [hj]; exact h.1
    · exact ih (i + 1) h.2 j (by omega) (by omega) h3
theorem ysw0 {b : Nat → List Int32} {s : Int32} (hL : yL b) (hS : ySh b) (h : ysw b s = 0) : mc_wi s 0 3 = true ∧ (∀ j, 2 * j < (yrow b s).length → ynum ((yrow b s).getD (2 * j) 0) = true) ∧ (yrow b s).length % 2 = 0 := by
  unfold ysw at h
  by_cases h1 : mc_wi s 0 3 = false
  · rw [if_pos h1] at h; exact absurd h (by decide)
  · rw [if_neg h1] at h
    have hs : mc_wi s 0 3 = true := by simpa using h1
    by_cases h2 : gt (b 7) s = -1
    · rw [if_pos h2] at h; exact absurd h (by decide)
    · rw [if_neg h2] at h
      by_cases h3 : yevn (yrow b s) 21 0 = true
      · rw [if_pos h3] at h
        by_cases h4 : (yrow b s).length % 2 = 0
        · obtain ⟨sz, hz, hlen, -⟩ := yrow_facts hL hS hs
          exact ⟨hs, fun j hj => yevn_ok 21 0 h3 j (by omega) (by omega) hj, h4⟩
        · rw [if_neg h4] at h; exact absurd h (by decide)
      · rw [if_neg h3] at h; exact absurd h (by decide)
/-- the first row of two that is otherwise -/
def yunf (m : Nat → Int32) (b : Nat → List Int32) (k : Int32) (row : List Int32) : Nat → Nat → Int32
  | 0, _ => -1
  | f + 1, i => if ypl m b k (row.getD (2 * i) 0) = (row.getD (2 * i + 1) 0).toInt64 then yunf m b k row f (i + 1) else nI i
def yunl (m : Nat → Int32) (b : Nat → List Int32) (s k : Int32) : Int32 := yunf m b k (yrow b s) ((yrow b s).length / 2) 0
theorem lp_y_unlike {s u m : Nat → Int32} {a c b : Nat → List Int32} {q : List (Option Nat)} {h : Nat} {z : mc_W} {s0 k0 V : Int32} (hG : yG m b) (hS : ySh b) (h0 : ysw b s0 = 0) (hc : mc_wi k0 0 (m 2 - 1) = true) :
    ∀ (f i : Nat) (n : Nat → Int32) (d : Nat → List Int32), i + f = (yrow b s0).length / 2 → yD d → yunf m b k0 (yrow b s0) f i = V →
      mc_E RX7 cX7_unlike 4 (mc_JM (some .int) false 7 0 0 (fun r' w' => r' = some (.int V) ∧ ∃ n1 d1, yD d1 ∧ w' = WW s a q u c h m b n1 d1 z)) 2 [some (.ref 29), some (.int s0), some (.int k0), some (.int (nI i))] [] (WW s a q u c h m b n d z) 0 0 := by
  have hL := hG.1
  obtain ⟨hs, hnum, hev⟩ := ysw0 hL hS h0
  obtain ⟨sz, hz, hlen, i7, i8, e8, i9, e9⟩ := yrow_facts hL hS hs
  have r2 : nI sz / 2 = nI (sz / 2) := pk_div (a := sz) (d := 2) (by omega) (by decide) (by decide)
  have i92 : ∀ i, i < sz / 2 → vp_in (40 * s0 + 2 * nI i) (b 9).length ∧ vp_in (40 * s0 + 2 * nI i + 1) (b 9).length ∧ (b 9).getD (40 * s0 + 2 * nI i).toNatClampNeg 0 = (yrow b s0).getD (2 * i) 0 ∧ (b 9).getD (40 * s0 + 2 * nI i + 1).toNatClampNeg 0 = (yrow b s0).getD (2 * i + 1) 0 := fun i hi => by
    have e2 : (2 : Int32) * nI i = nI (2 * i) := pk_mul 2 i
    have e3 : 40 * s0 + 2 * nI i + 1 = 40 * s0 + nI (2 * i + 1) := by rw [e2, Int32.add_assoc, nI_1]
    rw [e3, e2]
    exact ⟨i9 _ (by omega), i9 _ (by omega), e9 _ (by omega), e9 _ (by omega)⟩
  intro f
  induction f with
  | zero =>
    intro i n d hi hD hV
    have hi2 : i = sz / 2 := by omega
    have hV : -1 = V := hV
    subst hV
    refine e_iloadn (pc := 2) dX7_unlike_2 rfl ?_
    refine e_aloadn (pc := 3) dX7_unlike_3 rfl ?_
    refine e_get (pc := 4) dX7_unlike_4 fX7_41 rfl rfl ?_
    refine e_iloadn (pc := 7) dX7_unlike_7 rfl ?_
    refine aldv_sheetSize (pc := 8) dX7_unlike_8 i8 e8 ?_
    refine e_iconst (v := 2) (pc := 9) dX7_unlike_9 (by decide) ?_
    refine e_idiv (pc := 10) dX7_unlike_10 (by decide) ?_
    refine e_top (r2) ?_
    refine e_icmp_ge (pc := 11) dX7_unlike_11 (t := 60) (by decide) (fun _ => ?_) (fun c_11 => absurd (by rw [hi2]; exact nI_le (Nat.le_refl _) (by omega)) c_11)
    refine e_iconst (v := -1) (pc := 60) dX7_unlike_60 (by decide) ?_
    exact e_iret (pc := 61) dX7_unlike_61 rfl (Nat.le_refl _) (Nat.le_refl _) ⟨rfl, n, d, hD, rfl⟩
  | succ f ih =>
    intro i n d hi hD hV
    have g3 : i < sz / 2 := by omega
    obtain ⟨j1, j2, j3, j4⟩ := i92 i g3
    have hv := hnum i (by omega)
    simp only [yunf] at hV
    refine e_iloadn (pc := 2) dX7_unlike_2 rfl ?_
    refine e_aloadn (pc := 3) dX7_unlike_3 rfl ?_
    refine e_get (pc := 4) dX7_unlike_4 fX7_41 rfl rfl ?_
    refine e_iloadn (pc := 7) dX7_unlike_7 rfl ?_
    refine aldv_sheetSize (pc := 8) dX7_unlike_8 i8 e8 ?_
    refine e_iconst (v := 2) (pc := 9) dX7_unlike_9 (by decide) ?_
    refine e_idiv (pc := 10) dX7_unlike_10 (by decide) ?_
    refine e_top (r2) ?_
    refine e_icmp_ge (pc := 11) dX7_unlike_11 (t := 60) (by decide) (fun c_11 => absurd c_11 (nI_ge g3 (by omega))) (fun _ => ?_)
    refine e_aloadn (pc := 14) dX7_unlike_14 rfl ?_
    refine e_iloadn (pc := 15) dX7_unlike_15 rfl ?_
    refine e_aloadn (pc := 16) dX7_unlike_16 rfl ?_
    refine e_get (pc := 17) dX7_unlike_17 fX7_44 rfl rfl ?_
    refine e_bipush (v := 40) (pc := 20) dX7_unlike_20 (by decide) ?_
    refine e_iloadn (pc := 22) dX7_unlike_22 rfl ?_
    refine e_imul (pc := 23) dX7_unlike_23 ?_
    refine e_iconst (v := 2) (pc := 24) dX7_unlike_24 (by decide) ?_
    refine e_iloadn (pc := 25) dX7_unlike_25 rfl ?_
    refine e_imul (pc := 26) dX7_unlike_26 ?_
    refine e_iadd (pc := 27) dX7_unlike_27 ?_
    refine aldv_ycells (pc := 28) dX7_unlike_28 j1 j3 ?_
    refine e_cvX (pc := 29) (sp_y_plainOf hG hc hv hD) dX7_unlike_29 kX7_198 rfl rfl rfl rfl rfl (mc_CR_of (Nat.le_of_ble_eq_true rfl) (Nat.le_of_ble_eq_true rfl) (Nat.le_refl _) (Nat.le_refl _)) (Nat.le_of_ble_eq_true rfl) (fun w1 hw1 => ?_)
    obtain ⟨n1, d1, hD1, rfl⟩ := hw1
    refine e_aloadn (pc := 32) dX7_unlike_32 rfl ?_
    refine e_get (pc := 33) dX7_unlike_33 fX7_44 rfl rfl ?_
    refine e_bipush (v := 40) (pc := 36) dX7_unlike_36 (by decide) ?_
    refine e_iloadn (pc := 38) dX7_unlike_38 rfl ?_
    refine e_imul (pc := 39) dX7_unlike_39 ?_
    refine e_iconst (v := 2) (pc := 40) dX7_unlike_40 (by decide) ?_
    refine e_iloadn (pc := 41) dX7_unlike_41 rfl ?_
    refine e_imul (pc := 42) dX7_unlike_42 ?_
    refine e_iadd (pc := 43) dX7_unlike_43 ?_
    refine e_iconst (v := 1) (pc := 44) dX7_unlike_44 (by decide) ?_
    refine e_iadd (pc := 45) dX7_unlike_45 ?_
    refine aldv_ycells (pc := 46) dX7_unlike_46 j2 j4 ?_
    refine e_i2l (pc := 47) dX7_unlike_47 ?_
    refine e_lcmp (pc := 48) dX7_unlike_48 ?_
    refine e_if_eq (pc := 49) dX7_unlike_49 (t := 54) (by decide) (fun c_49 => ?_) (fun c_49 => ?_)
    · skip
      refine e_incC3 (pc := 54) dX7_unlike_54 (nI_1 i) (Nat.le_of_ble_eq_true rfl) rfl ?_
      refine e_goto (pc := 57) dX7_unlike_57 (t := 2) (by decide) ?_
      exact ih (i + 1) n1 d1 (by omega) hD1 (by rw [← hV, if_pos (mc_cmp_eq.mp c_49)])
    · skip
      refine e_iloadn (pc := 52) dX7_unlike_52 rfl ?_
      exact e_iret (pc := 53) dX7_unlike_53 rfl (Nat.le_refl _) (Nat.le_refl _) ⟨by rw [← hV, if_neg (fun q => c_49 (mc_cmp_eq.mpr q))], n1, d1, hD1, rfl⟩
theorem sp_y_unlike {s u m n : Nat → Int32} {a c b d : Nat → List Int32} {q : List (Option Nat)} {h : Nat} {z : mc_W} {s0 k0 : Int32} (hG : yG m b) (hS : ySh b) (h0 : ysw b s0 = 0) (hc : mc_wi k0 0 (m 2 - 1) = true) (hD : yD d) : mc_T yX7_unlike cX7_unlike 4 (some .int) 7 [.ref 29, .int s0, .int k0] (WW s a q u c h m b n d z) (some (.int (yunl m b s0 k0))) (fun w' => ∃ n1 d1, yD d1 ∧ w' = WW s a q u c h m b n1 d1 z) := by
  refine mc_start (own := RX7) (ini := false) rfl (by decide +kernel) (fun h => by cases h) (Nat.le_of_ble_eq_true rfl) ?_
  show mc_E _ _ _ _ _ [some (.ref 29), some (.int s0), some (.int k0), none] [] _ _ _
  refine e_iconst (v := 0) (pc := 0) dX7_unlike_0 (by decide) ?_
  refine e_isn3 (pc := 1) dX7_unlike_1 (Nat.le_of_ble_eq_true rfl) rfl ?_
  exact lp_y_unlike hG hS h0 hc _ 0 n d (Nat.zero_add _) hD rfl
theorem ytw0 {m : Nat → Int32} {b : Nat → List Int32} {s k : Int32} (h : ytw m b s k = 0) : ysw b s = 0 ∧ mc_wi k 0 (m 2 - 1) = true := by
  unfold ytw at h
  by_cases h1 : ysw b s = 0
  · rw [if_neg (fun q => q h1)] at h
    by_cases h2 : mc_wi k 0 (m 2 - 1) = true
    · exact ⟨h1, h2⟩
    · rw [if_neg h2] at h; exact absurd h (by decide)
  · rw [if_pos h1] at h; exact absurd h h1
def yjudge (m : Nat → Int32) (b : Nat → List Int32) (s k : Int32) : Int32 := if ytw m b s k = 0 then yunl m b s k else ytw m b s k
theorem sp_y_judge {s u m n : Nat → Int32} {a c b d : Nat → List Int32} {q : List (Option Nat)} {h : Nat} {z : mc_W} {s0 k : Int32} (hG : yG m b) (hS : ySh b) (hD : yD d) : mc_T yX7_judge cX7_judge 4 (some .int) 8 [.ref 29, .int s0, .int k] (WW s a q u c h m b n d z) (some (.int (yjudge m b s0 k))) (fun w' => ∃ n1 d1, yD d1 ∧ w' = WW s a q u c h m b n1 d1 z) := by
  refine mc_start (own := RX7) (ini := false) rfl (by decide +kernel) (fun h => by cases h) (Nat.le_of_ble_eq_true rfl) ?_
  show mc_E _ _ _ _ _ [some (.ref 29), some (.int s0), some (.int k), none] [] _ _ _
  refine e_aloadn (pc := 0) dX7_judge_0 rfl ?_
  refine e_iloadn (pc := 1) dX7_judge_1 rfl ?_
  refine e_iloadn (pc := 2) dX7_judge_2 rfl ?_
  refine e_cvD (pc := 3) (sp_y_toldWrong hG.1 hS) dX7_judge_3 kX7_272 rfl rfl rfl rfl rfl (mc_CR_of (Nat.le_of_ble_eq_true rfl) (Nat.le_of_ble_eq_true rfl) (Nat.le_refl _) (Nat.le_refl _)) (Nat.le_of_ble_eq_true rfl) ?_
  refine e_isn3 (pc := 6) dX7_judge_6 (Nat.le_of_ble_eq_true rfl) rfl ?_
  refine e_iloadn (pc := 7) dX7_judge_7 rfl ?_
  refine e_if_ne (pc := 8) dX7_judge_8 (t := 20) (by decide) (fun c_8 => ?_) (fun c_8 => ?_)
  · skip
    refine e_iloadn (pc := 20) dX7_judge_20 rfl ?_
    exact e_iret (pc := 21) dX7_judge_21 rfl (Nat.le_refl _) (Nat.le_refl _) ⟨by unfold yjudge; rw [if_neg c_8], n, d, hD, rfl⟩
  · skip
    refine e_aloadn (pc := 11) dX7_judge_11 rfl ?_
    refine e_iloadn (pc := 12) dX7_judge_12 rfl ?_
    refine e_iloadn (pc := 13) dX7_judge_13 rfl ?_
    refine e_cvX (pc := 14) (sp_y_unlike hG hS (ytw0 c_8).1 (ytw0 c_8).2 hD) dX7_judge_14 kX7_275 rfl rfl rfl rfl rfl (mc_CR_of (Nat.le_of_ble_eq_true rfl) (Nat.le_of_ble_eq_true rfl) (Nat.le_refl _) (Nat.le_refl _)) (Nat.le_of_ble_eq_true rfl) (fun w1 hw1 => ?_)
    obtain ⟨n1, d1, hD1, rfl⟩ := hw1
    refine e_goto (pc := 17) dX7_judge_17 (t := 21) (by decide) ?_
    exact e_iret (pc := 21) dX7_judge_21 rfl (Nat.le_refl _) (Nat.le_refl _) ⟨by unfold yjudge; rw [if_pos c_8], n1, d1, hD1, rfl⟩
def ybits (off : Nat → Int32) : Nat → Nat → Int32 → Int32
  | 0, _, acc => acc
  | f + 1, i, acc => ybits off f (i + 1) (acc ||| (if off i = -1 then (1 : Int32) <<< (nI i &&& 31) else 0))
def ywhose (m : Nat → Int32) (b : Nat → List Int32) (s : Int32) : Int32 := if ¬ ysw b s = 0 then ysw b s else ybits (fun i => yunl m b s (nI i)) (m 2).toNatClampNeg 0 0
theorem lp_y_whose {s u m : Nat → Int32} {a c b : Nat → List Int32} {q : List (Option Nat)} {h : Nat} {z : mc_W} {s0 V x2 : Int32} (hG : yG m b) (hS : ySh b) (h0 : ysw b s0 = 0) :
    ∀ (f i : Nat) (acc : Int32) (n : Nat → Int32) (d : Nat → List Int32), i + f = (m 2).toNatClampNeg → yD d → ybits (fun i => yunl m b s0 (nI i)) f i acc = V →
      mc_E RX7 cX7_whose 5 (mc_JM (some .int) false 8 0 0 (fun r' w' => r' = some (.int V) ∧ ∃ n1 d1, yD d1 ∧ w' = WW s a q u c h m b n1 d1 z)) 17 [some (.ref 29), some (.int s0), some (.int x2), some (.int acc), some (.int (nI i))] [] (WW s a q u c h m b n d z) 0 0 := by
  have hm := nI_back hG.2.1.1
  have tm := tnc hG.2.1.1
  have hm5 := hG.2.1.2
  intro f
  induction f with
  | zero =>
    intro i acc n d hi hD hV
    have hi2 : i = (m 2).toNatClampNeg := by omega
    have hV : acc = V := hV
    subst hV
    refine e_iload (pc := 17) dX7_whose_17 rfl ?_
    refine e_aloadn (pc := 19) dX7_whose_19 rfl ?_
    refine e_get (pc := 20) dX7_whose_20 fX7_72 rfl rfl ?_
    refine e_icmp_ge (pc := 23) dX7_whose_23 (t := 54) (by decide) (fun _ => ?_) (fun c_23 => absurd (by rw [hi2, ← hm]; exact Int32.le_refl _) c_23)
    refine e_iloadn (pc := 54) dX7_whose_54 rfl ?_
    exact e_iret (pc := 55) dX7_whose_55 rfl (Nat.le_refl _) (Nat.le_refl _) ⟨rfl, n, d, hD, rfl⟩
  | succ f ih =>
    intro i acc n d hi hD hV
    have hci : mc_wi (nI i) 0 (m 2 - 1) = true := wi_nI (by omega)
    simp only [ybits] at hV
    refine e_iload (pc := 17) dX7_whose_17 rfl ?_
    refine e_aloadn (pc := 19) dX7_whose_19 rfl ?_
    refine e_get (pc := 20) dX7_whose_20 fX7_72 rfl rfl ?_
    refine e_icmp_ge (pc := 23) dX7_whose_23 (t := 54) (by decide) (fun c_23 => absurd c_23 (by rw [hm]; exact nI_ge (by omega) (by omega))) (fun _ => ?_)
    refine e_iloadn (pc := 26) dX7_whose_26 rfl ?_
    refine e_aloadn (pc := 27) dX7_whose_27 rfl ?_
    refine e_iloadn (pc := 28) dX7_whose_28 rfl ?_
    refine e_iload (pc := 29) dX7_whose_29 rfl ?_
    refine e_cvX (pc := 31) (sp_y_unlike hG hS h0 hci hD) dX7_whose_31 kX7_275 rfl rfl rfl rfl rfl (mc_CR_of (Nat.le_of_ble_eq_true rfl) (Nat.le_of_ble_eq_true rfl) (Nat.le_refl _) (Nat.le_refl _)) (Nat.le_of_ble_eq_true rfl) (fun w1 hw1 => ?_)
    obtain ⟨n1, d1, hD1, rfl⟩ := hw1
    refine e_iconst (v := -1) (pc := 34) dX7_whose_34 (by decide) ?_
    refine e_icmp_ne (pc := 35) dX7_whose_35 (t := 45) (by decide) (fun c_35 => ?_) (fun c_35 => ?_)
    · skip
      refine e_iconst (v := 0) (pc := 45) dX7_whose_45 (by decide) ?_
      refine e_ior (pc := 46) dX7_whose_46 ?_
      refine e_isn3 (pc := 47) dX7_whose_47 (Nat.le_of_ble_eq_true rfl) rfl ?_
      refine e_incC4 (pc := 48) dX7_whose_48 (nI_1 i) (Nat.le_of_ble_eq_true rfl) rfl ?_
      refine e_goto (pc := 51) dX7_whose_51 (t := 17) (by decide) ?_
      exact ih (i + 1) _ n1 d1 (by omega) hD1 (by rw [← hV, if_neg c_35])
    · skip
      refine e_iconst (v := 1) (pc := 38) dX7_whose_38 (by decide) ?_
      refine e_iload (pc := 39) dX7_whose_39 rfl ?_
      refine e_ishl (pc := 41) dX7_whose_41 ?_
      refine e_goto (pc := 42) dX7_whose_42 (t := 46) (by decide) ?_
      refine e_ior (pc := 46) dX7_whose_46 ?_
      refine e_isn3 (pc := 47) dX7_whose_47 (Nat.le_of_ble_eq_true rfl) rfl ?_
      refine e_incC4 (pc := 48) dX7_whose_48 (nI_1 i) (Nat.le_of_ble_eq_true rfl) rfl ?_
      refine e_goto (pc := 51) dX7_whose_51 (t := 17) (by decide) ?_
      exact ih (i + 1) _ n1 d1 (by omega) hD1 (by rw [← hV, if_pos c_35])
theorem sp_y_whose {s u m n : Nat → Int32} {a c b d : Nat → List Int32} {q : List (Option Nat)} {h : Nat} {z : mc_W} {s0 : Int32} (hG : yG m b) (hS : ySh b) (hD : yD d) : mc_T yX7_whose cX7_whose 5 (some .int) 8 [.ref 29, .int s0] (WW s a q u c h m b n d z) (some (.int (ywhose m b s0))) (fun w' => ∃ n1 d1, yD d1 ∧ w' = WW s a q u c h m b n1 d1 z) := by
  refine mc_start (own := RX7) (ini := false) rfl (by decide +kernel) (fun h => by cases h) (Nat.le_of_ble_eq_true rfl) ?_
  show mc_E _ _ _ _ _ [some (.ref 29), some (.int s0), none, none, none] [] _ _ _
  refine e_aloadn (pc := 0) dX7_whose_0 rfl ?_
  refine e_iloadn (pc := 1) dX7_whose_1 rfl ?_
  refine e_cvD (pc := 2) (sp_y_sheetWrong hG.1 hS) dX7_whose_2 kX7_269 rfl rfl rfl rfl rfl (mc_CR_of (Nat.le_of_ble_eq_true rfl) (Nat.le_of_ble_eq_true rfl) (Nat.le_refl _) (Nat.le_refl _)) (Nat.le_of_ble_eq_true rfl) ?_
  refine e_isn2 (pc := 5) dX7_whose_5 (Nat.le_of_ble_eq_true rfl) rfl ?_
  refine e_iloadn (pc := 6) dX7_whose_6 rfl ?_
  refine e_if_eq (pc := 7) dX7_whose_7 (t := 12) (by decide) (fun c_7 => ?_) (fun c_7 => ?_)
  · skip
    refine e_iconst (v := 0) (pc := 12) dX7_whose_12 (by decide) ?_
    refine e_isn3 (pc := 13) dX7_whose_13 (Nat.le_of_ble_eq_true rfl) rfl ?_
    refine e_iconst (v := 0) (pc := 14) dX7_whose_14 (by decide) ?_
    refine e_isw4 (pc := 15) dX7_whose_15 (Nat.le_of_ble_eq_true rfl) rfl ?_
    exact lp_y_whose hG hS c_7 _ 0 0 n d (Nat.zero_add _) hD (by unfold ywhose; rw [if_neg (fun q => q c_7)])
  · skip
    refine e_iloadn (pc := 10) dX7_whose_10 rfl ?_
    exact e_iret (pc := 11) dX7_whose_11 rfl (Nat.le_refl _) (Nat.le_refl _) ⟨by unfold ywhose; rw [if_pos c_7], n, d, hD, rfl⟩
theorem yG_rule {m : Nat → Int32} {b : Nat → List Int32} (h : yG m b) {t : Nat} (ht : (t : Int) < (m 4).toInt) : yG (mc_up m 5 (nI t)) b := by
  have h6 := h.2.2.2.1.2.2
  refine ⟨h.1, h.2.1, h.2.2.1, ?_, h.2.2.2.2.1, h.2.2.2.2.2⟩
  show 0 ≤ (nI t).toInt ∧ (nI t).toInt < (m 4).toInt ∧ (m 4).toInt ≤ 6
  rw [nI_toInt (by omega)]
  omega
def ylaws (m : Nat → Int32) (b : Nat → List Int32) (s k : Int32) : Int32 := if ¬ ytw m b s k = 0 then ytw m b s k else ybits (fun i => yunl (mc_up m 5 (nI i)) b s k) (m 4).toNatClampNeg 0 0
theorem lp_y_laws {s u m : Nat → Int32} {a c b : Nat → List Int32} {q : List (Option Nat)} {h : Nat} {z : mc_W} {s0 k0 V x3 : Int32} (hG : yG m b) (hS : ySh b) (h0 : ytw m b s0 k0 = 0) :
    ∀ (f i : Nat) (acc : Int32) (m1 n : Nat → Int32) (d : Nat → List Int32), i + f = (m 4).toNatClampNeg → (∀ x, mc_up m1 5 x = mc_up m 5 x) → yD d → ybits (fun i => yunl (mc_up m 5 (nI i)) b s0 k0) f i acc = V →
      mc_E RX7 cX7_laws 7 (mc_JM (some .int) false 8 0 0 (fun r' w' => r' = some (.int V) ∧ ∃ n1 d1, yD d1 ∧ w' = WW s a q u c h m b n1 d1 z)) 25 [some (.ref 29), some (.int s0), some (.int k0), some (.int x3), some (.int (m 5)), some (.int acc), some (.int (nI i))] [] (WW s a q u c h m1 b n d z) 0 0 := by
  have h4 : 0 ≤ (m 4).toInt := by have := hG.2.2.2.1; omega
  have hm := nI_back h4
  have tm := tnc h4
  have hm6 := hG.2.2.2.1.2.2
  have m14 : ∀ m1 : Nat → Int32, (∀ x, mc_up m1 5 x = mc_up m 5 x) → m1 4 = m 4 := fun m1 hm1 => congrFun (hm1 0) 4
  intro f
  induction f with
  | zero =>
    intro i acc m1 n d hi hm1 hD hV
    have hi2 : i = (m 4).toNatClampNeg := by omega
    have e4 := m14 m1 hm1
    have hV : acc = V := hV
    subst hV
    refine e_iload (pc := 25) dX7_laws_25 rfl ?_
    refine e_aloadn (pc := 27) dX7_laws_27 rfl ?_
    refine e_get (pc := 28) dX7_laws_28 fX7_80 rfl rfl ?_
    refine e_icmp_ge (pc := 31) dX7_laws_31 (t := 69) (by decide) (fun _ => ?_) (fun c_31 => absurd (by rw [e4, hi2, ← hm]; exact Int32.le_refl _) c_31)
    refine e_aloadn (pc := 69) dX7_laws_69 rfl ?_
    refine e_iload (pc := 70) dX7_laws_70 rfl ?_
    refine put_y_rule (pc := 72) dX7_laws_72 pX7_83 ?_
    refine e_iload (pc := 75) dX7_laws_75 rfl ?_
    exact e_iret (pc := 77) dX7_laws_77 rfl (Nat.le_refl _) (Nat.le_refl _) ⟨rfl, n, d, hD, by rw [hm1, mc_up_self]⟩
  | succ f ih =>
    intro i acc m1 n d hi hm1 hD hV
    have hG2 := yG_rule hG (t := i) (by omega)
    have e4 := m14 m1 hm1
    simp only [ybits] at hV
    refine e_iload (pc := 25) dX7_laws_25 rfl ?_
    refine e_aloadn (pc := 27) dX7_laws_27 rfl ?_
    refine e_get (pc := 28) dX7_laws_28 fX7_80 rfl rfl ?_
    refine e_icmp_ge (pc := 31) dX7_laws_31 (t := 69) (by decide) (fun c_31 => absurd c_31 (by rw [e4, hm]; exact nI_ge (by omega) (by omega))) (fun _ => ?_)
    refine e_aloadn (pc := 34) dX7_laws_34 rfl ?_
    refine e_iload (pc := 35) dX7_laws_35 rfl ?_
    refine put_y_rule (pc := 37) dX7_laws_37 pX7_83 ?_
    rw [hm1]
    refine e_iload (pc := 40) dX7_laws_40 rfl ?_
    refine e_aloadn (pc := 42) dX7_laws_42 rfl ?_
    refine e_iloadn (pc := 43) dX7_laws_43 rfl ?_
    refine e_iloadn (pc := 44) dX7_laws_44 rfl ?_
    refine e_cvX (pc := 45) (sp_y_unlike hG2 hS (ytw0 h0).1 (ytw0 h0).2 hD) dX7_laws_45 kX7_275 rfl rfl rfl rfl rfl (mc_CR_of (Nat.le_of_ble_eq_true rfl) (Nat.le_of_ble_eq_true rfl) (Nat.le_refl _) (Nat.le_refl _)) (Nat.le_of_ble_eq_true rfl) (fun w1 hw1 => ?_)
    obtain ⟨n1, d1, hD1, rfl⟩ := hw1
    refine e_iconst (v := -1) (pc := 48) dX7_laws_48 (by decide) ?_
    refine e_icmp_ne (pc := 49) dX7_laws_49 (t := 59) (by decide) (fun c_49 => ?_) (fun c_49 => ?_)
    · skip
      refine e_iconst (v := 0) (pc := 59) dX7_laws_59 (by decide) ?_
      refine e_ior (pc := 60) dX7_laws_60 ?_
      refine e_isw5 (pc := 61) dX7_laws_61 (Nat.le_of_ble_eq_true rfl) rfl ?_
      refine e_incC6 (pc := 63) dX7_laws_63 (nI_1 i) (Nat.le_of_ble_eq_true rfl) rfl ?_
      refine e_goto (pc := 66) dX7_laws_66 (t := 25) (by decide) ?_
      exact ih (i + 1) _ _ n1 d1 (by omega) (fun x => mc_up_up _ _ _ _) hD1 (by rw [← hV, if_neg c_49])
    · skip
      refine e_iconst (v := 1) (pc := 52) dX7_laws_52 (by decide) ?_
      refine e_iload (pc := 53) dX7_laws_53 rfl ?_
      refine e_ishl (pc := 55) dX7_laws_55 ?_
      refine e_goto (pc := 56) dX7_laws_56 (t := 60) (by decide) ?_
      refine e_ior (pc := 60) dX7_laws_60 ?_
      refine e_isw5 (pc := 61) dX7_laws_61 (Nat.le_of_ble_eq_true rfl) rfl ?_
      refine e_incC6 (pc := 63) dX7_laws_63 (nI_1 i) (Nat.le_of_ble_eq_true rfl) rfl ?_
      refine e_goto (pc := 66) dX7_laws_66 (t := 25) (by decide) ?_
      exact ih (i + 1) _ _ n1 d1 (by omega) (fun x => mc_up_up _ _ _ _) hD1 (by rw [← hV, if_pos c_49])
theorem sp_y_laws {s u m n : Nat → Int32} {a c b d : Nat → List Int32} {q : List (Option Nat)} {h : Nat} {z : mc_W} {s0 k : Int32} (hG : yG m b) (hS : ySh b) (hD : yD d) : mc_T yX7_laws cX7_laws 7 (some .int) 8 [.ref 29, .int s0, .int k] (WW s a q u c h m b n d z) (some (.int (ylaws m b s0 k))) (fun w' => ∃ n1 d1, yD d1 ∧ w' = WW s a q u c h m b n1 d1 z) := by
  refine mc_start (own := RX7) (ini := false) rfl (by decide +kernel) (fun h => by cases h) (Nat.le_of_ble_eq_true rfl) ?_
  show mc_E _ _ _ _ _ [some (.ref 29), some (.int s0), some (.int k), none, none, none, none] [] _ _ _
  refine e_aloadn (pc := 0) dX7_laws_0 rfl ?_
  refine e_iloadn (pc := 1) dX7_laws_1 rfl ?_
  refine e_iloadn (pc := 2) dX7_laws_2 rfl ?_
  refine e_cvD (pc := 3) (sp_y_toldWrong hG.1 hS) dX7_laws_3 kX7_272 rfl rfl rfl rfl rfl (mc_CR_of (Nat.le_of_ble_eq_true rfl) (Nat.le_of_ble_eq_true rfl) (Nat.le_refl _) (Nat.le_refl _)) (Nat.le_of_ble_eq_true rfl) ?_
  refine e_isn3 (pc := 6) dX7_laws_6 (Nat.le_of_ble_eq_true rfl) rfl ?_
  refine e_iloadn (pc := 7) dX7_laws_7 rfl ?_
  refine e_if_eq (pc := 8) dX7_laws_8 (t := 13) (by decide) (fun c_8 => ?_) (fun c_8 => ?_)
  · skip
    refine e_aloadn (pc := 13) dX7_laws_13 rfl ?_
    refine e_get (pc := 14) dX7_laws_14 fX7_83 rfl rfl ?_
    refine e_isw4 (pc := 17) dX7_laws_17 (Nat.le_of_ble_eq_true rfl) rfl ?_
    refine e_iconst (v := 0) (pc := 19) dX7_laws_19 (by decide) ?_
    refine e_isw5 (pc := 20) dX7_laws_20 (Nat.le_of_ble_eq_true rfl) rfl ?_
    refine e_iconst (v := 0) (pc := 22) dX7_laws_22 (by decide) ?_
    refine e_isw6 (pc := 23) dX7_laws_23 (Nat.le_of_ble_eq_true rfl) rfl ?_
    exact lp_y_laws hG hS c_8 _ 0 0 m n d (Nat.zero_add _) (fun _ => rfl) hD (by unfold ylaws; rw [if_neg (fun q => q c_8)])
  · skip
    refine e_iloadn (pc := 11) dX7_laws_11 rfl ?_
    exact e_iret (pc := 12) dX7_laws_12 rfl (Nat.le_refl _) (Nat.le_refl _) ⟨by unfold ylaws; rw [if_pos c_8], n, d, hD, rfl⟩
