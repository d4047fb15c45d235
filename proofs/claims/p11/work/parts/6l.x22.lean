/-! ===== words and what they stand for ===== -/
theorem ywi_iff (T : Nat → Int32) (fr to k : Nat) : ∀ g i L, i + g = 8 → (ywi T fr to k g i L = true ↔ L = true ∧ ∀ j, i ≤ j → j < 8 → ww_words.getD (8 * k + j) 0 = (if fr + j < to then T (fr + j) else 32)) := by
  intro g
  induction g with
  | zero => intro i L hi; simp only [ywi]; exact ⟨fun h => ⟨h, fun j h1 h2 => by omega⟩, fun h => h.1⟩
  | succ g ih =>
    intro i L hi
    simp only [ywi]
    cases L with
    | false => simp
    | true =>
      rw [if_pos rfl, ih (i + 1) _ (by omega), decide_eq_true_eq]
      constructor
      · intro h
        refine ⟨rfl, fun j h1 h2 => ?_⟩
        by_cases e : j = i
        · rw [e]; exact h.1
        · exact h.2 j (by omega) h2
      · intro h
        exact ⟨h.2 i (Nat.le_refl _) (by omega), fun j h1 h2 => h.2 j (by omega) h2⟩
theorem xwa_iff (T : Nat → Int32) (B j : Nat) : ∀ f i, (xwa T B j f i = true ↔ ∀ p, i ≤ p → p < i + f → T (B + p) = wb j p) := by
  intro f
  induction f with
  | zero => intro i; simp only [xwa]; exact ⟨fun _ p h1 h2 => by omega, fun _ => trivial⟩
  | succ f ih =>
    intro i
    simp only [xwa]
    by_cases h : T (B + i) = wb j i
    · rw [if_pos h, ih]
      constructor
      · intro g p h1 h2
        by_cases e : p = i
        · rw [e]; exact h
        · exact g p (by omega) (by omega)
      · intro g p h1 h2
        exact g p (by omega) (by omega)
    · rw [if_neg h]
      exact ⟨fun q => absurd q (by decide), fun g => absurd (g i (Nat.le_refl _) (by omega)) h⟩
/-- where the other side keeps word j -/
def xpi (j : Nat) : Nat := [3, 4, 5, 6, 7, 8, 0, 1, 2, 9, 10, 11].getD j 12
theorem xpi_w : ∀ j, j < 12 → ∀ i, i < 8 → ww_words.getD (8 * xpi j + i) 0 = if i < wl j then wb j i else 32 := by decide +kernel
theorem wb_32 : ∀ j, j < 12 → ∀ i, i < wl j → wb j i ≠ 32 := by decide +kernel
theorem xpi_lt : ∀ j, j < 12 → xpi j < 12 := by decide
theorem xpi_on : ∀ k, k < 12 → ∃ j, j < 12 ∧ xpi j = k := by decide
theorem ww_far : ∀ k, k < 12 → ∀ l, l < 12 → (k = l || (List.range 8).any (fun i => ww_words.getD (8 * k + i) 0 != ww_words.getD (8 * l + i) 0)) = true := by decide +kernel
theorem let_32 {x : Int32} (h : mc_wi x 97 122 = true) : x ≠ 32 := fun q => by rw [q] at h; exact absurd h (by decide)
theorem xwd_ywi {T : Nat → Int32} {B E j : Nat} (hl : ∀ p, B ≤ p → p < E → mc_wi (T p) 97 122 = true) (hBE : B ≤ E) (hj : j < 12) : xwd T B E j = true ↔ ywi T B E (xpi j) 8 0 (decide (E - B ≤ 8)) = true := by
  have hw : wl j ≤ 6 := wl_le
  rw [ywi_iff T B E _ 8 0 _ (by omega)]
  unfold xwd
  rw [Bool.and_eq_true, decide_eq_true_eq, decide_eq_true_eq, xwa_iff]
  constructor
  · rintro ⟨e, h⟩
    refine ⟨by omega, fun i h1 h2 => ?_⟩
    rw [xpi_w j hj i h2]
    by_cases g : i < wl j
    · rw [if_pos g, if_pos (by omega)]; exact (h i (Nat.zero_le _) (by omega)).symm
    · rw [if_neg g, if_neg (by omega)]
  · rintro ⟨h8, h⟩
    have e : E - B = wl j := by
      by_cases g : E - B < wl j
      · have q := h (E - B) (Nat.zero_le _) (by omega)
        rw [xpi_w j hj _ (by omega), if_pos g, if_neg (by omega)] at q
        exact absurd q (wb_32 j hj _ g)
      · by_cases g2 : wl j < E - B
        · have q := h (wl j) (Nat.zero_le _) (by omega)
          rw [xpi_w j hj _ (by omega), if_neg (by omega), if_pos (by omega)] at q
          exact absurd q.symm (let_32 (hl _ (by omega) (by omega)))
        · omega
    refine ⟨by omega, fun i h1 h2 => ?_⟩
    have q := h i (Nat.zero_le _) (by omega)
    rw [xpi_w j hj i (by omega), if_pos (by omega), if_pos (by omega)] at q
    exact q.symm
theorem ywi_one {T : Nat → Int32} {B E k l : Nat} {L M : Bool} (hk : k < 12) (hl : l < 12) (h1 : ywi T B E k 8 0 L = true) (h2 : ywi T B E l 8 0 M = true) : k = l := by
  rw [ywi_iff T B E _ 8 0 _ (by omega)] at h1 h2
  have f := ww_far k hk l hl
  rw [Bool.or_eq_true, decide_eq_true_eq] at f
  rcases f with f | f
  · exact f
  · obtain ⟨i, hi, hn⟩ := List.any_eq_true.mp f
    rw [List.mem_range] at hi
    rw [h1.2 i (Nat.zero_le _) hi, h2.2 i (Nat.zero_le _) hi] at hn
    simp at hn
/-- the class's number for what the other side calls sort t, value v -/
def xtm (t v : Int32) : Int32 := if t = 0 then -26 else if t = 1 then v else if t = 2 then -1 - v else if t = 3 then -23 - v else if t = 4 then -11 else if t = 5 then -12 else if t = 6 then -13
  else if t = 40 then -20 else if t = 41 then -21 else if t = 59 then -22 else if t = 43 then -16 else if t = 45 then -17 else if t = 42 then -18 else if t = 60 then -14 else if t = 61 then -15 else -27
theorem xwv_tm : ∀ j, j < 12 → xwv.getD j (-27) = xtm (ynk (xpi j)) (ynv (xpi j)) := by decide
theorem ywo_is {T : Nat → Int32} {B E k0 : Nat} (h0 : k0 < 12) (h : ywi T B E k0 8 0 (decide (E - B ≤ 8)) = true) : ∀ g k, k + g = 12 → k ≤ k0 → ywo T B E g k = k0 := by
  intro g
  induction g with
  | zero => intro k hk h1; omega
  | succ g ih =>
    intro k hk h1
    simp only [ywo]
    by_cases hh : ywi T B E k 8 0 (decide (E - B ≤ 8)) = true
    · rw [if_pos hh]; exact ywi_one (by omega) h0 hh h
    · rw [if_neg hh]
      by_cases e : k = k0
      · rw [e] at hh; exact absurd h hh
      · exact ih (k + 1) (by omega) (by omega)
theorem ywo_no {T : Nat → Int32} {B E : Nat} (h : ∀ k, k < 12 → ¬ ywi T B E k 8 0 (decide (E - B ≤ 8)) = true) : ∀ g k, k + g = 12 → ywo T B E g k = 12 := by
  intro g
  induction g with
  | zero => intro k hk; rfl
  | succ g ih =>
    intro k hk
    simp only [ywo]
    rw [if_neg (h k (by omega))]
    exact ih (k + 1) (by omega)
theorem xwt_is {T : Nat → Int32} {B E j0 : Nat} (h0 : j0 < 12) (h : xwd T B E j0 = true) (ho : ∀ j, j < 12 → xwd T B E j = true → j = j0) : ∀ g j, j + g = 12 → j ≤ j0 → xwt T B E g j = xwv.getD j0 (-27) := by
  intro g
  induction g with
  | zero => intro k hk h1; omega
  | succ g ih =>
    intro k hk h1
    simp only [xwt]
    by_cases hh : xwd T B E k = true
    · rw [if_pos hh, ho k (by omega) hh]
    · rw [if_neg hh]
      by_cases e : k = j0
      · rw [e] at hh; exact absurd h hh
      · exact ih (k + 1) (by omega) (by omega)
theorem xwt_no {T : Nat → Int32} {B E : Nat} (h : ∀ j, j < 12 → ¬ xwd T B E j = true) : ∀ g j, j + g = 12 → xwt T B E g j = -27 := by
  intro g
  induction g with
  | zero => intro k hk; rfl
  | succ g ih =>
    intro k hk
    simp only [xwt]
    rw [if_neg (h k (by omega))]
    exact ih (k + 1) (by omega)
theorem xpi_inj : ∀ j, j < 12 → ∀ l, l < 12 → xpi j = xpi l → j = l := by decide
theorem xwt_tm {T : Nat → Int32} {B E : Nat} (hl : ∀ p, B ≤ p → p < E → mc_wi (T p) 97 122 = true) (hBE : B ≤ E) : xwt T B E 12 0 = xtm (ynk (ywo T B E 12 0)) (ynv (ywo T B E 12 0)) := by
  by_cases h : ∃ j, j < 12 ∧ xwd T B E j = true
  · obtain ⟨j, hj, hd⟩ := h
    have hy := (xwd_ywi hl hBE hj).mp hd
    rw [ywo_is (xpi_lt j hj) hy 12 0 (by omega) (Nat.zero_le _), xwt_is hj hd (fun l hl2 hd2 => xpi_inj l hl2 j hj (ywi_one (xpi_lt l hl2) (xpi_lt j hj) ((xwd_ywi hl hBE hl2).mp hd2) hy)) 12 0 (by omega) (Nat.zero_le _)]
    exact xwv_tm j hj
  · rw [xwt_no (fun j hj hd => h ⟨j, hj, hd⟩) 12 0 (by omega), ywo_no (fun k hk hy => ?_) 12 0 (by omega)]
    · decide
    · obtain ⟨j, hj, e⟩ := xpi_on k hk
      exact h ⟨j, hj, (xwd_ywi hl hBE hj).mpr (by rw [e]; exact hy)⟩
theorem ylt_let (T : Nat → Int32) (N : Nat) : ∀ f p, ∀ i, p ≤ i → i < ylt T N f p → mc_wi (T i) 97 122 = true := by
  intro f
  induction f with
  | zero => intro p i h1 h2; simp only [ylt] at h2; omega
  | succ f ih =>
    intro p i h1 h2
    simp only [ylt] at h2
    by_cases h : p < N ∧ mc_wi (T p) 97 122 = true
    · rw [if_pos h] at h2
      by_cases e : i = p
      · rw [e]; exact h.2
      · exact ih (p + 1) i (by omega) h2
    · rw [if_neg h] at h2; omega
theorem lp_x_num {s m n : Nat → Int32} {a c b d : Nat → List Int32} {q : List (Option Nat)} {h : Nat} {z : mc_W} (hL : xL a) {N : Nat} (hN : s 5 = nI N) (hN1 : N ≤ 160) {ub : Nat → Int32} {B : Nat} (hB : ub 0 = nI B) {V : Nat × Nat × Int32} :
    ∀ (f p k : Nat) (v vx : Int32) (u : Nat → Int32), p + f = N → p = B + k → (k ≤ 4 → vx = v) → u 1 = nI p → (∀ j, j ≠ 1 → u j = ub j) → yda (xT a) N f p k v = V →
      mc_E RX4 cX4_numberToken 2 (mc_JM (some .int) false 2 0 0 (fun r' w' => r' = some (.int (if 4 < V.2.1 then -27 else V.2.2)) ∧ ∃ u1 : Nat → Int32, u1 1 = nI V.1 ∧ (∀ j, j ≠ 1 → u1 j = ub j) ∧ w' = (WW s a q u1 c h m b n d z))) 2 [some (.ref 6), some (.int vx)] [] (WW s a q u c h m b n d z) 0 0 := by
  intro f
  induction f with
  | zero =>
    intro p k v vx u hp hpk hv h1 hu hV
    have e : p = N := by omega
    have h0 : u 0 = nI B := (hu 0 (by decide)).trans hB
    have eS : u 1 - u 0 = nI k := by rw [h0, h1, hpk, pk_sub (by omega)]; congr 1; omega
    have eQ : nI k ≤ 4 ↔ k ≤ 4 := by rw [Int32.le_iff_toInt_le, nI_toInt (by omega), show (4 : Int32).toInt = 4 from rfl]; omega
    simp only [yda] at hV
    subst hV
    refine e_aloadn (pc := 2) dX4_numberToken_2 rfl ?_
    refine e_get (pc := 3) dX4_numberToken_3 fX4_22 rfl rfl ?_
    refine e_aloadn (pc := 6) dX4_numberToken_6 rfl ?_
    refine e_get (pc := 7) dX4_numberToken_7 fX4_18 rfl rfl ?_
    refine e_icmp_ge (pc := 10) dX4_numberToken_10 (t := 57) (by decide) (fun _ => ?_) (fun c_10 => absurd (by rw [hN, h1, e]; exact Int32.le_refl _) c_10)
    refine e_aloadn (pc := 57) dX4_numberToken_57 rfl ?_
    refine e_get (pc := 58) dX4_numberToken_58 fX4_22 rfl rfl ?_
    refine e_aloadn (pc := 61) dX4_numberToken_61 rfl ?_
    refine e_get (pc := 62) dX4_numberToken_62 fX4_44 rfl rfl ?_
    refine e_isub (pc := 65) dX4_numberToken_65 ?_
    refine e_top (y := nI k) eS ?_
    refine e_iconst (v := 4) (pc := 66) dX4_numberToken_66 (by decide) ?_
    refine e_icmp_le (pc := 67) dX4_numberToken_67 (t := 75) (by decide) (fun c_67 => ?_) (fun c_67 => ?_)
    · skip
      refine e_iloadn (pc := 75) dX4_numberToken_75 rfl ?_
      exact e_iret (pc := 76) dX4_numberToken_76 rfl (Nat.le_refl _) (Nat.le_refl _) ⟨by rw [if_neg (show ¬ 4 < k by have := eQ.mp c_67; omega), hv (eQ.mp c_67)], u, h1, hu, rfl⟩
    · skip
      refine e_bipush (v := -27) (pc := 70) dX4_numberToken_70 (by decide) ?_
      refine e_goto (pc := 72) dX4_numberToken_72 (t := 76) (by decide) ?_
      exact e_iret (pc := 76) dX4_numberToken_76 rfl (Nat.le_refl _) (Nat.le_refl _) ⟨by rw [if_pos (show 4 < k from Nat.not_le.mp (fun q => c_67 (eQ.mpr q)))], u, h1, hu, rfl⟩
  | succ f ih =>
    intro p k v vx u hp hpk hv h1 hu hV
    simp only [yda] at hV
    have hpN : p < N := by omega
    have h0 : u 0 = nI B := (hu 0 (by decide)).trans hB
    have eS : u 1 - u 0 = nI k := by rw [h0, h1, hpk, pk_sub (by omega)]; congr 1; omega
    have eQ : nI k ≤ 4 ↔ k ≤ 4 := by rw [Int32.le_iff_toInt_le, nI_toInt (by omega), show (4 : Int32).toInt = 4 from rfl]; omega
    have eb : xby (xT a) N p = xT a p := if_pos hpN
    refine e_aloadn (pc := 2) dX4_numberToken_2 rfl ?_
    refine e_get (pc := 3) dX4_numberToken_3 fX4_22 rfl rfl ?_
    refine e_aloadn (pc := 6) dX4_numberToken_6 rfl ?_
    refine e_get (pc := 7) dX4_numberToken_7 fX4_18 rfl rfl ?_
    refine e_icmp_ge (pc := 10) dX4_numberToken_10 (t := 57) (by decide) (fun c_10 => absurd c_10 (by rw [hN, h1]; exact nI_ge hpN (by omega))) (fun _ => ?_)
    refine e_aloadn (pc := 13) dX4_numberToken_13 rfl ?_
    refine e_aloadn (pc := 14) dX4_numberToken_14 rfl ?_
    refine e_get (pc := 15) dX4_numberToken_15 fX4_22 rfl rfl ?_
    refine e_cvD (pc := 18) (sp_x_byteAt (p := p) hL hN hN1 h1 (by omega)) dX4_numberToken_18 kX4_92 rfl rfl rfl rfl rfl (mc_CR_of (Nat.le_of_ble_eq_true rfl) (Nat.le_of_ble_eq_true rfl) (Nat.le_refl _) (Nat.le_refl _)) (Nat.le_of_ble_eq_true rfl) ?_
    rw [eb]
    refine e_csD (pc := 21) (sp_x_isDigit) dX4_numberToken_21 kX4_106 rfl rfl (mc_CR_of (Nat.le_of_ble_eq_true rfl) (Nat.le_of_ble_eq_true rfl) (Nat.le_refl _) (Nat.le_refl _)) (Nat.le_of_ble_eq_true rfl) ?_
    refine e_if_eq (pc := 24) dX4_numberToken_24 (t := 57) (by decide) (fun c_24 => ?_) (fun c_24 => ?_)
    · skip
      refine e_aloadn (pc := 57) dX4_numberToken_57 rfl ?_
      refine e_get (pc := 58) dX4_numberToken_58 fX4_22 rfl rfl ?_
      refine e_aloadn (pc := 61) dX4_numberToken_61 rfl ?_
      refine e_get (pc := 62) dX4_numberToken_62 fX4_44 rfl rfl ?_
      refine e_isub (pc := 65) dX4_numberToken_65 ?_
      rw [if_neg (fun q => by rw [mc_b0.mp c_24] at q; exact absurd q.2 (by decide))] at hV
      subst hV
      refine e_top (y := nI k) eS ?_
      refine e_iconst (v := 4) (pc := 66) dX4_numberToken_66 (by decide) ?_
      refine e_icmp_le (pc := 67) dX4_numberToken_67 (t := 75) (by decide) (fun c_67 => ?_) (fun c_67 => ?_)
      · skip
        refine e_iloadn (pc := 75) dX4_numberToken_75 rfl ?_
        exact e_iret (pc := 76) dX4_numberToken_76 rfl (Nat.le_refl _) (Nat.le_refl _) ⟨by rw [if_neg (show ¬ 4 < k by have := eQ.mp c_67; omega), hv (eQ.mp c_67)], u, h1, hu, rfl⟩
      · skip
        refine e_bipush (v := -27) (pc := 70) dX4_numberToken_70 (by decide) ?_
        refine e_goto (pc := 72) dX4_numberToken_72 (t := 76) (by decide) ?_
        exact e_iret (pc := 76) dX4_numberToken_76 rfl (Nat.le_refl _) (Nat.le_refl _) ⟨by rw [if_pos (show 4 < k from Nat.not_le.mp (fun q => c_67 (eQ.mpr q)))], u, h1, hu, rfl⟩
    · skip
      refine e_bipush (v := 10) (pc := 27) dX4_numberToken_27 (by decide) ?_
      refine e_iloadn (pc := 29) dX4_numberToken_29 rfl ?_
      refine e_imul (pc := 30) dX4_numberToken_30 ?_
      refine e_aloadn (pc := 31) dX4_numberToken_31 rfl ?_
      refine e_aloadn (pc := 32) dX4_numberToken_32 rfl ?_
      refine e_get (pc := 33) dX4_numberToken_33 fX4_22 rfl rfl ?_
      refine e_cvD (pc := 36) (sp_x_byteAt (p := p) hL hN hN1 h1 (by omega)) dX4_numberToken_36 kX4_92 rfl rfl rfl rfl rfl (mc_CR_of (Nat.le_of_ble_eq_true rfl) (Nat.le_of_ble_eq_true rfl) (Nat.le_refl _) (Nat.le_refl _)) (Nat.le_of_ble_eq_true rfl) ?_
      rw [eb]
      refine e_iadd (pc := 39) dX4_numberToken_39 ?_
      refine e_bipush (v := 48) (pc := 40) dX4_numberToken_40 (by decide) ?_
      refine e_isub (pc := 42) dX4_numberToken_42 ?_
      refine e_isn1 (pc := 43) dX4_numberToken_43 (Nat.le_of_ble_eq_true rfl) rfl ?_
      refine e_aloadn (pc := 44) dX4_numberToken_44 rfl ?_
      refine e_dup (pc := 45) dX4_numberToken_45 rfl ?_
      refine e_get (pc := 46) dX4_numberToken_46 fX4_22 rfl rfl ?_
      refine e_iconst (v := 1) (pc := 49) dX4_numberToken_49 (by decide) ?_
      refine e_iadd (pc := 50) dX4_numberToken_50 ?_
      refine put_tape_next (pc := 51) dX4_numberToken_51 pX4_22 ?_
      refine e_goto (pc := 54) dX4_numberToken_54 (t := 2) (by decide) ?_
      exact ih (p + 1) (k + 1) (if k < 4 then 10 * v + xT a p - 48 else 0) _ _ (by omega) (by omega) (fun q => by rw [if_pos (show k < 4 by omega), hv (by omega)]) (by rw [up_at, h1, nI_1]) (fun j hj => by rw [upn hj]; exact hu j hj) (by rw [← hV]; exact (if_pos ⟨hpN, mc_b1.mp c_24⟩).symm)
theorem sp_x_numberToken {s u m n : Nat → Int32} {a c b d : Nat → List Int32} {q : List (Option Nat)} {h : Nat} {z : mc_W} (hL : xL a) {N : Nat} (hN : s 5 = nI N) (hN1 : N ≤ 160) {B : Nat} (hB : u 0 = nI B) (hB1 : u 1 = nI B) (hBN : B ≤ N) : mc_T yX4_numberToken cX4_numberToken 2 (some .int) 2 [.ref 6] (WW s a q u c h m b n d z) (some (.int (if 4 < (yda (xT a) N (N - B) B 0 0).2.1 then -27 else (yda (xT a) N (N - B) B 0 0).2.2))) (fun w1 => ∃ u1 : Nat → Int32, u1 1 = nI (yda (xT a) N (N - B) B 0 0).1 ∧ (∀ j, j ≠ 1 → u1 j = u j) ∧ w1 = (WW s a q u1 c h m b n d z)) := by
  refine mc_start (own := RX4) (ini := false) rfl (by decide +kernel) (fun h => by cases h) (Nat.le_of_ble_eq_true rfl) ?_
  show mc_E _ _ _ _ _ [some (.ref 6), none] [] _ _ _
  refine e_iconst (v := 0) (pc := 0) dX4_numberToken_0 (by decide) ?_
  refine e_isn1 (pc := 1) dX4_numberToken_1 (Nat.le_of_ble_eq_true rfl) rfl ?_
  exact lp_x_num hL hN hN1 (ub := u) hB (N - B) B 0 0 0 u (by omega) (by omega) (fun _ => rfl) hB1 (fun _ _ => rfl) rfl
theorem sp_x_signToken {w : mc_W} {x : Int32} : mc_D yX4_signToken cX4_signToken 1 (some .int) 1 [.int x] w (some (.int (xtm (if ysgn x = true then x else -1) 0))) w := by
  refine mc_start (own := RX4) (ini := false) rfl (by decide +kernel) (fun h => by cases h) (Nat.le_of_ble_eq_true rfl) ?_
  show mc_E _ _ _ _ _ [some (.int x)] [] _ _ _
  refine e_iloadn (pc := 0) dX4_signToken_0 rfl ?_
  by_cases hs_1_40 : x = 40
  · rw [hs_1_40]
    refine e_tabIn (pc := 1) (t := 104) dX4_signToken_1 (by decide) (by decide) rfl (by decide) ?_
    refine e_bipush (v := -20) (pc := 104) dX4_signToken_104 (by decide) ?_
    exact e_iret (pc := 106) dX4_signToken_106 rfl (Nat.le_refl _) (Nat.le_refl _) ⟨by first | rfl | (rw [show ysgn x = false by unfold ysgn; simp_all]; rfl), rfl⟩
  by_cases hs_1_41 : x = 41
  · rw [hs_1_41]
    refine e_tabIn (pc := 1) (t := 107) dX4_signToken_1 (by decide) (by decide) rfl (by decide) ?_
    refine e_bipush (v := -21) (pc := 107) dX4_signToken_107 (by decide) ?_
    exact e_iret (pc := 109) dX4_signToken_109 rfl (Nat.le_refl _) (Nat.le_refl _) ⟨by first | rfl | (rw [show ysgn x = false by unfold ysgn; simp_all]; rfl), rfl⟩
  by_cases hs_1_42 : x = 42
  · rw [hs_1_42]
    refine e_tabIn (pc := 1) (t := 119) dX4_signToken_1 (by decide) (by decide) rfl (by decide) ?_
    refine e_bipush (v := -18) (pc := 119) dX4_signToken_119 (by decide) ?_
    exact e_iret (pc := 121) dX4_signToken_121 rfl (Nat.le_refl _) (Nat.le_refl _) ⟨by first | rfl | (rw [show ysgn x = false by unfold ysgn; simp_all]; rfl), rfl⟩
  by_cases hs_1_43 : x = 43
  · rw [hs_1_43]
    refine e_tabIn (pc := 1) (t := 113) dX4_signToken_1 (by decide) (by decide) rfl (by decide) ?_
    refine e_bipush (v := -16) (pc := 113) dX4_signToken_113 (by decide) ?_
    exact e_iret (pc := 115) dX4_signToken_115 rfl (Nat.le_refl _) (Nat.le_refl _) ⟨by first | rfl | (rw [show ysgn x = false by unfold ysgn; simp_all]; rfl), rfl⟩
  by_cases hs_1_44 : x = 44
  · rw [hs_1_44]
    refine e_tabIn (pc := 1) (t := 128) dX4_signToken_1 (by decide) (by decide) rfl (by decide) ?_
    refine e_bipush (v := -27) (pc := 128) dX4_signToken_128 (by decide) ?_
    exact e_iret (pc := 130) dX4_signToken_130 rfl (Nat.le_refl _) (Nat.le_refl _) ⟨by first | rfl | (rw [show ysgn x = false by unfold ysgn; simp_all]; rfl), rfl⟩
  by_cases hs_1_45 : x = 45
  · rw [hs_1_45]
    refine e_tabIn (pc := 1) (t := 116) dX4_signToken_1 (by decide) (by decide) rfl (by decide) ?_
    refine e_bipush (v := -17) (pc := 116) dX4_signToken_116 (by decide) ?_
    exact e_iret (pc := 118) dX4_signToken_118 rfl (Nat.le_refl _) (Nat.le_refl _) ⟨by first | rfl | (rw [show ysgn x = false by unfold ysgn; simp_all]; rfl), rfl⟩
  by_cases hs_1_46 : x = 46
  · rw [hs_1_46]
    refine e_tabIn (pc := 1) (t := 128) dX4_signToken_1 (by decide) (by decide) rfl (by decide) ?_
    refine e_bipush (v := -27) (pc := 128) dX4_signToken_128 (by decide) ?_
    exact e_iret (pc := 130) dX4_signToken_130 rfl (Nat.le_refl _) (Nat.le_refl _) ⟨by first | rfl | (rw [show ysgn x = false by unfold ysgn; simp_all]; rfl), rfl⟩
  by_cases hs_1_47 : x = 47
  · rw [hs_1_47]
    refine e_tabIn (pc := 1) (t := 128) dX4_signToken_1 (by decide) (by decide) rfl (by decide) ?_
    refine e_bipush (v := -27) (pc := 128) dX4_signToken_128 (by decide) ?_
    exact e_iret (pc := 130) dX4_signToken_130 rfl (Nat.le_refl _) (Nat.le_refl _) ⟨by first | rfl | (rw [show ysgn x = false by unfold ysgn; simp_all]; rfl), rfl⟩
  by_cases hs_1_48 : x = 48
  · rw [hs_1_48]
    refine e_tabIn (pc := 1) (t := 128) dX4_signToken_1 (by decide) (by decide) rfl (by decide) ?_
    refine e_bipush (v := -27) (pc := 128) dX4_signToken_128 (by decide) ?_
    exact e_iret (pc := 130) dX4_signToken_130 rfl (Nat.le_refl _) (Nat.le_refl _) ⟨by first | rfl | (rw [show ysgn x = false by unfold ysgn; simp_all]; rfl), rfl⟩
  by_cases hs_1_49 : x = 49
  · rw [hs_1_49]
    refine e_tabIn (pc := 1) (t := 128) dX4_signToken_1 (by decide) (by decide) rfl (by decide) ?_
    refine e_bipush (v := -27) (pc := 128) dX4_signToken_128 (by decide) ?_
    exact e_iret (pc := 130) dX4_signToken_130 rfl (Nat.le_refl _) (Nat.le_refl _) ⟨by first | rfl | (rw [show ysgn x = false by unfold ysgn; simp_all]; rfl), rfl⟩
  by_cases hs_1_50 : x = 50
  · rw [hs_1_50]
    refine e_tabIn (pc := 1) (t := 128) dX4_signToken_1 (by decide) (by decide) rfl (by decide) ?_
    refine e_bipush (v := -27) (pc := 128) dX4_signToken_128 (by decide) ?_
    exact e_iret (pc := 130) dX4_signToken_130 rfl (Nat.le_refl _) (Nat.le_refl _) ⟨by first | rfl | (rw [show ysgn x = false by unfold ysgn; simp_all]; rfl), rfl⟩
  by_cases hs_1_51 : x = 51
  · rw [hs_1_51]
    refine e_tabIn (pc := 1) (t := 128) dX4_signToken_1 (by decide) (by decide) rfl (by decide) ?_
    refine e_bipush (v := -27) (pc := 128) dX4_signToken_128 (by decide) ?_
    exact e_iret (pc := 130) dX4_signToken_130 rfl (Nat.le_refl _) (Nat.le_refl _) ⟨by first | rfl | (rw [show ysgn x = false by unfold ysgn; simp_all]; rfl), rfl⟩
  by_cases hs_1_52 : x = 52
  · rw [hs_1_52]
    refine e_tabIn (pc := 1) (t := 128) dX4_signToken_1 (by decide) (by decide) rfl (by decide) ?_
    refine e_bipush (v := -27) (pc := 128) dX4_signToken_128 (by decide) ?_
    exact e_iret (pc := 130) dX4_signToken_130 rfl (Nat.le_refl _) (Nat.le_refl _) ⟨by first | rfl | (rw [show ysgn x = false by unfold ysgn; simp_all]; rfl), rfl⟩
  by_cases hs_1_53 : x = 53
  · rw [hs_1_53]
    refine e_tabIn (pc := 1) (t := 128) dX4_signToken_1 (by decide) (by decide) rfl (by decide) ?_
    refine e_bipush (v := -27) (pc := 128) dX4_signToken_128 (by decide) ?_
    exact e_iret (pc := 130) dX4_signToken_130 rfl (Nat.le_refl _) (Nat.le_refl _) ⟨by first | rfl | (rw [show ysgn x = false by unfold ysgn; simp_all]; rfl), rfl⟩
  by_cases hs_1_54 : x = 54
  · rw [hs_1_54]
    refine e_tabIn (pc := 1) (t := 128) dX4_signToken_1 (by decide) (by decide) rfl (by decide) ?_
    refine e_bipush (v := -27) (pc := 128) dX4_signToken_128 (by decide) ?_
    exact e_iret (pc := 130) dX4_signToken_130 rfl (Nat.le_refl _) (Nat.le_refl _) ⟨by first | rfl | (rw [show ysgn x = false by unfold ysgn; simp_all]; rfl), rfl⟩
  by_cases hs_1_55 : x = 55
  · rw [hs_1_55]
    refine e_tabIn (pc := 1) (t := 128) dX4_signToken_1 (by decide) (by decide) rfl (by decide) ?_
    refine e_bipush (v := -27) (pc := 128) dX4_signToken_128 (by decide) ?_
    exact e_iret (pc := 130) dX4_signToken_130 rfl (Nat.le_refl _) (Nat.le_refl _) ⟨by first | rfl | (rw [show ysgn x = false by unfold ysgn; simp_all]; rfl), rfl⟩
  by_cases hs_1_56 : x = 56
  · rw [hs_1_56]
    refine e_tabIn (pc := 1) (t := 128) dX4_signToken_1 (by decide) (by decide) rfl (by decide) ?_
    refine e_bipush (v := -27) (pc := 128) dX4_signToken_128 (by decide) ?_
    exact e_iret (pc := 130) dX4_signToken_130 rfl (Nat.le_refl _) (Nat.le_refl _) ⟨by first | rfl | (rw [show ysgn x = false by unfold ysgn; simp_all]; rfl), rfl⟩
  by_cases hs_1_57 : x = 57
  · rw [hs_1_57]
    refine e_tabIn (pc := 1) (t := 128) dX4_signToken_1 (by decide) (by decide) rfl (by decide) ?_
    refine e_bipush (v := -27) (pc := 128) dX4_signToken_128 (by decide) ?_
    exact e_iret (pc := 130) dX4_signToken_130 rfl (Nat.le_refl _) (Nat.le_refl _) ⟨by first | rfl | (rw [show ysgn x = false by unfold ysgn; simp_all]; rfl), rfl⟩
  by_cases hs_1_58 : x = 58
  · rw [hs_1_58]
    refine e_tabIn (pc := 1) (t := 128) dX4_signToken_1 (by decide) (by decide) rfl (by decide) ?_
    refine e_bipush (v := -27) (pc := 128) dX4_signToken_128 (by decide) ?_
    exact e_iret (pc := 130) dX4_signToken_130 rfl (Nat.le_refl _) (Nat.le_refl _) ⟨by first | rfl | (rw [show ysgn x = false by unfold ysgn; simp_all]; rfl), rfl⟩
  by_cases hs_1_59 : x = 59
  · rw [hs_1_59]
    refine e_tabIn (pc := 1) (t := 110) dX4_signToken_1 (by decide) (by decide) rfl (by decide) ?_
    refine e_bipush (v := -22) (pc := 110) dX4_signToken_110 (by decide) ?_
    exact e_iret (pc := 112) dX4_signToken_112 rfl (Nat.le_refl _) (Nat.le_refl _) ⟨by first | rfl | (rw [show ysgn x = false by unfold ysgn; simp_all]; rfl), rfl⟩
  by_cases hs_1_60 : x = 60
  · rw [hs_1_60]
    refine e_tabIn (pc := 1) (t := 122) dX4_signToken_1 (by decide) (by decide) rfl (by decide) ?_
    refine e_bipush (v := -14) (pc := 122) dX4_signToken_122 (by decide) ?_
    exact e_iret (pc := 124) dX4_signToken_124 rfl (Nat.le_refl _) (Nat.le_refl _) ⟨by first | rfl | (rw [show ysgn x = false by unfold ysgn; simp_all]; rfl), rfl⟩
  by_cases hs_1_61 : x = 61
  · rw [hs_1_61]
    refine e_tabIn (pc := 1) (t := 125) dX4_signToken_1 (by decide) (by decide) rfl (by decide) ?_
    refine e_bipush (v := -15) (pc := 125) dX4_signToken_125 (by decide) ?_
    exact e_iret (pc := 127) dX4_signToken_127 rfl (Nat.le_refl _) (Nat.le_refl _) ⟨by first | rfl | (rw [show ysgn x = false by unfold ysgn; simp_all]; rfl), rfl⟩
  refine e_tabOut (pc := 1) (t := 128) dX4_signToken_1 (mc_tabout (by decide) (fun k h1 h2 => ?_)) (by decide) ?_
  · rcases (show k = 40 ∨ k = 41 ∨ k = 42 ∨ k = 43 ∨ k = 44 ∨ k = 45 ∨ k = 46 ∨ k = 47 ∨ k = 48 ∨ k = 49 ∨ k = 50 ∨ k = 51 ∨ k = 52 ∨ k = 53 ∨ k = 54 ∨ k = 55 ∨ k = 56 ∨ k = 57 ∨ k = 58 ∨ k = 59 ∨ k = 60 ∨ k = 61 by omega) with rfl | rfl | rfl | rfl | rfl | rfl | rfl | rfl | rfl | rfl | rfl | rfl | rfl | rfl | rfl | rfl | rfl | rfl | rfl | rfl | rfl | rfl <;> assumption
  refine e_bipush (v := -27) (pc := 128) dX4_signToken_128 (by decide) ?_
  exact e_iret (pc := 130) dX4_signToken_130 rfl (Nat.le_refl _) (Nat.le_refl _) ⟨by first | rfl | (rw [show ysgn x = false by unfold ysgn; simp_all]; rfl), rfl⟩
theorem ynx_c {T : Nat → Int32} {N A B : Nat} (e : yws T N (N - A) A = B) : ynx T N A = if B = N then (N, N, 0, 0) else if mc_wi (T B) 97 122 = true then (B, ylt T N (N - B) B, ynk (ywo T B (ylt T N (N - B) B) 12 0), ynv (ywo T B (ylt T N (N - B) B) 12 0))
    else if mc_wi (T B) 48 57 = true then (B, (yda T N (N - B) B 0 0).1, (if 4 < (yda T N (N - B) B 0 0).2.1 then -1 else 1), (yda T N (N - B) B 0 0).2.2) else (B, B + 1, (if ysgn (T B) = true then T B else -1), 0) := by
  unfold ynx; rw [e]
/-- what stands next is taken -/
def xNx (R : Nat × Nat × Int32 × Int32) (u u1 : Nat → Int32) : Prop := u1 0 = nI R.1 ∧ u1 1 = nI R.2.1 ∧ u1 2 = xtm R.2.2.1 R.2.2.2 ∧ ∀ j, 3 ≤ j → u1 j = u j
theorem lp_x_ws {s m n : Nat → Int32} {a c b d : Nat → List Int32} {q : List (Option Nat)} {h : Nat} {z : mc_W} {Post : Option Value → mc_W → Prop} (hL : xL a) {N : Nat} (hN : s 5 = nI N) (hN1 : N ≤ 160) {ub : Nat → Int32} {V : Nat}
    (hK : ∀ u, u 0 = nI V → (∀ j, 1 ≤ j → u j = ub j) → mc_E RX4 cX4_goOn 2 (mc_JM none false 7 0 0 Post) 46 [some (.ref 6), none] [] (WW s a q u c h m b n d z) 0 0) :
    ∀ (f p : Nat) (u : Nat → Int32), p + f = N → u 0 = nI p → (∀ j, 1 ≤ j → u j = ub j) → yws (xT a) N f p = V →
      mc_E RX4 cX4_goOn 2 (mc_JM none false 7 0 0 Post) 8 [some (.ref 6), none] [] (WW s a q u c h m b n d z) 0 0 := by
  intro f
  induction f with
  | zero =>
    intro p u hp h0 hu hV
    have e : p = N := by omega
    subst e
    simp only [yws] at hV
    subst hV
    refine e_aloadn (pc := 8) dX4_goOn_8 rfl ?_
    refine e_get (pc := 9) dX4_goOn_9 fX4_44 rfl rfl ?_
    refine e_aloadn (pc := 12) dX4_goOn_12 rfl ?_
    refine e_get (pc := 13) dX4_goOn_13 fX4_18 rfl rfl ?_
    refine e_icmp_ge (pc := 16) dX4_goOn_16 (t := 46) (by decide) (fun _ => ?_) (fun c_16 => absurd (by rw [hN, h0]; exact Int32.le_refl _) c_16)
    exact hK u h0 hu
  | succ f ih =>
    intro p u hp h0 hu hV
    simp only [yws] at hV
    have hpN : p < N := by omega
    have eb : xby (xT a) N p = xT a p := if_pos hpN
    have bl : xbl (xT a p) = true ↔ (xT a p = 32 ∨ xT a p = 10) := by unfold xbl; rw [Bool.or_eq_true, beq_iff_eq, beq_iff_eq]
    refine e_aloadn (pc := 8) dX4_goOn_8 rfl ?_
    refine e_get (pc := 9) dX4_goOn_9 fX4_44 rfl rfl ?_
    refine e_aloadn (pc := 12) dX4_goOn_12 rfl ?_
    refine e_get (pc := 13) dX4_goOn_13 fX4_18 rfl rfl ?_
    refine e_icmp_ge (pc := 16) dX4_goOn_16 (t := 46) (by decide) (fun c_16 => absurd c_16 (by rw [hN, h0]; exact nI_ge hpN (by omega))) (fun _ => ?_)
    refine e_aloadn (pc := 19) dX4_goOn_19 rfl ?_
    refine e_aloadn (pc := 20) dX4_goOn_20 rfl ?_
    refine e_get (pc := 21) dX4_goOn_21 fX4_44 rfl rfl ?_
    refine e_cvD (pc := 24) (sp_x_byteAt (p := p) hL hN hN1 h0 (by omega)) dX4_goOn_24 kX4_92 rfl rfl rfl rfl rfl (mc_CR_of (Nat.le_of_ble_eq_true rfl) (Nat.le_of_ble_eq_true rfl) (Nat.le_refl _) (Nat.le_refl _)) (Nat.le_of_ble_eq_true rfl) ?_
    rw [eb]
    refine e_csD (pc := 27) (sp_x_isBlank) dX4_goOn_27 kX4_96 rfl rfl (mc_CR_of (Nat.le_of_ble_eq_true rfl) (Nat.le_of_ble_eq_true rfl) (Nat.le_refl _) (Nat.le_refl _)) (Nat.le_of_ble_eq_true rfl) ?_
    refine e_if_eq (pc := 30) dX4_goOn_30 (t := 46) (by decide) (fun c_30 => ?_) (fun c_30 => ?_)
    · skip
      rw [if_neg (fun q => absurd (bl.mpr q.2) (by rw [mc_b0.mp c_30]; decide))] at hV
      subst hV
      exact hK u h0 hu
    · skip
      refine e_aloadn (pc := 33) dX4_goOn_33 rfl ?_
      refine e_dup (pc := 34) dX4_goOn_34 rfl ?_
      refine e_get (pc := 35) dX4_goOn_35 fX4_44 rfl rfl ?_
      refine e_iconst (v := 1) (pc := 38) dX4_goOn_38 (by decide) ?_
      refine e_iadd (pc := 39) dX4_goOn_39 ?_
      refine put_tape_at (pc := 40) dX4_goOn_40 pX4_44 ?_
      refine e_goto (pc := 43) dX4_goOn_43 (t := 8) (by decide) ?_
      exact ih (p + 1) _ (by omega) (by rw [up_at, h0, nI_1]) (fun j hj => by rw [upn (by omega)]; exact hu j hj) (by rw [← hV, if_pos ⟨hpN, bl.mp (mc_b1.mp c_30)⟩])
theorem sp_x_goOn {s u m n : Nat → Int32} {a c b d : Nat → List Int32} {q : List (Option Nat)} {h : Nat} {z : mc_W} (hL : xL a) {N : Nat} (hN : s 5 = nI N) (hN1 : N ≤ 160) {A : Nat} (hA : u 1 = nI A) (hAN : A ≤ N) : mc_T yX4_goOn cX4_goOn 2 none 7 [.ref 6] (WW s a q u c h m b n d z) none (fun w1 => ∃ u1, xNx (ynx (xT a) N A) u u1 ∧ w1 = (WW s a q u1 c h m b n d z)) := by
  refine mc_start (own := RX4) (ini := false) rfl (by decide +kernel) (fun h => by cases h) (Nat.le_of_ble_eq_true rfl) ?_
  show mc_E _ _ _ _ _ [some (.ref 6), none] [] _ _ _
  refine e_aloadn (pc := 0) dX4_goOn_0 rfl ?_
  refine e_aloadn (pc := 1) dX4_goOn_1 rfl ?_
  refine e_get (pc := 2) dX4_goOn_2 fX4_22 rfl rfl ?_
  refine put_tape_at (pc := 5) dX4_goOn_5 pX4_44 ?_
  have hB2 := yws_le (xT a) N (N - A) A hAN
  refine lp_x_ws hL hN hN1 (ub := mc_up u 0 (u 1)) (V := yws (xT a) N (N - A) A) ?_ (N - A) A _ (by omega) (by rw [up_at]; exact hA) (fun _ _ => rfl) rfl
  obtain ⟨B, eB⟩ : ∃ B, yws (xT a) N (N - A) A = B := ⟨_, rfl⟩
  have ex := ynx_c eB
  rw [eB] at hB2 ⊢
  obtain ⟨hAB, hBN⟩ := hB2
  intro v hv0 hvu
  rw [ex]
  refine e_aloadn (pc := 46) dX4_goOn_46 rfl ?_
  refine e_aloadn (pc := 47) dX4_goOn_47 rfl ?_
  refine e_get (pc := 48) dX4_goOn_48 fX4_44 rfl rfl ?_
  refine put_tape_next (pc := 51) dX4_goOn_51 pX4_22 ?_
  obtain ⟨u2, e2⟩ : ∃ u2, u2 = mc_up v 1 (v 0) := ⟨_, rfl⟩
  rw [← e2]
  have g0 : u2 0 = nI B := by rw [e2, upn (by decide)]; exact hv0
  have g1 : u2 1 = nI B := by rw [e2, up_at]; exact hv0
  have gu : ∀ j, 3 ≤ j → u2 j = u j := fun j hj => by rw [e2, upn (by omega), hvu j (by omega), upn (by omega)]
  have cl : u2 0 < s 5 ↔ B < N := by rw [g0, hN]; exact (xi_s (by omega) hN1).2
  refine e_aloadn (pc := 54) dX4_goOn_54 rfl ?_
  refine e_aloadn (pc := 55) dX4_goOn_55 rfl ?_
  refine e_get (pc := 56) dX4_goOn_56 fX4_44 rfl rfl ?_
  refine e_cvD (pc := 59) (sp_x_byteAt (p := B) hL hN hN1 g0 (by omega)) dX4_goOn_59 kX4_92 rfl rfl rfl rfl rfl (mc_CR_of (Nat.le_of_ble_eq_true rfl) (Nat.le_of_ble_eq_true rfl) (Nat.le_refl _) (Nat.le_refl _)) (Nat.le_of_ble_eq_true rfl) ?_
  refine e_isn1 (pc := 62) dX4_goOn_62 (Nat.le_of_ble_eq_true rfl) rfl ?_
  refine e_aloadn (pc := 63) dX4_goOn_63 rfl ?_
  refine e_get (pc := 64) dX4_goOn_64 fX4_44 rfl rfl ?_
  refine e_aloadn (pc := 67) dX4_goOn_67 rfl ?_
  refine e_get (pc := 68) dX4_goOn_68 fX4_18 rfl rfl ?_
  refine e_icmp_lt (pc := 71) dX4_goOn_71 (t := 83) (by decide) (fun c_71 => ?_) (fun c_71 => ?_)
  · skip
    refine e_iloadn (pc := 83) dX4_goOn_83 rfl ?_
    refine e_csD (pc := 84) (sp_x_isLetter) dX4_goOn_84 kX4_99 rfl rfl (mc_CR_of (Nat.le_of_ble_eq_true rfl) (Nat.le_of_ble_eq_true rfl) (Nat.le_refl _) (Nat.le_refl _)) (Nat.le_of_ble_eq_true rfl) ?_
    refine e_if_eq (pc := 87) dX4_goOn_87 (t := 101) (by decide) (fun c_87 => ?_) (fun c_87 => ?_)
    · skip
      refine e_iloadn (pc := 101) dX4_goOn_101 rfl ?_
      refine e_csD (pc := 102) (sp_x_isDigit) dX4_goOn_102 kX4_106 rfl rfl (mc_CR_of (Nat.le_of_ble_eq_true rfl) (Nat.le_of_ble_eq_true rfl) (Nat.le_refl _) (Nat.le_refl _)) (Nat.le_of_ble_eq_true rfl) ?_
      refine e_if_eq (pc := 105) dX4_goOn_105 (t := 119) (by decide) (fun c_105 => ?_) (fun c_105 => ?_)
      · skip
        refine e_aloadn (pc := 119) dX4_goOn_119 rfl ?_
        refine e_dup (pc := 120) dX4_goOn_120 rfl ?_
        refine e_get (pc := 121) dX4_goOn_121 fX4_22 rfl rfl ?_
        refine e_iconst (v := 1) (pc := 124) dX4_goOn_124 (by decide) ?_
        refine e_iadd (pc := 125) dX4_goOn_125 ?_
        refine put_tape_next (pc := 126) dX4_goOn_126 pX4_22 ?_
        refine e_aloadn (pc := 129) dX4_goOn_129 rfl ?_
        refine e_iloadn (pc := 130) dX4_goOn_130 rfl ?_
        refine e_csD (pc := 131) (sp_x_signToken) dX4_goOn_131 kX4_112 rfl rfl (mc_CR_of (Nat.le_of_ble_eq_true rfl) (Nat.le_of_ble_eq_true rfl) (Nat.le_refl _) (Nat.le_refl _)) (Nat.le_of_ble_eq_true rfl) ?_
        refine put_tape_token (pc := 134) dX4_goOn_134 pX4_41 ?_
        exact e_vret (pc := 137) dX4_goOn_137 rfl (Nat.le_refl _) (Nat.le_refl _) ⟨rfl, _, by rw [if_neg (show ¬ B = N by have := cl.mp c_71; omega), if_neg (show ¬ mc_wi (xT a B) 97 122 = true by rw [← show xby (xT a) N B = xT a B from if_pos (cl.mp c_71), mc_b0.mp c_87]; decide), if_neg (show ¬ mc_wi (xT a B) 48 57 = true by rw [← show xby (xT a) N B = xT a B from if_pos (cl.mp c_71), mc_b0.mp c_105]; decide)]; exact ⟨by rw [upn (by decide), upn (by decide), g0], by rw [upn (by decide), up_at, g1, nI_1], by rw [up_at, show xby (xT a) N B = xT a B from if_pos (cl.mp c_71)], fun j hj => by rw [upn (by omega), upn (by omega)]; exact gu j hj⟩, rfl⟩
      · skip
        refine e_aloadn (pc := 108) dX4_goOn_108 rfl ?_
        refine e_aloadn (pc := 109) dX4_goOn_109 rfl ?_
        refine e_cvX (pc := 110) (sp_x_numberToken hL hN hN1 g0 g1 hBN) dX4_goOn_110 kX4_109 rfl rfl rfl rfl rfl (mc_CR_of (Nat.le_of_ble_eq_true rfl) (Nat.le_of_ble_eq_true rfl) (Nat.le_refl _) (Nat.le_refl _)) (Nat.le_of_ble_eq_true rfl) (fun w1 hw1 => ?_)
        obtain ⟨u3, h31, hu3, rfl⟩ := hw1
        refine put_tape_token (pc := 113) dX4_goOn_113 pX4_41 ?_
        refine e_goto (pc := 116) dX4_goOn_116 (t := 137) (by decide) ?_
        exact e_vret (pc := 137) dX4_goOn_137 rfl (Nat.le_refl _) (Nat.le_refl _) ⟨rfl, _, by rw [if_neg (show ¬ B = N by have := cl.mp c_71; omega), if_neg (show ¬ mc_wi (xT a B) 97 122 = true by rw [← show xby (xT a) N B = xT a B from if_pos (cl.mp c_71), mc_b0.mp c_87]; decide), if_pos (show mc_wi (xT a B) 48 57 = true by rw [← show xby (xT a) N B = xT a B from if_pos (cl.mp c_71)]; exact mc_b1.mp c_105)]; exact ⟨by rw [upn (by decide), hu3 0 (by decide), g0], by rw [upn (by decide), h31], by rw [up_at]; show _ = xtm (if 4 < (yda (xT a) N (N - B) B 0 0).2.1 then -1 else 1) _; split <;> rfl, fun j hj => by rw [upn (by omega), hu3 j (by omega)]; exact gu j hj⟩, rfl⟩
    · skip
      refine e_aloadn (pc := 90) dX4_goOn_90 rfl ?_
      refine e_aloadn (pc := 91) dX4_goOn_91 rfl ?_
      refine e_cvX (pc := 92) (sp_x_wordToken hL hN hN1 g0 g1 hBN) dX4_goOn_92 kX4_102 rfl rfl rfl rfl rfl (mc_CR_of (Nat.le_of_ble_eq_true rfl) (Nat.le_of_ble_eq_true rfl) (Nat.le_refl _) (Nat.le_refl _)) (Nat.le_of_ble_eq_true rfl) (fun w1 hw1 => ?_)
      obtain ⟨u3, h31, hu3, rfl⟩ := hw1
      refine put_tape_token (pc := 95) dX4_goOn_95 pX4_41 ?_
      refine e_goto (pc := 98) dX4_goOn_98 (t := 137) (by decide) ?_
      exact e_vret (pc := 137) dX4_goOn_137 rfl (Nat.le_refl _) (Nat.le_refl _) ⟨rfl, _, by rw [if_neg (show ¬ B = N by have := cl.mp c_71; omega), if_pos (show mc_wi (xT a B) 97 122 = true by rw [← show xby (xT a) N B = xT a B from if_pos (cl.mp c_71)]; exact mc_b1.mp c_87)]; exact ⟨by rw [upn (by decide), hu3 0 (by decide), g0], by rw [upn (by decide), h31], by rw [up_at]; exact xwt_tm (ylt_let _ _ _ _) (ylt_le (xT a) N (N - B) B hBN).1, fun j hj => by rw [upn (by omega), hu3 j (by omega)]; exact gu j hj⟩, rfl⟩
  · skip
    refine e_aloadn (pc := 74) dX4_goOn_74 rfl ?_
    refine e_bipush (v := -26) (pc := 75) dX4_goOn_75 (by decide) ?_
    refine put_tape_token (pc := 77) dX4_goOn_77 pX4_41 ?_
    refine e_goto (pc := 80) dX4_goOn_80 (t := 137) (by decide) ?_
    exact e_vret (pc := 137) dX4_goOn_137 rfl (Nat.le_refl _) (Nat.le_refl _) ⟨rfl, _, by rw [if_pos (show B = N from Nat.le_antisymm hBN (Nat.not_lt.mp (fun q => c_71 (cl.mpr q))))]; exact ⟨by rw [upn (by decide), g0, show B = N from Nat.le_antisymm hBN (Nat.not_lt.mp (fun q => c_71 (cl.mpr q)))], by rw [upn (by decide), g1, show B = N from Nat.le_antisymm hBN (Nat.not_lt.mp (fun q => c_71 (cl.mpr q)))], by rw [up_at]; rfl, fun j hj => by rw [upn (by omega)]; exact gu j hj⟩, rfl⟩
