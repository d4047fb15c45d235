/-! ===== what stands next on the tape ===== -/
def xT (a : Nat → List Int32) (i : Nat) : Int32 := (a 2).getD i 0
def xby (T : Nat → Int32) (N p : Nat) : Int32 := if p < N then T p else -1
theorem xi_s {p N : Nat} (hp : p ≤ 200) (hN : N ≤ 160) : (nI N ≤ nI p ↔ ¬ p < N) ∧ (nI p < nI N ↔ p < N) := by
  rw [Int32.le_iff_toInt_le, Int32.lt_iff_toInt_lt, nI_toInt (by omega), nI_toInt (by omega)]
  omega
theorem sp_x_byteAt {s u m n : Nat → Int32} {a c b d : Nat → List Int32} {q : List (Option Nat)} {h : Nat} {z : mc_W} (hL : xL a) {N : Nat} (hN : s 5 = nI N) (hN1 : N ≤ 160) {x : Int32} {p : Nat} (hx : x = nI p) (hp : p ≤ 200) : mc_D yX4_byteAt cX4_byteAt 2 (some .int) 1 [.ref 6, .int x] (WW s a q u c h m b n d z) (some (.int (xby (xT a) N p))) (WW s a q u c h m b n d z) := by
  refine mc_start (own := RX4) (ini := false) rfl (by decide +kernel) (fun h => by cases h) (Nat.le_of_ble_eq_true rfl) ?_
  show mc_E _ _ _ _ _ [some (.ref 6), some (.int x)] [] _ _ _
  subst hx
  have h160 : (a 2).length = 160 := hL.2.2.1
  refine e_iloadn (pc := 0) dX4_byteAt_0 rfl ?_
  refine e_if_lt (pc := 1) dX4_byteAt_1 (t := 30) (by decide) (fun c_1 => absurd c_1 (nI_pos (by omega))) (fun _ => ?_)
  refine e_iloadn (pc := 4) dX4_byteAt_4 rfl ?_
  refine e_aloadn (pc := 5) dX4_byteAt_5 rfl ?_
  refine e_get (pc := 6) dX4_byteAt_6 fX4_18 rfl rfl ?_
  refine e_icmp_ge (pc := 9) dX4_byteAt_9 (t := 30) (by decide) (fun c_9 => ?_) (fun c_9 => ?_)
  · skip
    refine e_iconst (v := -1) (pc := 30) dX4_byteAt_30 (by decide) ?_
    exact e_iret (pc := 31) dX4_byteAt_31 rfl (Nat.le_refl _) (Nat.le_refl _) ⟨by unfold xby; rw [if_neg (show ¬ p < N from (xi_s hp hN1).1.mp (by rw [← hN]; exact c_9))], rfl⟩
  · skip
    refine e_iloadn (pc := 12) dX4_byteAt_12 rfl ?_
    refine e_aloadn (pc := 13) dX4_byteAt_13 rfl ?_
    refine e_get (pc := 14) dX4_byteAt_14 fX4_9 rfl rfl ?_
    refine e_alen (pc := 17) dX4_byteAt_17 rfl (show Int32.ofNat (a 2).length = nI 160 by rw [h160]; rfl) ?_
    refine e_icmp_ge (pc := 18) dX4_byteAt_18 (t := 30) (by decide) (fun c_18 => absurd c_18 (fun q => (xi_s (p := p) (N := 160) hp (by omega)).1.mp q (by have := (xi_s hp hN1).2.mp (by rw [← hN]; exact Int32.not_le.mp c_9); omega))) (fun _ => ?_)
    refine e_aloadn (pc := 21) dX4_byteAt_21 rfl ?_
    refine e_get (pc := 22) dX4_byteAt_22 fX4_9 rfl rfl ?_
    refine e_iloadn (pc := 25) dX4_byteAt_25 rfl ?_
    refine ald_bytes (pc := 26) dX4_byteAt_26 (by rw [h160]; exact vp_in_nI (by have := (xi_s hp hN1).2.mp (by rw [← hN]; exact Int32.not_le.mp c_9); omega) (by decide)) ?_
    refine e_goto (pc := 27) dX4_byteAt_27 (t := 31) (by decide) ?_
    exact e_iret (pc := 31) dX4_byteAt_31 rfl (Nat.le_refl _) (Nat.le_refl _) ⟨by unfold xby; rw [if_pos (show p < N from (xi_s hp hN1).2.mp (by rw [← hN]; exact Int32.not_le.mp c_9)), nIc (by omega)]; rfl, rfl⟩
def xbl (x : Int32) : Bool := x == 32 || x == 10
theorem sp_x_isBlank {w : mc_W} {x : Int32} : mc_D yX4_isBlank cX4_isBlank 1 (some .boolean) 1 [.int x] w (some (.int (mc_b (xbl x)))) w := by
  refine mc_start (own := RX4) (ini := false) rfl (by decide +kernel) (fun h => by cases h) (Nat.le_of_ble_eq_true rfl) ?_
  show mc_E _ _ _ _ _ [some (.int x)] [] _ _ _
  refine e_iloadn (pc := 0) dX4_isBlank_0 rfl ?_
  refine e_bipush (v := 32) (pc := 1) dX4_isBlank_1 (by decide) ?_
  refine e_icmp_eq (pc := 3) dX4_isBlank_3 (t := 12) (by decide) (fun c_3 => ?_) (fun c_3 => ?_)
  · skip
    refine e_iconst (v := 1) (pc := 12) dX4_isBlank_12 (by decide) ?_
    refine e_goto (pc := 13) dX4_isBlank_13 (t := 17) (by decide) ?_
    exact e_zret (pc := 17) dX4_isBlank_17 rfl (by rfl) (Nat.le_refl _) (Nat.le_refl _) ⟨by unfold xbl; simp_all [mc_b], rfl⟩
  · skip
    refine e_iloadn (pc := 6) dX4_isBlank_6 rfl ?_
    refine e_bipush (v := 10) (pc := 7) dX4_isBlank_7 (by decide) ?_
    refine e_icmp_ne (pc := 9) dX4_isBlank_9 (t := 16) (by decide) (fun c_9 => ?_) (fun c_9 => ?_)
    · skip
      refine e_iconst (v := 0) (pc := 16) dX4_isBlank_16 (by decide) ?_
      exact e_zret (pc := 17) dX4_isBlank_17 rfl (by rfl) (Nat.le_refl _) (Nat.le_refl _) ⟨by unfold xbl; simp_all [mc_b], rfl⟩
    · skip
      refine e_iconst (v := 1) (pc := 12) dX4_isBlank_12 (by decide) ?_
      refine e_goto (pc := 13) dX4_isBlank_13 (t := 17) (by decide) ?_
      exact e_zret (pc := 17) dX4_isBlank_17 rfl (by rfl) (Nat.le_refl _) (Nat.le_refl _) ⟨by unfold xbl; simp_all [mc_b], rfl⟩
theorem sp_x_isLetter {w : mc_W} {x : Int32} : mc_D yX4_isLetter cX4_isLetter 1 (some .boolean) 1 [.int x] w (some (.int (mc_b (mc_wi x 97 122)))) w := by
  refine mc_start (own := RX4) (ini := false) rfl (by decide +kernel) (fun h => by cases h) (Nat.le_of_ble_eq_true rfl) ?_
  show mc_E _ _ _ _ _ [some (.int x)] [] _ _ _
  refine e_iloadn (pc := 0) dX4_isLetter_0 rfl ?_
  refine e_bipush (v := 97) (pc := 1) dX4_isLetter_1 (by decide) ?_
  refine e_icmp_lt (pc := 3) dX4_isLetter_3 (t := 16) (by decide) (fun c_3 => ?_) (fun c_3 => ?_)
  · skip
    refine e_iconst (v := 0) (pc := 16) dX4_isLetter_16 (by decide) ?_
    exact e_zret (pc := 17) dX4_isLetter_17 rfl (by rfl) (Nat.le_refl _) (Nat.le_refl _) ⟨by first | rw [mc_wi_lt (by assumption)]; rfl | rw [mc_wi_gt (by assumption)]; rfl | rw [mc_wi_in (by assumption) (by assumption)]; rfl, rfl⟩
  · skip
    refine e_iloadn (pc := 6) dX4_isLetter_6 rfl ?_
    refine e_bipush (v := 122) (pc := 7) dX4_isLetter_7 (by decide) ?_
    refine e_icmp_gt (pc := 9) dX4_isLetter_9 (t := 16) (by decide) (fun c_9 => ?_) (fun c_9 => ?_)
    · skip
      refine e_iconst (v := 0) (pc := 16) dX4_isLetter_16 (by decide) ?_
      exact e_zret (pc := 17) dX4_isLetter_17 rfl (by rfl) (Nat.le_refl _) (Nat.le_refl _) ⟨by first | rw [mc_wi_lt (by assumption)]; rfl | rw [mc_wi_gt (by assumption)]; rfl | rw [mc_wi_in (by assumption) (by assumption)]; rfl, rfl⟩
    · skip
      refine e_iconst (v := 1) (pc := 12) dX4_isLetter_12 (by decide) ?_
      refine e_goto (pc := 13) dX4_isLetter_13 (t := 17) (by decide) ?_
      exact e_zret (pc := 17) dX4_isLetter_17 rfl (by rfl) (Nat.le_refl _) (Nat.le_refl _) ⟨by first | rw [mc_wi_lt (by assumption)]; rfl | rw [mc_wi_gt (by assumption)]; rfl | rw [mc_wi_in (by assumption) (by assumption)]; rfl, rfl⟩
theorem sp_x_isDigit {w : mc_W} {x : Int32} : mc_D yX4_isDigit cX4_isDigit 1 (some .boolean) 1 [.int x] w (some (.int (mc_b (mc_wi x 48 57)))) w := by
  refine mc_start (own := RX4) (ini := false) rfl (by decide +kernel) (fun h => by cases h) (Nat.le_of_ble_eq_true rfl) ?_
  show mc_E _ _ _ _ _ [some (.int x)] [] _ _ _
  refine e_iloadn (pc := 0) dX4_isDigit_0 rfl ?_
  refine e_bipush (v := 48) (pc := 1) dX4_isDigit_1 (by decide) ?_
  refine e_icmp_lt (pc := 3) dX4_isDigit_3 (t := 16) (by decide) (fun c_3 => ?_) (fun c_3 => ?_)
  · skip
    refine e_iconst (v := 0) (pc := 16) dX4_isDigit_16 (by decide) ?_
    exact e_zret (pc := 17) dX4_isDigit_17 rfl (by rfl) (Nat.le_refl _) (Nat.le_refl _) ⟨by first | rw [mc_wi_lt (by assumption)]; rfl | rw [mc_wi_gt (by assumption)]; rfl | rw [mc_wi_in (by assumption) (by assumption)]; rfl, rfl⟩
  · skip
    refine e_iloadn (pc := 6) dX4_isDigit_6 rfl ?_
    refine e_bipush (v := 57) (pc := 7) dX4_isDigit_7 (by decide) ?_
    refine e_icmp_gt (pc := 9) dX4_isDigit_9 (t := 16) (by decide) (fun c_9 => ?_) (fun c_9 => ?_)
    · skip
      refine e_iconst (v := 0) (pc := 16) dX4_isDigit_16 (by decide) ?_
      exact e_zret (pc := 17) dX4_isDigit_17 rfl (by rfl) (Nat.le_refl _) (Nat.le_refl _) ⟨by first | rw [mc_wi_lt (by assumption)]; rfl | rw [mc_wi_gt (by assumption)]; rfl | rw [mc_wi_in (by assumption) (by assumption)]; rfl, rfl⟩
    · skip
      refine e_iconst (v := 1) (pc := 12) dX4_isDigit_12 (by decide) ?_
      refine e_goto (pc := 13) dX4_isDigit_13 (t := 17) (by decide) ?_
      exact e_zret (pc := 17) dX4_isDigit_17 rfl (by rfl) (Nat.le_refl _) (Nat.le_refl _) ⟨by first | rw [mc_wi_lt (by assumption)]; rfl | rw [mc_wi_gt (by assumption)]; rfl | rw [mc_wi_in (by assumption) (by assumption)]; rfl, rfl⟩
def xwa (T : Nat → Int32) (B j : Nat) : Nat → Nat → Bool
  | 0, _ => true
  | f + 1, i => if T (B + i) = wb j i then xwa T B j f (i + 1) else false
def xwd (T : Nat → Int32) (B E j : Nat) : Bool := decide (E = B + wl j) && xwa T B j (wl j) 0
theorem lp_x_isWord {s u m n : Nat → Int32} {a c b d : Nat → List Int32} {q : List (Option Nat)} {h : Nat} {z : mc_W} (hL : xL a) {N : Nat} (hN : s 5 = nI N) (hN1 : N ≤ 160) {B E j : Nat} (hB : u 0 = nI B) (hE : B + wl j = E) (hEN : E ≤ N) (hj : j < 12) {V : Bool} :
    ∀ (f i : Nat), i + f = wl j → xwa (xT a) B j f i = V →
      mc_E RX4 cX4_isWord 3 (mc_JM (some .boolean) false 5 0 0 (fun r' w' => r' = some (.int (mc_b V)) ∧ w' = (WW s a q u c h m b n d z))) 20 [some (.ref 6), some (.ref (1000000 + (1 + j))), some (.int (nI i))] [] (WW s a q u c h m b n d z) 0 0 := by
  have hw : wl j ≤ 6 := wl_le
  intro f
  induction f with
  | zero =>
    intro i hi hV
    have e : i = wl j := by omega
    subst e
    simp only [xwa] at hV
    subst hV
    refine e_iloadn (pc := 20) dX4_isWord_20 rfl ?_
    refine e_aloadn (pc := 21) dX4_isWord_21 rfl ?_
    refine e_ctD (pc := 22) (sp_s_length hj) dX4_isWord_22 kX4_143 hj rfl rfl (mc_CR_of (Nat.le_of_ble_eq_true rfl) (Nat.le_of_ble_eq_true rfl) (Nat.le_refl _) (Nat.le_refl _)) rfl (Nat.le_of_ble_eq_true rfl) ?_
    refine e_icmp_ge (pc := 25) dX4_isWord_25 (t := 54) (by decide) (fun _ => ?_) (fun c_25 => absurd (Int32.le_refl _) c_25)
    refine e_iconst (v := 1) (pc := 54) dX4_isWord_54 (by decide) ?_
    exact e_zret (pc := 55) dX4_isWord_55 rfl (by rfl) (Nat.le_refl _) (Nat.le_refl _) ⟨rfl, rfl⟩
  | succ f ih =>
    intro i hi hV
    simp only [xwa] at hV
    have hi2 : i < wl j := by omega
    refine e_iloadn (pc := 20) dX4_isWord_20 rfl ?_
    refine e_aloadn (pc := 21) dX4_isWord_21 rfl ?_
    refine e_ctD (pc := 22) (sp_s_length hj) dX4_isWord_22 kX4_143 hj rfl rfl (mc_CR_of (Nat.le_of_ble_eq_true rfl) (Nat.le_of_ble_eq_true rfl) (Nat.le_refl _) (Nat.le_refl _)) rfl (Nat.le_of_ble_eq_true rfl) ?_
    refine e_icmp_ge (pc := 25) dX4_isWord_25 (t := 54) (by decide) (fun c_25 => absurd c_25 (nI_ge hi2 (by omega))) (fun _ => ?_)
    refine e_aloadn (pc := 28) dX4_isWord_28 rfl ?_
    refine e_aloadn (pc := 29) dX4_isWord_29 rfl ?_
    refine e_get (pc := 30) dX4_isWord_30 fX4_44 rfl rfl ?_
    refine e_iloadn (pc := 33) dX4_isWord_33 rfl ?_
    refine e_iadd (pc := 34) dX4_isWord_34 ?_
    refine e_cvD (pc := 35) (sp_x_byteAt (p := B + i) hL hN hN1 (by rw [hB, nI_add]) (by omega)) dX4_isWord_35 kX4_92 rfl rfl rfl rfl rfl (mc_CR_of (Nat.le_of_ble_eq_true rfl) (Nat.le_of_ble_eq_true rfl) (Nat.le_refl _) (Nat.le_refl _)) (Nat.le_of_ble_eq_true rfl) ?_
    rw [show xby (xT a) N (B + i) = xT a (B + i) from if_pos (by omega)]
    refine e_aloadn (pc := 38) dX4_isWord_38 rfl ?_
    refine e_iloadn (pc := 39) dX4_isWord_39 rfl ?_
    refine e_ctD (pc := 40) (sp_s_charAt hj hi2) dX4_isWord_40 kX4_148 hj rfl rfl (mc_CR_of (Nat.le_of_ble_eq_true rfl) (Nat.le_of_ble_eq_true rfl) (Nat.le_refl _) (Nat.le_refl _)) rfl (Nat.le_of_ble_eq_true rfl) ?_
    refine e_icmp_eq (pc := 43) dX4_isWord_43 (t := 48) (by decide) (fun c_43 => ?_) (fun c_43 => ?_)
    · skip
      refine e_incC2 (pc := 48) dX4_isWord_48 (nI_1 i) (Nat.le_of_ble_eq_true rfl) rfl ?_
      refine e_goto (pc := 51) dX4_isWord_51 (t := 20) (by decide) ?_
      exact ih (i + 1) (by omega) (by rw [← hV, if_pos c_43])
    · skip
      refine e_iconst (v := 0) (pc := 46) dX4_isWord_46 (by decide) ?_
      exact e_zret (pc := 47) dX4_isWord_47 rfl (by rfl) (Nat.le_refl _) (Nat.le_refl _) ⟨by rw [← hV, if_neg c_43]; rfl, rfl⟩
theorem sp_x_isWord {s u m n : Nat → Int32} {a c b d : Nat → List Int32} {q : List (Option Nat)} {h : Nat} {z : mc_W} (hL : xL a) {N : Nat} (hN : s 5 = nI N) (hN1 : N ≤ 160) {B E : Nat} (hB : u 0 = nI B) (hE : u 1 = nI E) (hBE : B ≤ E) (hEN : E ≤ N) {j : Nat} (hj : j < 12) : mc_D yX4_isWord cX4_isWord 3 (some .boolean) 5 [.ref 6, .ref (1000000 + (1 + j))] (WW s a q u c h m b n d z) (some (.int (mc_b (xwd (xT a) B E j)))) (WW s a q u c h m b n d z) := by
  refine mc_start (own := RX4) (ini := false) rfl (by decide +kernel) (fun h => by cases h) (Nat.le_of_ble_eq_true rfl) ?_
  show mc_E _ _ _ _ _ [some (.ref 6), some (.ref (1000000 + (1 + j))), none] [] _ _ _
  have hw : wl j ≤ 6 := wl_le
  have eS : u 1 - u 0 = nI (E - B) := by rw [hB, hE]; exact pk_sub hBE
  have eQ : nI (E - B) = nI (wl j) ↔ E - B = wl j := nI_eq (by omega) (by omega)
  refine e_aloadn (pc := 0) dX4_isWord_0 rfl ?_
  refine e_get (pc := 1) dX4_isWord_1 fX4_22 rfl rfl ?_
  refine e_aloadn (pc := 4) dX4_isWord_4 rfl ?_
  refine e_get (pc := 5) dX4_isWord_5 fX4_44 rfl rfl ?_
  refine e_isub (pc := 8) dX4_isWord_8 ?_
  refine e_top (y := nI (E - B)) eS ?_
  refine e_aloadn (pc := 9) dX4_isWord_9 rfl ?_
  refine e_ctD (pc := 10) (sp_s_length hj) dX4_isWord_10 kX4_143 hj rfl rfl (mc_CR_of (Nat.le_of_ble_eq_true rfl) (Nat.le_of_ble_eq_true rfl) (Nat.le_refl _) (Nat.le_refl _)) rfl (Nat.le_of_ble_eq_true rfl) ?_
  refine e_icmp_eq (pc := 13) dX4_isWord_13 (t := 18) (by decide) (fun c_13 => ?_) (fun c_13 => ?_)
  · skip
    refine e_iconst (v := 0) (pc := 18) dX4_isWord_18 (by decide) ?_
    refine e_isn2 (pc := 19) dX4_isWord_19 (Nat.le_of_ble_eq_true rfl) rfl ?_
    have e1 : B + wl j = E := by have := eQ.mp c_13; omega
    rw [show xwd (xT a) B E j = xwa (xT a) B j (wl j) 0 by unfold xwd; rw [decide_eq_true e1.symm, Bool.true_and]]
    exact lp_x_isWord hL hN hN1 hB e1 hEN hj (wl j) 0 (by omega) rfl
  · skip
    refine e_iconst (v := 0) (pc := 16) dX4_isWord_16 (by decide) ?_
    exact e_zret (pc := 17) dX4_isWord_17 rfl (by rfl) (Nat.le_refl _) (Nat.le_refl _) ⟨by unfold xwd; rw [decide_eq_false (show ¬ E = B + wl j from fun q => c_13 (eQ.mpr (by omega)))]; rfl, rfl⟩
def xwv : List Int32 := [-1, -2, -3, -4, -5, -6, -23, -24, -25, -11, -12, -13]
/-- what the word from B to E stands for -/
def xwt (T : Nat → Int32) (B E : Nat) : Nat → Nat → Int32
  | 0, _ => -27
  | f + 1, j => if xwd T B E j = true then xwv.getD j (-27) else xwt T B E f (j + 1)
theorem lp_x_lt {s m n : Nat → Int32} {a c b d : Nat → List Int32} {q : List (Option Nat)} {h : Nat} {z : mc_W} {Post : Option Value → mc_W → Prop} (hL : xL a) {N : Nat} (hN : s 5 = nI N) (hN1 : N ≤ 160) {ub : Nat → Int32} {V : Nat}
    (hK : ∀ u, u 1 = nI V → (∀ j, j ≠ 1 → u j = ub j) → mc_E RX4 cX4_wordToken 1 (mc_JM (some .int) false 6 0 0 Post) 38 [some (.ref 6)] [] (WW s a q u c h m b n d z) 0 0) :
    ∀ (f p : Nat) (u : Nat → Int32), p + f = N → u 1 = nI p → (∀ j, j ≠ 1 → u j = ub j) → ylt (xT a) N f p = V →
      mc_E RX4 cX4_wordToken 1 (mc_JM (some .int) false 6 0 0 Post) 0 [some (.ref 6)] [] (WW s a q u c h m b n d z) 0 0 := by
  intro f
  induction f with
  | zero =>
    intro p u hp h1 hu hV
    have e : p = N := by omega
    subst e
    simp only [ylt] at hV
    subst hV
    refine e_aloadn (pc := 0) dX4_wordToken_0 rfl ?_
    refine e_get (pc := 1) dX4_wordToken_1 fX4_22 rfl rfl ?_
    refine e_aloadn (pc := 4) dX4_wordToken_4 rfl ?_
    refine e_get (pc := 5) dX4_wordToken_5 fX4_18 rfl rfl ?_
    refine e_icmp_ge (pc := 8) dX4_wordToken_8 (t := 38) (by decide) (fun _ => ?_) (fun c_8 => absurd (by rw [hN, h1]; exact Int32.le_refl _) c_8)
    exact hK u h1 hu
  | succ f ih =>
    intro p u hp h1 hu hV
    simp only [ylt] at hV
    have hpN : p < N := by omega
    have eb : xby (xT a) N p = xT a p := if_pos hpN
    refine e_aloadn (pc := 0) dX4_wordToken_0 rfl ?_
    refine e_get (pc := 1) dX4_wordToken_1 fX4_22 rfl rfl ?_
    refine e_aloadn (pc := 4) dX4_wordToken_4 rfl ?_
    refine e_get (pc := 5) dX4_wordToken_5 fX4_18 rfl rfl ?_
    refine e_icmp_ge (pc := 8) dX4_wordToken_8 (t := 38) (by decide) (fun c_8 => absurd c_8 (by rw [hN, h1]; exact nI_ge hpN (by omega))) (fun _ => ?_)
    refine e_aloadn (pc := 11) dX4_wordToken_11 rfl ?_
    refine e_aloadn (pc := 12) dX4_wordToken_12 rfl ?_
    refine e_get (pc := 13) dX4_wordToken_13 fX4_22 rfl rfl ?_
    refine e_cvD (pc := 16) (sp_x_byteAt (p := p) hL hN hN1 h1 (by omega)) dX4_wordToken_16 kX4_92 rfl rfl rfl rfl rfl (mc_CR_of (Nat.le_of_ble_eq_true rfl) (Nat.le_of_ble_eq_true rfl) (Nat.le_refl _) (Nat.le_refl _)) (Nat.le_of_ble_eq_true rfl) ?_
    rw [eb]
    refine e_csD (pc := 19) (sp_x_isLetter) dX4_wordToken_19 kX4_99 rfl rfl (mc_CR_of (Nat.le_of_ble_eq_true rfl) (Nat.le_of_ble_eq_true rfl) (Nat.le_refl _) (Nat.le_refl _)) (Nat.le_of_ble_eq_true rfl) ?_
    refine e_if_eq (pc := 22) dX4_wordToken_22 (t := 38) (by decide) (fun c_22 => ?_) (fun c_22 => ?_)
    · skip
      rw [if_neg (fun q => by rw [mc_b0.mp c_22] at q; exact absurd q.2 (by decide))] at hV
      subst hV
      exact hK u h1 hu
    · skip
      refine e_aloadn (pc := 25) dX4_wordToken_25 rfl ?_
      refine e_dup (pc := 26) dX4_wordToken_26 rfl ?_
      refine e_get (pc := 27) dX4_wordToken_27 fX4_22 rfl rfl ?_
      refine e_iconst (v := 1) (pc := 30) dX4_wordToken_30 (by decide) ?_
      refine e_iadd (pc := 31) dX4_wordToken_31 ?_
      refine put_tape_next (pc := 32) dX4_wordToken_32 pX4_22 ?_
      refine e_goto (pc := 35) dX4_wordToken_35 (t := 0) (by decide) ?_
      exact ih (p + 1) _ (by omega) (by rw [up_at, h1, nI_1]) (fun j hj => by rw [upn hj]; exact hu j hj) (by rw [← hV, if_pos ⟨hpN, mc_b1.mp c_22⟩])
theorem sp_x_wordToken {s u m n : Nat → Int32} {a c b d : Nat → List Int32} {q : List (Option Nat)} {h : Nat} {z : mc_W} (hL : xL a) {N : Nat} (hN : s 5 = nI N) (hN1 : N ≤ 160) {B : Nat} (hB : u 0 = nI B) (hB1 : u 1 = nI B) (hBN : B ≤ N) : mc_T yX4_wordToken cX4_wordToken 1 (some .int) 6 [.ref 6] (WW s a q u c h m b n d z) (some (.int (xwt (xT a) B (ylt (xT a) N (N - B) B) 12 0))) (fun w1 => ∃ u1 : Nat → Int32, u1 1 = nI (ylt (xT a) N (N - B) B) ∧ (∀ j, j ≠ 1 → u1 j = u j) ∧ w1 = (WW s a q u1 c h m b n d z)) := by
  refine mc_start (own := RX4) (ini := false) rfl (by decide +kernel) (fun h => by cases h) (Nat.le_of_ble_eq_true rfl) ?_
  show mc_E _ _ _ _ _ [some (.ref 6)] [] _ _ _
  have hE2 := ylt_le (xT a) N (N - B) B hBN
  refine lp_x_lt hL hN hN1 (ub := u) (V := ylt (xT a) N (N - B) B) ?_ (N - B) B u (by omega) hB1 (fun _ _ => rfl) rfl
  generalize ylt (xT a) N (N - B) B = E at hE2 ⊢
  obtain ⟨hBE, hEN⟩ := hE2
  intro u1 h1 hu1
  have h0 : u1 0 = nI B := (hu1 0 (by decide)).trans hB
  refine e_aloadn (pc := 38) dX4_wordToken_38 rfl ?_
  refine e_ldcS (j := 0) (pc := 39) dX4_wordToken_39 rfl (by decide) rfl ?_
  refine e_cvD (pc := 41) (sp_x_isWord (B := B) (E := E) (j := 0) hL hN hN1 h0 h1 hBE hEN (by decide)) dX4_wordToken_41 kX4_117 rfl rfl rfl rfl rfl (mc_CR_of (Nat.le_of_ble_eq_true rfl) (Nat.le_of_ble_eq_true rfl) (Nat.le_refl _) (Nat.le_refl _)) (Nat.le_of_ble_eq_true rfl) ?_
  refine e_if_eq (pc := 44) dX4_wordToken_44 (t := 49) (by decide) (fun c_44 => ?_) (fun c_44 => ?_)
  · skip
    refine e_aloadn (pc := 49) dX4_wordToken_49 rfl ?_
    refine e_ldcS (j := 1) (pc := 50) dX4_wordToken_50 rfl (by decide) rfl ?_
    refine e_cvD (pc := 52) (sp_x_isWord (B := B) (E := E) (j := 1) hL hN hN1 h0 h1 hBE hEN (by decide)) dX4_wordToken_52 kX4_117 rfl rfl rfl rfl rfl (mc_CR_of (Nat.le_of_ble_eq_true rfl) (Nat.le_of_ble_eq_true rfl) (Nat.le_refl _) (Nat.le_refl _)) (Nat.le_of_ble_eq_true rfl) ?_
    refine e_if_eq (pc := 55) dX4_wordToken_55 (t := 61) (by decide) (fun c_55 => ?_) (fun c_55 => ?_)
    · skip
      refine e_aloadn (pc := 61) dX4_wordToken_61 rfl ?_
      refine e_ldcS (j := 2) (pc := 62) dX4_wordToken_62 rfl (by decide) rfl ?_
      refine e_cvD (pc := 64) (sp_x_isWord (B := B) (E := E) (j := 2) hL hN hN1 h0 h1 hBE hEN (by decide)) dX4_wordToken_64 kX4_117 rfl rfl rfl rfl rfl (mc_CR_of (Nat.le_of_ble_eq_true rfl) (Nat.le_of_ble_eq_true rfl) (Nat.le_refl _) (Nat.le_refl _)) (Nat.le_of_ble_eq_true rfl) ?_
      refine e_if_eq (pc := 67) dX4_wordToken_67 (t := 73) (by decide) (fun c_67 => ?_) (fun c_67 => ?_)
      · skip
        refine e_aloadn (pc := 73) dX4_wordToken_73 rfl ?_
        refine e_ldcS (j := 3) (pc := 74) dX4_wordToken_74 rfl (by decide) rfl ?_
        refine e_cvD (pc := 76) (sp_x_isWord (B := B) (E := E) (j := 3) hL hN hN1 h0 h1 hBE hEN (by decide)) dX4_wordToken_76 kX4_117 rfl rfl rfl rfl rfl (mc_CR_of (Nat.le_of_ble_eq_true rfl) (Nat.le_of_ble_eq_true rfl) (Nat.le_refl _) (Nat.le_refl _)) (Nat.le_of_ble_eq_true rfl) ?_
        refine e_if_eq (pc := 79) dX4_wordToken_79 (t := 85) (by decide) (fun c_79 => ?_) (fun c_79 => ?_)
        · skip
          refine e_aloadn (pc := 85) dX4_wordToken_85 rfl ?_
          refine e_ldcS (j := 4) (pc := 86) dX4_wordToken_86 rfl (by decide) rfl ?_
          refine e_cvD (pc := 88) (sp_x_isWord (B := B) (E := E) (j := 4) hL hN hN1 h0 h1 hBE hEN (by decide)) dX4_wordToken_88 kX4_117 rfl rfl rfl rfl rfl (mc_CR_of (Nat.le_of_ble_eq_true rfl) (Nat.le_of_ble_eq_true rfl) (Nat.le_refl _) (Nat.le_refl _)) (Nat.le_of_ble_eq_true rfl) ?_
          refine e_if_eq (pc := 91) dX4_wordToken_91 (t := 97) (by decide) (fun c_91 => ?_) (fun c_91 => ?_)
          · skip
            refine e_aloadn (pc := 97) dX4_wordToken_97 rfl ?_
            refine e_ldcS (j := 5) (pc := 98) dX4_wordToken_98 rfl (by decide) rfl ?_
            refine e_cvD (pc := 100) (sp_x_isWord (B := B) (E := E) (j := 5) hL hN hN1 h0 h1 hBE hEN (by decide)) dX4_wordToken_100 kX4_117 rfl rfl rfl rfl rfl (mc_CR_of (Nat.le_of_ble_eq_true rfl) (Nat.le_of_ble_eq_true rfl) (Nat.le_refl _) (Nat.le_refl _)) (Nat.le_of_ble_eq_true rfl) ?_
            refine e_if_eq (pc := 103) dX4_wordToken_103 (t := 109) (by decide) (fun c_103 => ?_) (fun c_103 => ?_)
            · skip
              refine e_aloadn (pc := 109) dX4_wordToken_109 rfl ?_
              refine e_ldcS (j := 6) (pc := 110) dX4_wordToken_110 rfl (by decide) rfl ?_
              refine e_cvD (pc := 112) (sp_x_isWord (B := B) (E := E) (j := 6) hL hN hN1 h0 h1 hBE hEN (by decide)) dX4_wordToken_112 kX4_117 rfl rfl rfl rfl rfl (mc_CR_of (Nat.le_of_ble_eq_true rfl) (Nat.le_of_ble_eq_true rfl) (Nat.le_refl _) (Nat.le_refl _)) (Nat.le_of_ble_eq_true rfl) ?_
              refine e_if_eq (pc := 115) dX4_wordToken_115 (t := 121) (by decide) (fun c_115 => ?_) (fun c_115 => ?_)
              · skip
                refine e_aloadn (pc := 121) dX4_wordToken_121 rfl ?_
                refine e_ldcS (j := 7) (pc := 122) dX4_wordToken_122 rfl (by decide) rfl ?_
                refine e_cvD (pc := 124) (sp_x_isWord (B := B) (E := E) (j := 7) hL hN hN1 h0 h1 hBE hEN (by decide)) dX4_wordToken_124 kX4_117 rfl rfl rfl rfl rfl (mc_CR_of (Nat.le_of_ble_eq_true rfl) (Nat.le_of_ble_eq_true rfl) (Nat.le_refl _) (Nat.le_refl _)) (Nat.le_of_ble_eq_true rfl) ?_
                refine e_if_eq (pc := 127) dX4_wordToken_127 (t := 133) (by decide) (fun c_127 => ?_) (fun c_127 => ?_)
                · skip
                  refine e_aloadn (pc := 133) dX4_wordToken_133 rfl ?_
                  refine e_ldcS (j := 8) (pc := 134) dX4_wordToken_134 rfl (by decide) rfl ?_
                  refine e_cvD (pc := 136) (sp_x_isWord (B := B) (E := E) (j := 8) hL hN hN1 h0 h1 hBE hEN (by decide)) dX4_wordToken_136 kX4_117 rfl rfl rfl rfl rfl (mc_CR_of (Nat.le_of_ble_eq_true rfl) (Nat.le_of_ble_eq_true rfl) (Nat.le_refl _) (Nat.le_refl _)) (Nat.le_of_ble_eq_true rfl) ?_
                  refine e_if_eq (pc := 139) dX4_wordToken_139 (t := 145) (by decide) (fun c_139 => ?_) (fun c_139 => ?_)
                  · skip
                    refine e_aloadn (pc := 145) dX4_wordToken_145 rfl ?_
                    refine e_ldcS (j := 9) (pc := 146) dX4_wordToken_146 rfl (by decide) rfl ?_
                    refine e_cvD (pc := 148) (sp_x_isWord (B := B) (E := E) (j := 9) hL hN hN1 h0 h1 hBE hEN (by decide)) dX4_wordToken_148 kX4_117 rfl rfl rfl rfl rfl (mc_CR_of (Nat.le_of_ble_eq_true rfl) (Nat.le_of_ble_eq_true rfl) (Nat.le_refl _) (Nat.le_refl _)) (Nat.le_of_ble_eq_true rfl) ?_
                    refine e_if_eq (pc := 151) dX4_wordToken_151 (t := 157) (by decide) (fun c_151 => ?_) (fun c_151 => ?_)
                    · skip
                      refine e_aloadn (pc := 157) dX4_wordToken_157 rfl ?_
                      refine e_ldcS (j := 10) (pc := 158) dX4_wordToken_158 rfl (by decide) rfl ?_
                      refine e_cvD (pc := 160) (sp_x_isWord (B := B) (E := E) (j := 10) hL hN hN1 h0 h1 hBE hEN (by decide)) dX4_wordToken_160 kX4_117 rfl rfl rfl rfl rfl (mc_CR_of (Nat.le_of_ble_eq_true rfl) (Nat.le_of_ble_eq_true rfl) (Nat.le_refl _) (Nat.le_refl _)) (Nat.le_of_ble_eq_true rfl) ?_
                      refine e_if_eq (pc := 163) dX4_wordToken_163 (t := 169) (by decide) (fun c_163 => ?_) (fun c_163 => ?_)
                      · skip
                        refine e_aloadn (pc := 169) dX4_wordToken_169 rfl ?_
                        refine e_ldcS (j := 11) (pc := 170) dX4_wordToken_170 rfl (by decide) rfl ?_
                        refine e_cvD (pc := 172) (sp_x_isWord (B := B) (E := E) (j := 11) hL hN hN1 h0 h1 hBE hEN (by decide)) dX4_wordToken_172 kX4_117 rfl rfl rfl rfl rfl (mc_CR_of (Nat.le_of_ble_eq_true rfl) (Nat.le_of_ble_eq_true rfl) (Nat.le_refl _) (Nat.le_refl _)) (Nat.le_of_ble_eq_true rfl) ?_
                        refine e_if_eq (pc := 175) dX4_wordToken_175 (t := 183) (by decide) (fun c_175 => ?_) (fun c_175 => ?_)
                        · skip
                          refine e_bipush (v := -27) (pc := 183) dX4_wordToken_183 (by decide) ?_
                          exact e_iret (pc := 185) dX4_wordToken_185 rfl (Nat.le_refl _) (Nat.le_refl _) ⟨by show _ = some (Value.int (xwt (xT a) B E 12 0)); simp only [xwt]; rw [if_neg (show ¬ xwd (xT a) B E 0 = true by rw [mc_b0.mp c_44]; decide), if_neg (show ¬ xwd (xT a) B E 1 = true by rw [mc_b0.mp c_55]; decide), if_neg (show ¬ xwd (xT a) B E 2 = true by rw [mc_b0.mp c_67]; decide), if_neg (show ¬ xwd (xT a) B E 3 = true by rw [mc_b0.mp c_79]; decide), if_neg (show ¬ xwd (xT a) B E 4 = true by rw [mc_b0.mp c_91]; decide), if_neg (show ¬ xwd (xT a) B E 5 = true by rw [mc_b0.mp c_103]; decide), if_neg (show ¬ xwd (xT a) B E 6 = true by rw [mc_b0.mp c_115]; decide), if_neg (show ¬ xwd (xT a) B E 7 = true by rw [mc_b0.mp c_127]; decide), if_neg (show ¬ xwd (xT a) B E 8 = true by rw [mc_b0.mp c_139]; decide), if_neg (show ¬ xwd (xT a) B E 9 = true by rw [mc_b0.mp c_151]; decide), if_neg (show ¬ xwd (xT a) B E 10 = true by rw [mc_b0.mp c_163]; decide), if_neg (show ¬ xwd (xT a) B E 11 = true by rw [mc_b0.mp c_175]; decide)]; try rfl, u1, h1, hu1, rfl⟩
                        · skip
                          refine e_bipush (v := -13) (pc := 178) dX4_wordToken_178 (by decide) ?_
                          refine e_goto (pc := 180) dX4_wordToken_180 (t := 185) (by decide) ?_
                          exact e_iret (pc := 185) dX4_wordToken_185 rfl (Nat.le_refl _) (Nat.le_refl _) ⟨by show _ = some (Value.int (xwt (xT a) B E 12 0)); simp only [xwt]; rw [if_neg (show ¬ xwd (xT a) B E 0 = true by rw [mc_b0.mp c_44]; decide), if_neg (show ¬ xwd (xT a) B E 1 = true by rw [mc_b0.mp c_55]; decide), if_neg (show ¬ xwd (xT a) B E 2 = true by rw [mc_b0.mp c_67]; decide), if_neg (show ¬ xwd (xT a) B E 3 = true by rw [mc_b0.mp c_79]; decide), if_neg (show ¬ xwd (xT a) B E 4 = true by rw [mc_b0.mp c_91]; decide), if_neg (show ¬ xwd (xT a) B E 5 = true by rw [mc_b0.mp c_103]; decide), if_neg (show ¬ xwd (xT a) B E 6 = true by rw [mc_b0.mp c_115]; decide), if_neg (show ¬ xwd (xT a) B E 7 = true by rw [mc_b0.mp c_127]; decide), if_neg (show ¬ xwd (xT a) B E 8 = true by rw [mc_b0.mp c_139]; decide), if_neg (show ¬ xwd (xT a) B E 9 = true by rw [mc_b0.mp c_151]; decide), if_neg (show ¬ xwd (xT a) B E 10 = true by rw [mc_b0.mp c_163]; decide), if_pos (mc_b1.mp c_175)]; try rfl, u1, h1, hu1, rfl⟩
                      · skip
                        refine e_bipush (v := -12) (pc := 166) dX4_wordToken_166 (by decide) ?_
                        exact e_iret (pc := 168) dX4_wordToken_168 rfl (Nat.le_refl _) (Nat.le_refl _) ⟨by show _ = some (Value.int (xwt (xT a) B E 12 0)); simp only [xwt]; rw [if_neg (show ¬ xwd (xT a) B E 0 = true by rw [mc_b0.mp c_44]; decide), if_neg (show ¬ xwd (xT a) B E 1 = true by rw [mc_b0.mp c_55]; decide), if_neg (show ¬ xwd (xT a) B E 2 = true by rw [mc_b0.mp c_67]; decide), if_neg (show ¬ xwd (xT a) B E 3 = true by rw [mc_b0.mp c_79]; decide), if_neg (show ¬ xwd (xT a) B E 4 = true by rw [mc_b0.mp c_91]; decide), if_neg (show ¬ xwd (xT a) B E 5 = true by rw [mc_b0.mp c_103]; decide), if_neg (show ¬ xwd (xT a) B E 6 = true by rw [mc_b0.mp c_115]; decide), if_neg (show ¬ xwd (xT a) B E 7 = true by rw [mc_b0.mp c_127]; decide), if_neg (show ¬ xwd (xT a) B E 8 = true by rw [mc_b0.mp c_139]; decide), if_neg (show ¬ xwd (xT a) B E 9 = true by rw [mc_b0.mp c_151]; decide), if_pos (mc_b1.mp c_163)]; rfl, u1, h1, hu1, rfl⟩
                    · skip
                      refine e_bipush (v := -11) (pc := 154) dX4_wordToken_154 (by decide) ?_
                      exact e_iret (pc := 156) dX4_wordToken_156 rfl (Nat.le_refl _) (Nat.le_refl _) ⟨by show _ = some (Value.int (xwt (xT a) B E 12 0)); simp only [xwt]; rw [if_neg (show ¬ xwd (xT a) B E 0 = true by rw [mc_b0.mp c_44]; decide), if_neg (show ¬ xwd (xT a) B E 1 = true by rw [mc_b0.mp c_55]; decide), if_neg (show ¬ xwd (xT a) B E 2 = true by rw [mc_b0.mp c_67]; decide), if_neg (show ¬ xwd (xT a) B E 3 = true by rw [mc_b0.mp c_79]; decide), if_neg (show ¬ xwd (xT a) B E 4 = true by rw [mc_b0.mp c_91]; decide), if_neg (show ¬ xwd (xT a) B E 5 = true by rw [mc_b0.mp c_103]; decide), if_neg (show ¬ xwd (xT a) B E 6 = true by rw [mc_b0.mp c_115]; decide), if_neg (show ¬ xwd (xT a) B E 7 = true by rw [mc_b0.mp c_127]; decide), if_neg (show ¬ xwd (xT a) B E 8 = true by rw [mc_b0.mp c_139]; decide), if_pos (mc_b1.mp c_151)]; rfl, u1, h1, hu1, rfl⟩
                  · skip
                    refine e_bipush (v := -25) (pc := 142) dX4_wordToken_142 (by decide) ?_
                    exact e_iret (pc := 144) dX4_wordToken_144 rfl (Nat.le_refl _) (Nat.le_refl _) ⟨by show _ = some (Value.int (xwt (xT a) B E 12 0)); simp only [xwt]; rw [if_neg (show ¬ xwd (xT a) B E 0 = true by rw [mc_b0.mp c_44]; decide), if_neg (show ¬ xwd (xT a) B E 1 = true by rw [mc_b0.mp c_55]; decide), if_neg (show ¬ xwd (xT a) B E 2 = true by rw [mc_b0.mp c_67]; decide), if_neg (show ¬ xwd (xT a) B E 3 = true by rw [mc_b0.mp c_79]; decide), if_neg (show ¬ xwd (xT a) B E 4 = true by rw [mc_b0.mp c_91]; decide), if_neg (show ¬ xwd (xT a) B E 5 = true by rw [mc_b0.mp c_103]; decide), if_neg (show ¬ xwd (xT a) B E 6 = true by rw [mc_b0.mp c_115]; decide), if_neg (show ¬ xwd (xT a) B E 7 = true by rw [mc_b0.mp c_127]; decide), if_pos (mc_b1.mp c_139)]; rfl, u1, h1, hu1, rfl⟩
                · skip
                  refine e_bipush (v := -24) (pc := 130) dX4_wordToken_130 (by decide) ?_
                  exact e_iret (pc := 132) dX4_wordToken_132 rfl (Nat.le_refl _) (Nat.le_refl _) ⟨by show _ = some (Value.int (xwt (xT a) B E 12 0)); simp only [xwt]; rw [if_neg (show ¬ xwd (xT a) B E 0 = true by rw [mc_b0.mp c_44]; decide), if_neg (show ¬ xwd (xT a) B E 1 = true by rw [mc_b0.mp c_55]; decide), if_neg (show ¬ xwd (xT a) B E 2 = true by rw [mc_b0.mp c_67]; decide), if_neg (show ¬ xwd (xT a) B E 3 = true by rw [mc_b0.mp c_79]; decide), if_neg (show ¬ xwd (xT a) B E 4 = true by rw [mc_b0.mp c_91]; decide), if_neg (show ¬ xwd (xT a) B E 5 = true by rw [mc_b0.mp c_103]; decide), if_neg (show ¬ xwd (xT a) B E 6 = true by rw [mc_b0.mp c_115]; decide), if_pos (mc_b1.mp c_127)]; rfl, u1, h1, hu1, rfl⟩
              · skip
                refine e_bipush (v := -23) (pc := 118) dX4_wordToken_118 (by decide) ?_
                exact e_iret (pc := 120) dX4_wordToken_120 rfl (Nat.le_refl _) (Nat.le_refl _) ⟨by show _ = some (Value.int (xwt (xT a) B E 12 0)); simp only [xwt]; rw [if_neg (show ¬ xwd (xT a) B E 0 = true by rw [mc_b0.mp c_44]; decide), if_neg (show ¬ xwd (xT a) B E 1 = true by rw [mc_b0.mp c_55]; decide), if_neg (show ¬ xwd (xT a) B E 2 = true by rw [mc_b0.mp c_67]; decide), if_neg (show ¬ xwd (xT a) B E 3 = true by rw [mc_b0.mp c_79]; decide), if_neg (show ¬ xwd (xT a) B E 4 = true by rw [mc_b0.mp c_91]; decide), if_neg (show ¬ xwd (xT a) B E 5 = true by rw [mc_b0.mp c_103]; decide), if_pos (mc_b1.mp c_115)]; rfl, u1, h1, hu1, rfl⟩
            · skip
              refine e_bipush (v := -6) (pc := 106) dX4_wordToken_106 (by decide) ?_
              exact e_iret (pc := 108) dX4_wordToken_108 rfl (Nat.le_refl _) (Nat.le_refl _) ⟨by show _ = some (Value.int (xwt (xT a) B E 12 0)); simp only [xwt]; rw [if_neg (show ¬ xwd (xT a) B E 0 = true by rw [mc_b0.mp c_44]; decide), if_neg (show ¬ xwd (xT a) B E 1 = true by rw [mc_b0.mp c_55]; decide), if_neg (show ¬ xwd (xT a) B E 2 = true by rw [mc_b0.mp c_67]; decide), if_neg (show ¬ xwd (xT a) B E 3 = true by rw [mc_b0.mp c_79]; decide), if_neg (show ¬ xwd (xT a) B E 4 = true by rw [mc_b0.mp c_91]; decide), if_pos (mc_b1.mp c_103)]; rfl, u1, h1, hu1, rfl⟩
          · skip
            refine e_bipush (v := -5) (pc := 94) dX4_wordToken_94 (by decide) ?_
            exact e_iret (pc := 96) dX4_wordToken_96 rfl (Nat.le_refl _) (Nat.le_refl _) ⟨by show _ = some (Value.int (xwt (xT a) B E 12 0)); simp only [xwt]; rw [if_neg (show ¬ xwd (xT a) B E 0 = true by rw [mc_b0.mp c_44]; decide), if_neg (show ¬ xwd (xT a) B E 1 = true by rw [mc_b0.mp c_55]; decide), if_neg (show ¬ xwd (xT a) B E 2 = true by rw [mc_b0.mp c_67]; decide), if_neg (show ¬ xwd (xT a) B E 3 = true by rw [mc_b0.mp c_79]; decide), if_pos (mc_b1.mp c_91)]; rfl, u1, h1, hu1, rfl⟩
        · skip
          refine e_bipush (v := -4) (pc := 82) dX4_wordToken_82 (by decide) ?_
          exact e_iret (pc := 84) dX4_wordToken_84 rfl (Nat.le_refl _) (Nat.le_refl _) ⟨by show _ = some (Value.int (xwt (xT a) B E 12 0)); simp only [xwt]; rw [if_neg (show ¬ xwd (xT a) B E 0 = true by rw [mc_b0.mp c_44]; decide), if_neg (show ¬ xwd (xT a) B E 1 = true by rw [mc_b0.mp c_55]; decide), if_neg (show ¬ xwd (xT a) B E 2 = true by rw [mc_b0.mp c_67]; decide), if_pos (mc_b1.mp c_79)]; rfl, u1, h1, hu1, rfl⟩
      · skip
        refine e_bipush (v := -3) (pc := 70) dX4_wordToken_70 (by decide) ?_
        exact e_iret (pc := 72) dX4_wordToken_72 rfl (Nat.le_refl _) (Nat.le_refl _) ⟨by show _ = some (Value.int (xwt (xT a) B E 12 0)); simp only [xwt]; rw [if_neg (show ¬ xwd (xT a) B E 0 = true by rw [mc_b0.mp c_44]; decide), if_neg (show ¬ xwd (xT a) B E 1 = true by rw [mc_b0.mp c_55]; decide), if_pos (mc_b1.mp c_67)]; rfl, u1, h1, hu1, rfl⟩
    · skip
      refine e_bipush (v := -2) (pc := 58) dX4_wordToken_58 (by decide) ?_
      exact e_iret (pc := 60) dX4_wordToken_60 rfl (Nat.le_refl _) (Nat.le_refl _) ⟨by show _ = some (Value.int (xwt (xT a) B E 12 0)); simp only [xwt]; rw [if_neg (show ¬ xwd (xT a) B E 0 = true by rw [mc_b0.mp c_44]; decide), if_pos (mc_b1.mp c_55)]; rfl, u1, h1, hu1, rfl⟩
  · skip
    refine e_iconst (v := -1) (pc := 47) dX4_wordToken_47 (by decide) ?_
    exact e_iret (pc := 48) dX4_wordToken_48 rfl (Nat.le_refl _) (Nat.le_refl _) ⟨by show _ = some (Value.int (xwt (xT a) B E 12 0)); simp only [xwt]; rw [if_pos (mc_b1.mp c_44)]; rfl, u1, h1, hu1, rfl⟩
