/-! ===== a whole text ===== -/
/-- what stands next, as ynx tells it -/
def xpr (T : Nat → Int32) (N : Nat) (R : xR) : Prop := ∃ A, A ≤ N ∧ R = ynx T N A
theorem ynx_b (T : Nat → Int32) (N A : Nat) (h : A ≤ N) : A ≤ (ynx T N A).1 ∧ (ynx T N A).1 ≤ N ∧ ((ynx T N A).2.2.1 ≠ 0 → (ynx T N A).1 < (ynx T N A).2.1) := by
  obtain ⟨p1, p2⟩ := yws_le T N (N - A) A h
  unfold ynx
  generalize yws T N (N - A) A = P at p1 p2
  by_cases h1 : P = N
  · rw [if_pos h1]; exact ⟨by show A ≤ N; omega, Nat.le_refl _, fun q => absurd rfl q⟩
  · rw [if_neg h1]
    have hPN : P < N := by omega
    by_cases h2 : mc_wi (T P) 97 122 = true
    · rw [if_pos h2]
      refine ⟨p1, p2, fun _ => ?_⟩
      show P < ylt T N (N - P) P
      rw [show N - P = (N - P - 1) + 1 by omega]
      simp only [ylt]
      rw [if_pos ⟨hPN, h2⟩]
      have := (ylt_le T N (N - P - 1) (P + 1) (by omega)).1
      omega
    · rw [if_neg h2]
      by_cases h3 : mc_wi (T P) 48 57 = true
      · rw [if_pos h3]
        refine ⟨p1, p2, fun _ => ?_⟩
        show P < (yda T N (N - P) P 0 0).1
        rw [show N - P = (N - P - 1) + 1 by omega]
        simp only [yda]
        rw [if_pos ⟨hPN, h3⟩]
        have := (yda_k T N (N - P - 1) (P + 1) 1 (if 0 < 4 then 10 * 0 + T P - 48 else 0) (by omega)).2.1
        exact this
      · rw [if_neg h3]; exact ⟨p1, p2, fun _ => Nat.lt_succ_self P⟩
theorem xpr_nx {T : Nat → Int32} {N : Nat} {R : xR} (h : xpr T N R) (ht : xtk1 R ≠ -26) : xpr T N (ynx T N R.2.1) ∧ R.1 + 1 ≤ (ynx T N R.2.1).1 := by
  obtain ⟨A, hA, rfl⟩ := h
  have b := ynx_b T N A hA
  have l := ynx_lt T N A hA
  have t0 : (ynx T N A).2.2.1 ≠ 0 := fun q => ht (by unfold xtk1 xtm; rw [if_pos q])
  have b2 := ynx_b T N _ l.2.1
  exact ⟨⟨_, l.2.1, rfl⟩, by have := b.2.2 t0; omega⟩
/-- a reader puts no more than it takes -/
def xgd (T : Nat → Int32) (N : Nat) (p : xP) : Prop := ∀ R o k, xpr T N R → o.length + k ≤ R.1 → xpr T N (p R o).2.1 ∧ (p R o).2.2.length + k ≤ (p R o).2.1.1
theorem xput_len (o : List Int32) (x : Int32) : (xput o x).length ≤ o.length + 1 := by
  unfold xput; split
  · rw [List.length_append]; exact Nat.le_refl _
  · omega
theorem xgd_lp {T : Nat → Int32} {N : Nat} {p : xP} {M : Int32 → Bool} (hp : xgd T N p) (hM : ∀ t, M t = true → t ≠ -26) : ∀ f, xgd T N (xlp T N p M f) := by
  intro f
  induction f with
  | zero => intro R o k hR hk; exact ⟨hR, hk⟩
  | succ f ih =>
    intro R o k hR hk
    simp only [xlp]
    by_cases h : M (xtk1 R) = true
    · rw [if_pos h]
      have n := xpr_nx hR (hM _ h)
      have g := hp (ynx T N R.2.1) o (k + 1) n.1 (by omega)
      by_cases h2 : (p (ynx T N R.2.1) o).1 = true
      · rw [if_pos h2]
        have := xput_len (p (ynx T N R.2.1) o).2.2 (xtk1 R)
        exact ih _ _ k g.1 (by omega)
      · rw [if_neg h2]
        exact ⟨g.1, by dsimp only; omega⟩
    · rw [if_neg h]; exact ⟨hR, hk⟩
theorem xgd_row {T : Nat → Int32} {N : Nat} {p : xP} {M : Int32 → Bool} (hp : xgd T N p) (hM : ∀ t, M t = true → t ≠ -26) : xgd T N (xrow1 T N p M) := by
  intro R o k hR hk
  unfold xrow1
  have g := hp R o k hR hk
  by_cases h2 : (p R o).1 = true
  · rw [if_pos h2]; exact xgd_lp hp hM 160 _ _ k g.1 g.2
  · rw [if_neg h2]; exact g
theorem xgd_not {T : Nat → Int32} {N : Nat} {nb : Option xP} {sm : xP} (hn : ∀ p, nb = some p → xgd T N p) (hs : xgd T N sm) : xgd T N (xnot T N nb sm) := by
  intro R o k hR hk
  unfold xnot
  by_cases h : xtk1 R = -13
  · rw [if_pos h]
    cases nb with
    | none => exact ⟨hR, hk⟩
    | some p =>
      have n := xpr_nx hR (by rw [h]; decide)
      have g := hn p rfl (ynx T N R.2.1) o (k + 1) n.1 (by omega)
      dsimp only
      by_cases h2 : (p (ynx T N R.2.1) o).1 = true
      · rw [if_pos h2]
        have := xput_len (p (ynx T N R.2.1) o).2.2 (-13)
        exact ⟨g.1, by dsimp only; omega⟩
      · rw [if_neg h2]; exact ⟨g.1, by dsimp only; omega⟩
  · rw [if_neg h]
    have g := hs R o k hR hk
    by_cases h2 : (sm R o).1 = true
    · rw [if_pos h2]
      by_cases h3 : xM14 (xtk1 (sm R o).2.1) = true
      · rw [if_pos h3]
        have n := xpr_nx g.1 (fun q => by rw [q] at h3; exact absurd h3 (by decide))
        have g2 := hs (ynx T N (sm R o).2.1.2.1) (sm R o).2.2 (k + 1) n.1 (by omega)
        by_cases h4 : (sm (ynx T N (sm R o).2.1.2.1) (sm R o).2.2).1 = true
        · rw [if_pos h4]
          have := xput_len (sm (ynx T N (sm R o).2.1.2.1) (sm R o).2.2).2.2 (xtk1 (sm R o).2.1)
          exact ⟨g2.1, by dsimp only; omega⟩
        · rw [if_neg h4]; exact ⟨g2.1, by dsimp only; omega⟩
      · rw [if_neg h3]; exact g
    · rw [if_neg h2]; exact g
theorem xgd_one {T : Nat → Int32} {N : Nat} {eb : Option (xP × xP)} (he : ∀ p, eb = some p → xgd T N p.1 ∧ xgd T N p.2) : xgd T N (xone T N eb) := by
  intro R o k hR hk
  unfold xone
  by_cases h : -6 ≤ xtk1 R
  · rw [if_pos h]
    have n := xpr_nx hR (fun q => by rw [q] at h; exact absurd h (by decide))
    have := xput_len o (xtk1 R)
    exact ⟨n.1, by dsimp only; omega⟩
  · rw [if_neg h]
    cases eb with
    | none => exact ⟨hR, hk⟩
    | some p =>
      obtain ⟨e, b⟩ := p
      have hh := he (e, b) rfl
      dsimp only
      by_cases h2 : xtk1 R = -20
      · rw [if_pos h2]
        have n := xpr_nx hR (by rw [h2]; decide)
        have g := hh.1 (ynx T N R.2.1) o (k + 1) n.1 (by omega)
        dsimp only at g
        by_cases h3 : (e (ynx T N R.2.1) o).1 = true
        · rw [if_pos h3]
          by_cases h4 : xtk1 (e (ynx T N R.2.1) o).2.1 = -21
          · rw [if_pos h4]
            have n2 := xpr_nx g.1 (by rw [h4]; decide)
            exact ⟨n2.1, by dsimp only; omega⟩
          · rw [if_neg h4]; exact ⟨g.1, by dsimp only; omega⟩
        · rw [if_neg h3]; exact ⟨g.1, by dsimp only; omega⟩
      · rw [if_neg h2]
        by_cases h3 : xtk1 R = -17
        · rw [if_pos h3]
          have n := xpr_nx hR (by rw [h3]; decide)
          have g := hh.2 (ynx T N R.2.1) o (k + 1) n.1 (by omega)
          dsimp only at g
          by_cases h4 : (b (ynx T N R.2.1) o).1 = true
          · rw [if_pos h4]
            have := xput_len (b (ynx T N R.2.1) o).2.2 (-19)
            exact ⟨g.1, by dsimp only; omega⟩
          · rw [if_neg h4]; exact ⟨g.1, by dsimp only; omega⟩
        · rw [if_neg h3]; exact ⟨hR, hk⟩
theorem M_no : (∀ t, xM18 t = true → t ≠ -26) ∧ (∀ t, xM16 t = true → t ≠ -26) ∧ (∀ t, xM12 t = true → t ≠ -26) ∧ ∀ t, xM11 t = true → t ≠ -26 :=
  ⟨fun t h q => by rw [q] at h; exact absurd h (by decide), fun t h q => by rw [q] at h; exact absurd h (by decide), fun t h q => by rw [q] at h; exact absurd h (by decide), fun t h q => by rw [q] at h; exact absurd h (by decide)⟩
theorem xgd_E {T : Nat → Int32} {N : Nat} {p : xP} (hp : xgd T N p) : xgd T N (xE T N p) := xgd_row (xgd_row hp M_no.2.2.1) M_no.2.2.2
theorem xgd_sum {T : Nat → Int32} {N : Nat} {p : xP} (hp : xgd T N p) : xgd T N (xsum T N p) := xgd_row (xgd_row hp M_no.1) M_no.2.1
theorem xgd_lv (T : Nat → Int32) (N : Nat) : ∀ g, xgd T N (xlv T N g).1 ∧ xgd T N (xlv T N g).2 := by
  intro g
  induction g with
  | zero =>
    have h1 : xgd T N (xlv T N 0).1 := by rw [xlv_o0]; exact xgd_one (fun p h => by cases h)
    exact ⟨h1, by rw [xlv_n0]; exact xgd_not (fun p h => by cases h) (xgd_sum h1)⟩
  | succ g ih =>
    have h1 : xgd T N (xlv T N (g + 1)).1 := by rw [xlv_oS]; exact xgd_one (fun p h => by cases h; exact ⟨xgd_E ih.2, ih.1⟩)
    exact ⟨h1, by rw [xlv_nS]; exact xgd_not (fun p h => by cases h; exact ih.2) (xgd_sum h1)⟩
/-- a part: its name, an E, a semicolon -/
def xpart (T : Nat → Int32) (N : Nat) (E : xP) (key : Int32) : xP := fun R o =>
  if xtk1 R = key then (if (E (ynx T N R.2.1) o).1 = true then (if xtk1 (E (ynx T N R.2.1) o).2.1 = -22 then (true, ynx T N (E (ynx T N R.2.1) o).2.1.2.1, (E (ynx T N R.2.1) o).2.2) else (false, (E (ynx T N R.2.1) o).2)) else (false, (E (ynx T N R.2.1) o).2)) else (false, R, o)
theorem xgd_part {T : Nat → Int32} {N : Nat} {E : xP} {key : Int32} (hE : xgd T N E) (hk : key ≠ -26) {R : xR} {o : List Int32} {k : Nat} (hR : xpr T N R) (ho : o.length + k ≤ R.1) : xpr T N (xpart T N E key R o).2.1 ∧ (xpart T N E key R o).2.2.length + k ≤ (xpart T N E key R o).2.1.1 ∧ ((xpart T N E key R o).1 = true → (xpart T N E key R o).2.2.length + (k + 2) ≤ (xpart T N E key R o).2.1.1) := by
  unfold xpart
  by_cases h : xtk1 R = key
  · rw [if_pos h]
    have n := xpr_nx hR (by rw [h]; exact hk)
    have g := hE (ynx T N R.2.1) o (k + 1) n.1 (by omega)
    by_cases h3 : (E (ynx T N R.2.1) o).1 = true
    · rw [if_pos h3]
      by_cases h4 : xtk1 (E (ynx T N R.2.1) o).2.1 = -22
      · rw [if_pos h4]
        have n2 := xpr_nx g.1 (by rw [h4]; decide)
        exact ⟨n2.1, by dsimp only; omega, fun _ => by dsimp only; omega⟩
      · rw [if_neg h4]; exact ⟨g.1, by dsimp only; omega, fun q => by cases (show false = true from q)⟩
    · rw [if_neg h3]; exact ⟨g.1, by dsimp only; omega, fun q => by cases (show false = true from q)⟩
  · rw [if_neg h]; exact ⟨hR, ho, fun q => by cases (show false = true from q)⟩
def xnext (T : Nat → Int32) (N : Nat) (w : Int32) : xP := fun R o => if xtk1 R = w then (true, ynx T N R.2.1, o) else (false, R, o)
theorem sp_x_isNext {s u m n : Nat → Int32} {a c b d : Nat → List Int32} {q : List (Option Nat)} {h : Nat} {z : mc_W} (hL : xL a) {N : Nat} (hN : s 5 = nI N) (hN1 : N ≤ 160) {R : xR} {o : List Int32} (hP : xPS N R o u c) {x : Int32} : mc_T yX4_isNext cX4_isNext 2 (some .boolean) 8 [.ref 6, .int x] (WW s a q u c h m b n d z) (some (.int (mc_b (xnext (xT a) N x R o).1))) (fun w1 => ∃ u1 c1, xPS N (xnext (xT a) N x R o).2.1 (xnext (xT a) N x R o).2.2 u1 c1 ∧ xPK u u1 c c1 ∧ w1 = (WW s a q u1 c1 h m b n d z)) := by
  refine mc_start (own := RX4) (ini := false) rfl (by decide +kernel) (fun h => by cases h) (Nat.le_of_ble_eq_true rfl) ?_
  show mc_E _ _ _ _ _ [some (.ref 6), some (.int x)] [] _ _ _
  have ht := hP.2.2.1
  refine e_aloadn (pc := 0) dX4_isNext_0 rfl ?_
  refine e_get (pc := 1) dX4_isNext_1 fX4_41 rfl rfl ?_
  refine e_iloadn (pc := 4) dX4_isNext_4 rfl ?_
  refine e_icmp_eq (pc := 5) dX4_isNext_5 (t := 10) (by decide) (fun c_5 => ?_) (fun c_5 => ?_)
  · skip
    refine e_aloadn (pc := 10) dX4_isNext_10 rfl ?_
    refine e_cvY (pc := 11) (sp_x_goOnP hL hN hN1 hP) dX4_isNext_11 kX4_28 rfl rfl rfl rfl rfl (mc_CR_of (Nat.le_of_ble_eq_true rfl) (Nat.le_of_ble_eq_true rfl) (Nat.le_refl _) (Nat.le_refl _)) (Nat.le_of_ble_eq_true rfl) (fun w1 hw1 => ?_)
    obtain ⟨u1, c1, hP1, hk1, rfl⟩ := hw1
    refine e_iconst (v := 1) (pc := 14) dX4_isNext_14 (by decide) ?_
    exact e_zret (pc := 15) dX4_isNext_15 rfl (by rfl) (Nat.le_refl _) (Nat.le_refl _) (have e : (xnext (xT a) N x R o) = (true, ynx (xT a) N R.2.1, o) := if_pos (show xtk1 R = x by rw [← ht]; exact c_5); ⟨by rw [e]; rfl, u1, c1, by rw [e]; dsimp only; exact hP1, hk1, rfl⟩)
  · skip
    refine e_iconst (v := 0) (pc := 8) dX4_isNext_8 (by decide) ?_
    exact e_zret (pc := 9) dX4_isNext_9 rfl (by rfl) (Nat.le_refl _) (Nat.le_refl _) (have e : (xnext (xT a) N x R o) = (false, R, o) := if_neg (show ¬ xtk1 R = x by rw [← ht]; exact c_5); ⟨by rw [e]; rfl, u, c, by rw [e]; dsimp only; exact hP, xPK_refl u c, rfl⟩)
theorem xpart_eq (T : Nat → Int32) (N : Nat) (E : xP) (x : Int32) (R : xR) (o : List Int32) : xpart T N E x R o = if (xnext T N x R o).1 = true then (if (E (xnext T N x R o).2.1 (xnext T N x R o).2.2).1 = true then xnext T N (-22) (E (xnext T N x R o).2.1 (xnext T N x R o).2.2).2.1 (E (xnext T N x R o).2.1 (xnext T N x R o).2.2).2.2 else (false, (E (xnext T N x R o).2.1 (xnext T N x R o).2.2).2)) else (false, R, o) := by
  unfold xpart xnext
  by_cases h : xtk1 R = x
  · rw [if_pos h, if_pos h]
    dsimp only
    rw [if_pos rfl]
  · rw [if_neg h, if_neg h]; exact (if_neg (fun q => by cases (show false = true from q))).symm
theorem xnext_f {T : Nat → Int32} {N : Nat} {x : Int32} {R : xR} {o : List Int32} (h : (xnext T N x R o).1 = false) : (xnext T N x R o).2 = (R, o) := by
  unfold xnext at h ⊢
  by_cases q : xtk1 R = x
  · rw [if_pos q] at h; cases (show true = false from h)
  · rw [if_neg q]
theorem sp_x_isPart {s u m n : Nat → Int32} {a c b d : Nat → List Int32} {q : List (Option Nat)} {h : Nat} {z : mc_W} (hL : xL a) {N : Nat} (hN : s 5 = nI N) (hN1 : N ≤ 160) {R : xR} {o : List Int32} (hP : xPS N R o u c) {x : Int32} : mc_T yX4_isPart cX4_isPart 2 (some .boolean) 44 [.ref 6, .int x] (WW s a q u c h m b n d z) (some (.int (mc_b (xpart (xT a) N (xE (xT a) N (xlv (xT a) N 5).2) x R o).1))) (fun w1 => ∃ u1 c1, xPS N (xpart (xT a) N (xE (xT a) N (xlv (xT a) N 5).2) x R o).2.1 (xpart (xT a) N (xE (xT a) N (xlv (xT a) N 5).2) x R o).2.2 u1 c1 ∧ xPK u u1 c c1 ∧ w1 = (WW s a q u1 c1 h m b n d z)) := by
  refine mc_start (own := RX4) (ini := false) rfl (by decide +kernel) (fun h => by cases h) (Nat.le_of_ble_eq_true rfl) ?_
  show mc_E _ _ _ _ _ [some (.ref 6), some (.int x)] [] _ _ _
  refine e_aloadn (pc := 0) dX4_isPart_0 rfl ?_
  refine e_iloadn (pc := 1) dX4_isPart_1 rfl ?_
  refine e_cvX (pc := 2) (sp_x_isNext (x := x) hL hN hN1 hP) dX4_isPart_2 kX4_67 rfl rfl rfl rfl rfl (mc_CR_of (Nat.le_of_ble_eq_true rfl) (Nat.le_of_ble_eq_true rfl) (Nat.le_refl _) (Nat.le_refl _)) (Nat.le_of_ble_eq_true rfl) (fun w1 hw1 => ?_)
  obtain ⟨u1, c1, hP1, hk1, rfl⟩ := hw1
  refine e_if_eq (pc := 5) dX4_isPart_5 (t := 29) (by decide) (fun c_5 => ?_) (fun c_5 => ?_)
  · skip
    refine e_iconst (v := 0) (pc := 29) dX4_isPart_29 (by decide) ?_
    exact e_zret (pc := 30) dX4_isPart_30 rfl (by rfl) (Nat.le_refl _) (Nat.le_refl _) (have e : (xpart (xT a) N (xE (xT a) N (xlv (xT a) N 5).2) x R o) = (false, R, o) := (by rw [xpart_eq, if_neg (show ¬ (xnext (xT a) N x R o).1 = true by rw [mc_b0.mp c_5]; decide)]); have e2 := xnext_f (mc_b0.mp c_5); ⟨by rw [e]; rfl, u1, c1, by rw [e]; rw [e2] at hP1; exact hP1, hk1, rfl⟩)
  · skip
    refine e_aloadn (pc := 8) dX4_isPart_8 rfl ?_
    refine e_iconst (v := 0) (pc := 9) dX4_isPart_9 (by decide) ?_
    refine e_cvX (pc := 10) (sp_x_E5 hL hN hN1 hP1) dX4_isPart_10 kX4_70 rfl rfl rfl rfl rfl (mc_CR_of (Nat.le_of_ble_eq_true rfl) (Nat.le_of_ble_eq_true rfl) (Nat.le_refl _) (Nat.le_refl _)) (Nat.le_of_ble_eq_true rfl) (fun w1 hw1 => ?_)
    obtain ⟨u2, c2, hP2, hk2, rfl⟩ := hw1
    refine e_if_eq (pc := 13) dX4_isPart_13 (t := 29) (by decide) (fun c_13 => ?_) (fun c_13 => ?_)
    · skip
      refine e_iconst (v := 0) (pc := 29) dX4_isPart_29 (by decide) ?_
      exact e_zret (pc := 30) dX4_isPart_30 rfl (by rfl) (Nat.le_refl _) (Nat.le_refl _) (have e : (xpart (xT a) N (xE (xT a) N (xlv (xT a) N 5).2) x R o) = (false, ((xE (xT a) N (xlv (xT a) N 5).2) (xnext (xT a) N x R o).2.1 (xnext (xT a) N x R o).2.2).2) := (by rw [xpart_eq, if_pos (mc_b1.mp c_5), if_neg (show ¬ ((xE (xT a) N (xlv (xT a) N 5).2) (xnext (xT a) N x R o).2.1 (xnext (xT a) N x R o).2.2).1 = true by rw [mc_b0.mp c_13]; decide)]); ⟨by rw [e]; rfl, u2, c2, by rw [e]; dsimp only; exact hP2, hk1.trans hk2, rfl⟩)
    · skip
      refine e_aloadn (pc := 16) dX4_isPart_16 rfl ?_
      refine e_bipush (v := -22) (pc := 17) dX4_isPart_17 (by decide) ?_
      refine e_cvX (pc := 19) (sp_x_isNext (x := -22) hL hN hN1 hP2) dX4_isPart_19 kX4_67 rfl rfl rfl rfl rfl (mc_CR_of (Nat.le_of_ble_eq_true rfl) (Nat.le_of_ble_eq_true rfl) (Nat.le_refl _) (Nat.le_refl _)) (Nat.le_of_ble_eq_true rfl) (fun w1 hw1 => ?_)
      obtain ⟨u3, c3, hP3, hk3, rfl⟩ := hw1
      refine e_if_eq (pc := 22) dX4_isPart_22 (t := 29) (by decide) (fun c_22 => ?_) (fun c_22 => ?_)
      · skip
        refine e_iconst (v := 0) (pc := 29) dX4_isPart_29 (by decide) ?_
        exact e_zret (pc := 30) dX4_isPart_30 rfl (by rfl) (Nat.le_refl _) (Nat.le_refl _) (have e : (xpart (xT a) N (xE (xT a) N (xlv (xT a) N 5).2) x R o) = (xnext (xT a) N (-22) ((xE (xT a) N (xlv (xT a) N 5).2) (xnext (xT a) N x R o).2.1 (xnext (xT a) N x R o).2.2).2.1 ((xE (xT a) N (xlv (xT a) N 5).2) (xnext (xT a) N x R o).2.1 (xnext (xT a) N x R o).2.2).2.2) := (by rw [xpart_eq, if_pos (mc_b1.mp c_5), if_pos (mc_b1.mp c_13)]); ⟨by rw [e, mc_b0.mp c_22]; rfl, u3, c3, by rw [e]; exact hP3, (hk1.trans hk2).trans hk3, rfl⟩)
      · skip
        refine e_iconst (v := 1) (pc := 25) dX4_isPart_25 (by decide) ?_
        refine e_goto (pc := 26) dX4_isPart_26 (t := 30) (by decide) ?_
        exact e_zret (pc := 30) dX4_isPart_30 rfl (by rfl) (Nat.le_refl _) (Nat.le_refl _) (have e : (xpart (xT a) N (xE (xT a) N (xlv (xT a) N 5).2) x R o) = (xnext (xT a) N (-22) ((xE (xT a) N (xlv (xT a) N 5).2) (xnext (xT a) N x R o).2.1 (xnext (xT a) N x R o).2.2).2.1 ((xE (xT a) N (xlv (xT a) N 5).2) (xnext (xT a) N x R o).2.1 (xnext (xT a) N x R o).2.2).2.2) := (by rw [xpart_eq, if_pos (mc_b1.mp c_5), if_pos (mc_b1.mp c_13)]); ⟨by rw [e, mc_b1.mp c_22]; rfl, u3, c3, by rw [e]; exact hP3, (hk1.trans hk2).trans hk3, rfl⟩)
def xtA (T : Nat → Int32) (N : Nat) : Bool × xR × List Int32 := xpart T N (xE T N (xlv T N 5).2) (-23) (ynx T N 0) []
def xtB (T : Nat → Int32) (N : Nat) : Bool × xR × List Int32 := xpart T N (xE T N (xlv T N 5).2) (-24) (xtA T N).2.1 (xtA T N).2.2
def xtC (T : Nat → Int32) (N : Nat) : Bool × xR × List Int32 := xpart T N (xE T N (xlv T N 5).2) (-25) (xtB T N).2.1 (xtB T N).2.2
theorem foldA (T : Nat → Int32) (N : Nat) : xpart T N (xE T N (xlv T N 5).2) (-23) (ynx T N 0) [] = xtA T N := rfl
theorem foldB (T : Nat → Int32) (N : Nat) : xpart T N (xE T N (xlv T N 5).2) (-24) (xtA T N).2.1 (xtA T N).2.2 = xtB T N := rfl
theorem foldC (T : Nat → Int32) (N : Nat) : xpart T N (xE T N (xlv T N 5).2) (-25) (xtB T N).2.1 (xtB T N).2.2 = xtC T N := rfl
/-- whether a text stands there, and where the last token began -/
def xtv (T : Nat → Int32) (N : Nat) : Bool × Nat := if (xtA T N).1 = true then (if (xtB T N).1 = true then (if (xtC T N).1 = true then (xtk1 (xtC T N).2.1 == -26, (xtC T N).2.1.1) else (false, (xtC T N).2.1.1)) else (false, (xtB T N).2.1.1)) else (false, (xtA T N).2.1.1)
theorem xtC_len (T : Nat → Int32) (N : Nat) (hN : N ≤ 160) (h : (xtv T N).1 = true) : (xtC T N).2.2.length ≤ 154 := by
  have E := xgd_E (xgd_lv T N 5).2
  have b0 := ynx_b T N 0 (Nat.zero_le _)
  unfold xtv at h
  by_cases h1 : (xtA T N).1 = true
  · rw [if_pos h1] at h
    by_cases h2 : (xtB T N).1 = true
    · rw [if_pos h2] at h
      by_cases h3 : (xtC T N).1 = true
      · have g1 := xgd_part (key := -23) (R := ynx T N 0) (o := []) (k := 0) E (by decide) ⟨0, Nat.zero_le _, rfl⟩ (by show 0 + 0 ≤ _; omega)
        rw [foldA] at g1
        have g2 := xgd_part (key := -24) (R := (xtA T N).2.1) (o := (xtA T N).2.2) (k := 2) E (by decide) g1.1 (g1.2.2 h1)
        rw [foldB] at g2
        have g3 := xgd_part (key := -25) (R := (xtB T N).2.1) (o := (xtB T N).2.2) (k := 4) E (by decide) g2.1 (g2.2.2 h2)
        rw [foldC] at g3
        have g4 := g3.2.2 h3
        obtain ⟨A, hA, e⟩ := g3.1
        have b := (ynx_b T N A hA).2.1
        rw [← e] at b
        omega
      · rw [if_neg h3] at h; cases (show false = true from h)
    · rw [if_neg h2] at h; cases (show false = true from h)
  · rw [if_neg h1] at h; cases (show false = true from h)
theorem xPS.up {N : Nat} {R : xR} {o : List Int32} {u : Nat → Int32} {c : Nat → List Int32} {k : Nat} {x : Int32} (h : xPS N R o u c) (hk : 4 ≤ k) : xPS N R o (mc_up u k x) c := by
  obtain ⟨p0, p1, p2, p3, p4⟩ := h
  exact ⟨by rw [upn (by omega)]; exact p0, by rw [upn (by omega)]; exact p1, by rw [upn (by omega)]; exact p2, by rw [upn (by omega)]; exact p3, p4⟩
/-- what isText leaves -/
def xTL (T : Nat → Int32) (N : Nat) (u u1 : Nat → Int32) (c c1 : Nat → List Int32) : Prop :=
  u1 0 = nI (xtv T N).2 ∧ (∀ j, 6 ≤ j → u1 j = u j) ∧ (∀ j, 1 ≤ j → c1 j = c j) ∧ (c1 0).length = 160 ∧ ((xtv T N).1 = true → u1 3 = nI (xtC T N).2.2.length ∧ (c1 0).take (xtC T N).2.2.length = (xtC T N).2.2 ∧ u1 4 = nI (xtA T N).2.2.length ∧ u1 5 = nI (xtB T N).2.2.length)
theorem sp_x_isText {s u m n : Nat → Int32} {a c b d : Nat → List Int32} {q : List (Option Nat)} {h : Nat} {z : mc_W} (hL : xL a) {N : Nat} (hN : s 5 = nI N) (hN1 : N ≤ 160) (hc0 : (c 0).length = 160) : mc_T yX4_isText cX4_isText 1 (some .boolean) 45 [.ref 6] (WW s a q u c h m b n d z) (some (.int (mc_b (xtv (xT a) N).1))) (fun w1 => ∃ u1 c1, xTL (xT a) N u u1 c c1 ∧ w1 = (WW s a q u1 c1 h m b n d z)) := by
  refine mc_start (own := RX4) (ini := false) rfl (by decide +kernel) (fun h => by cases h) (Nat.le_of_ble_eq_true rfl) ?_
  show mc_E _ _ _ _ _ [some (.ref 6)] [] _ _ _
  refine e_aloadn (pc := 0) dX4_isText_0 rfl ?_
  refine e_iconst (v := 0) (pc := 1) dX4_isText_1 (by decide) ?_
  refine put_tape_next (pc := 2) dX4_isText_2 pX4_22 ?_
  refine e_aloadn (pc := 5) dX4_isText_5 rfl ?_
  refine e_iconst (v := 0) (pc := 6) dX4_isText_6 (by decide) ?_
  refine put_tape_codeSize (pc := 7) dX4_isText_7 pX4_25 ?_
  refine e_aloadn (pc := 10) dX4_isText_10 rfl ?_
  refine e_cvY (pc := 11) (sp_x_goOn (A := 0) hL hN hN1 (by rw [upn (by decide), up_at]; rfl) (Nat.zero_le _)) dX4_isText_11 kX4_28 rfl rfl rfl rfl rfl (mc_CR_of (Nat.le_of_ble_eq_true rfl) (Nat.le_of_ble_eq_true rfl) (Nat.le_refl _) (Nat.le_refl _)) (Nat.le_of_ble_eq_true rfl) (fun w1 hw1 => ?_)
  obtain ⟨u1, hx1, rfl⟩ := hw1
  have hP1 : xPS N (ynx (xT a) N 0) [] u1 c := ⟨hx1.1, hx1.2.1, hx1.2.2.1, by rw [hx1.2.2.2 3 (by decide), up_at]; rfl, rfl, hc0, Nat.zero_le _, (ynx_lt (xT a) N 0 (Nat.zero_le _)).2.1⟩
  refine e_aloadn (pc := 14) dX4_isText_14 rfl ?_
  refine e_bipush (v := -23) (pc := 15) dX4_isText_15 (by decide) ?_
  refine e_cvX (pc := 17) (sp_x_isPart (x := -23) hL hN hN1 hP1) dX4_isText_17 kX4_31 rfl rfl rfl rfl rfl (mc_CR_of (Nat.le_of_ble_eq_true rfl) (Nat.le_of_ble_eq_true rfl) (Nat.le_refl _) (Nat.le_refl _)) (Nat.le_of_ble_eq_true rfl) (fun w1 hw1 => ?_)
  obtain ⟨u2, c2, hP2, hk2, rfl⟩ := hw1
  rw [foldA] at hP2 ⊢
  refine e_if_ne (pc := 20) dX4_isText_20 (t := 25) (by decide) (fun c_20 => ?_) (fun c_20 => ?_)
  · skip
    refine e_aloadn (pc := 25) dX4_isText_25 rfl ?_
    refine e_aloadn (pc := 26) dX4_isText_26 rfl ?_
    refine e_get (pc := 27) dX4_isText_27 fX4_25 rfl rfl ?_
    refine put_tape_slipsAt (pc := 30) dX4_isText_30 pX4_35 ?_
    refine e_aloadn (pc := 33) dX4_isText_33 rfl ?_
    refine e_bipush (v := -24) (pc := 34) dX4_isText_34 (by decide) ?_
    refine e_cvX (pc := 36) (sp_x_isPart (x := -24) hL hN hN1 (hP2.up (k := 4) (x := u2 3) (by decide))) dX4_isText_36 kX4_31 rfl rfl rfl rfl rfl (mc_CR_of (Nat.le_of_ble_eq_true rfl) (Nat.le_of_ble_eq_true rfl) (Nat.le_refl _) (Nat.le_refl _)) (Nat.le_of_ble_eq_true rfl) (fun w1 hw1 => ?_)
    obtain ⟨u3, c3, hP3, hk3, rfl⟩ := hw1
    rw [foldB] at hP3 ⊢
    refine e_if_ne (pc := 39) dX4_isText_39 (t := 44) (by decide) (fun c_39 => ?_) (fun c_39 => ?_)
    · skip
      refine e_aloadn (pc := 44) dX4_isText_44 rfl ?_
      refine e_aloadn (pc := 45) dX4_isText_45 rfl ?_
      refine e_get (pc := 46) dX4_isText_46 fX4_25 rfl rfl ?_
      refine put_tape_costsAt (pc := 49) dX4_isText_49 pX4_38 ?_
      refine e_aloadn (pc := 52) dX4_isText_52 rfl ?_
      refine e_bipush (v := -25) (pc := 53) dX4_isText_53 (by decide) ?_
      refine e_cvX (pc := 55) (sp_x_isPart (x := -25) hL hN hN1 (hP3.up (k := 5) (x := u3 3) (by decide))) dX4_isText_55 kX4_31 rfl rfl rfl rfl rfl (mc_CR_of (Nat.le_of_ble_eq_true rfl) (Nat.le_of_ble_eq_true rfl) (Nat.le_refl _) (Nat.le_refl _)) (Nat.le_of_ble_eq_true rfl) (fun w1 hw1 => ?_)
      obtain ⟨u4, c4, hP4, hk4, rfl⟩ := hw1
      rw [foldC] at hP4 ⊢
      refine e_if_eq (pc := 58) dX4_isText_58 (t := 74) (by decide) (fun c_58 => ?_) (fun c_58 => ?_)
      · skip
        refine e_iconst (v := 0) (pc := 74) dX4_isText_74 (by decide) ?_
        exact e_zret (pc := 75) dX4_isText_75 rfl (by rfl) (Nat.le_refl _) (Nat.le_refl _) (have e : (xtv (xT a) N) = (false, (xtC (xT a) N).2.1.1) := (by unfold xtv; rw [if_pos (show (xtA (xT a) N).1 = true from mc_b1.mp c_20), if_pos (show (xtB (xT a) N).1 = true from mc_b1.mp c_39), if_neg (show ¬ (xtC (xT a) N).1 = true by rw [show (xtC (xT a) N).1 = false from mc_b0.mp c_58]; decide)]); ⟨by rw [e]; rfl, u4, c4, ⟨by rw [e]; dsimp only; exact hP4.1, fun j hj => by rw [hk4.1 j (by omega), upn (by omega), hk3.1 j (by omega), upn (by omega), hk2.1 j (by omega), hx1.2.2.2 j (by omega), upn (by omega), upn (by omega)], fun j hj => by rw [hk4.2 j hj, hk3.2 j hj, hk2.2 j hj], hP4.2.2.2.2.2.1, fun q => by rw [e] at q; cases (show false = true from q)⟩, rfl⟩)
      · skip
        refine e_aloadn (pc := 61) dX4_isText_61 rfl ?_
        refine e_get (pc := 62) dX4_isText_62 fX4_41 rfl rfl ?_
        refine e_bipush (v := -26) (pc := 65) dX4_isText_65 (by decide) ?_
        refine e_icmp_ne (pc := 67) dX4_isText_67 (t := 74) (by decide) (fun c_67 => ?_) (fun c_67 => ?_)
        · skip
          refine e_iconst (v := 0) (pc := 74) dX4_isText_74 (by decide) ?_
          exact e_zret (pc := 75) dX4_isText_75 rfl (by rfl) (Nat.le_refl _) (Nat.le_refl _) (have e : (xtv (xT a) N) = (false, (xtC (xT a) N).2.1.1) := (by unfold xtv; rw [if_pos (show (xtA (xT a) N).1 = true from mc_b1.mp c_20), if_pos (show (xtB (xT a) N).1 = true from mc_b1.mp c_39), if_pos (show (xtC (xT a) N).1 = true from mc_b1.mp c_58)]; rw [(show (xtk1 (xtC (xT a) N).2.1 == -26) = false by rw [beq_eq_false_iff_ne]; intro q; exact c_67 (hP4.2.2.1.trans q))]); ⟨by rw [e]; rfl, u4, c4, ⟨by rw [e]; dsimp only; exact hP4.1, fun j hj => by rw [hk4.1 j (by omega), upn (by omega), hk3.1 j (by omega), upn (by omega), hk2.1 j (by omega), hx1.2.2.2 j (by omega), upn (by omega), upn (by omega)], fun j hj => by rw [hk4.2 j hj, hk3.2 j hj, hk2.2 j hj], hP4.2.2.2.2.2.1, fun q => by rw [e] at q; cases (show false = true from q)⟩, rfl⟩)
        · skip
          refine e_iconst (v := 1) (pc := 70) dX4_isText_70 (by decide) ?_
          refine e_goto (pc := 71) dX4_isText_71 (t := 75) (by decide) ?_
          exact e_zret (pc := 75) dX4_isText_75 rfl (by rfl) (Nat.le_refl _) (Nat.le_refl _) (have e : (xtv (xT a) N) = (true, (xtC (xT a) N).2.1.1) := (by unfold xtv; rw [if_pos (show (xtA (xT a) N).1 = true from mc_b1.mp c_20), if_pos (show (xtB (xT a) N).1 = true from mc_b1.mp c_39), if_pos (show (xtC (xT a) N).1 = true from mc_b1.mp c_58)]; rw [(show (xtk1 (xtC (xT a) N).2.1 == -26) = true by rw [beq_iff_eq]; exact hP4.2.2.1.symm.trans c_67)]); ⟨by rw [e]; rfl, u4, c4, ⟨by rw [e]; dsimp only; exact hP4.1, fun j hj => by rw [hk4.1 j (by omega), upn (by omega), hk3.1 j (by omega), upn (by omega), hk2.1 j (by omega), hx1.2.2.2 j (by omega), upn (by omega), upn (by omega)], fun j hj => by rw [hk4.2 j hj, hk3.2 j hj, hk2.2 j hj], hP4.2.2.2.2.2.1, fun _ => ⟨hP4.2.2.2.1, hP4.2.2.2.2.1, by rw [hk4.1 4 (by decide), upn (by decide), hk3.1 4 (by decide), up_at]; exact hP2.2.2.2.1, by rw [hk4.1 5 (by decide), up_at]; exact hP3.2.2.2.1⟩⟩, rfl⟩)
    · skip
      refine e_iconst (v := 0) (pc := 42) dX4_isText_42 (by decide) ?_
      exact e_zret (pc := 43) dX4_isText_43 rfl (by rfl) (Nat.le_refl _) (Nat.le_refl _) (have e : (xtv (xT a) N) = (false, (xtB (xT a) N).2.1.1) := (by unfold xtv; rw [if_pos (show (xtA (xT a) N).1 = true from mc_b1.mp c_20), if_neg (show ¬ (xtB (xT a) N).1 = true by rw [show (xtB (xT a) N).1 = false from mc_b0.mp c_39]; decide)]); ⟨by rw [e]; rfl, u3, c3, ⟨by rw [e]; dsimp only; exact hP3.1, fun j hj => by rw [hk3.1 j (by omega), upn (by omega), hk2.1 j (by omega), hx1.2.2.2 j (by omega), upn (by omega), upn (by omega)], fun j hj => by rw [hk3.2 j hj, hk2.2 j hj], hP3.2.2.2.2.2.1, fun q => by rw [e] at q; cases (show false = true from q)⟩, rfl⟩)
  · skip
    refine e_iconst (v := 0) (pc := 23) dX4_isText_23 (by decide) ?_
    exact e_zret (pc := 24) dX4_isText_24 rfl (by rfl) (Nat.le_refl _) (Nat.le_refl _) (have e : (xtv (xT a) N) = (false, (xtA (xT a) N).2.1.1) := (by unfold xtv; rw [if_neg (show ¬ (xtA (xT a) N).1 = true by rw [show (xtA (xT a) N).1 = false from mc_b0.mp c_20]; decide)]); ⟨by rw [e]; rfl, u2, c2, ⟨by rw [e]; dsimp only; exact hP2.1, fun j hj => by rw [hk2.1 j (by omega), hx1.2.2.2 j (by omega), upn (by omega), upn (by omega)], hk2.2, hP2.2.2.2.2.2.1, fun q => by rw [e] at q; cases (show false = true from q)⟩, rfl⟩)
