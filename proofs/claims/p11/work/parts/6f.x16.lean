/-! ===== told rows ===== -/
theorem xh2 : ∀ L, L < 41 → (nI L / 2 == nI (L / 2) && nI L - nI L / 2 * 2 == nI (L % 2) && (2 : Int32) * nI L == nI (2 * L) && nI (2 * L) + 1 == nI (2 * L + 1) && nI (2 * L) + Int32.ofInt 2 == nI (2 * (L + 1))) = true := by decide +kernel
theorem xh2' {L : Nat} (h : L < 41) : nI L / 2 = nI (L / 2) ∧ nI L - nI L / 2 * 2 = nI (L % 2) ∧ (2 : Int32) * nI L = nI (2 * L) ∧ nI (2 * L) + 1 = nI (2 * L + 1) ∧ nI (2 * L) + Int32.ofInt 2 = nI (2 * (L + 1)) := by
  have := xh2 L h
  simp only [Bool.and_eq_true, beq_iff_eq] at this
  exact ⟨this.1.1.1.1, this.1.1.1.2, this.1.1.2, this.1.2, this.2⟩
def xsw (s : Nat → Int32) (a : Nat → List Int32) (k : Nat) : Int32 := if xmis s k = true then -11 else if ¬ (xrow s a k).length % 2 = 0 then -2 else if yevn (xrow s a k) 21 0 = true then 0 else -2
theorem lp_x_refRows {s u m n : Nat → Int32} {a c b d : Nat → List Int32} {q : List (Option Nat)} {h : Nat} {z : mc_W} {k : Nat} (hev : (xrow s a k).length % 2 = 0) (hk : k < 4) (hL : xL a) (hS : xS s) :
    ∀ (f i : Nat), i + f = 21 → 2 * i ≤ 2 * ((xrow s a k).length / 2) →
      mc_E RX6 cX6_refusalOfRows 5 (mc_JM (some .int) false 5 0 0 (fun r' w' => r' = some (.int (if yevn (xrow s a k) f i = true then 0 else -2)) ∧ w' = (WW s a q u c h m b n d z))) 33 [some (.ref 0), some (.int (nI k)), some (.int 0), some (.ref (21 + 2 * k)), some (.int (nI (2 * i)))] [] (WW s a q u c h m b n d z) 0 0 := by
  have hl40 := (xrow_len hk hL hS).2
  intro f
  induction f with
  | zero =>
    intro i hi h2
    exact absurd h2 (by omega)
  | succ f ih =>
    intro i hi h2
    by_cases hi2 : 2 * i < (xrow s a k).length
    · have ey : yevn (xrow s a k) (f + 1) i = (ynum ((xrow s a k).getD (2 * i) 0) && yevn (xrow s a k) f (i + 1)) := if_pos hi2
      rw [ey]
      refine e_iload (pc := 33) dX6_refusalOfRows_33 rfl ?_
      refine e_aloadn (pc := 35) dX6_refusalOfRows_35 rfl ?_
      refine e_cvD (pc := 36) (sp_x_sizeR hk hL hS) dX6_refusalOfRows_36 kX6_198 (WW_sh hk) rfl rfl rfl rfl (mc_CR_of (Nat.le_of_ble_eq_true rfl) (Nat.le_of_ble_eq_true rfl) (Nat.le_refl _) (Nat.le_refl _)) (Nat.le_of_ble_eq_true rfl) ?_
      refine e_icmp_ge (pc := 39) dX6_refusalOfRows_39 (t := 63) (by decide) (fun c_39 => absurd c_39 (nI_ge hi2 (by omega))) (fun _ => ?_)
      refine e_aloadn (pc := 42) dX6_refusalOfRows_42 rfl ?_
      refine e_iload (pc := 43) dX6_refusalOfRows_43 rfl ?_
      refine e_cvD (pc := 45) (sp_x_atR hk hL hS hi2) dX6_refusalOfRows_45 kX6_199 (WW_sh hk) rfl rfl rfl rfl (mc_CR_of (Nat.le_of_ble_eq_true rfl) (Nat.le_of_ble_eq_true rfl) (Nat.le_refl _) (Nat.le_refl _)) (Nat.le_of_ble_eq_true rfl) ?_
      refine e_csD (pc := 48) (sp_isNumber) dX6_refusalOfRows_48 kX6_118 rfl rfl (mc_CR_of (Nat.le_of_ble_eq_true rfl) (Nat.le_of_ble_eq_true rfl) (Nat.le_refl _) (Nat.le_refl _)) (Nat.le_of_ble_eq_true rfl) ?_
      refine e_if_ne (pc := 51) dX6_refusalOfRows_51 (t := 57) (by decide) (fun c_51 => ?_) (fun c_51 => ?_)
      · skip
        refine e_incC4 (pc := 57) dX6_refusalOfRows_57 (xh2' (L := i) (by omega)).2.2.2.2 (Nat.le_of_ble_eq_true rfl) rfl ?_
        refine e_goto (pc := 60) dX6_refusalOfRows_60 (t := 33) (by decide) ?_
        rw [show ynum ((xrow s a k).getD (2 * i) 0) = true from mc_b1.mp c_51, Bool.true_and]
        exact ih (i + 1) (by omega) (by omega)
      · skip
        refine e_bipush (v := -2) (pc := 54) dX6_refusalOfRows_54 (by decide) ?_
        exact e_iret (pc := 56) dX6_refusalOfRows_56 rfl (Nat.le_refl _) (Nat.le_refl _) ⟨by rw [show ynum ((xrow s a k).getD (2 * i) 0) = false from mc_b0.mp c_51]; rfl, rfl⟩
    · have ey : yevn (xrow s a k) (f + 1) i = true := if_neg hi2
      rw [ey]
      refine e_iload (pc := 33) dX6_refusalOfRows_33 rfl ?_
      refine e_aloadn (pc := 35) dX6_refusalOfRows_35 rfl ?_
      refine e_cvD (pc := 36) (sp_x_sizeR hk hL hS) dX6_refusalOfRows_36 kX6_198 (WW_sh hk) rfl rfl rfl rfl (mc_CR_of (Nat.le_of_ble_eq_true rfl) (Nat.le_of_ble_eq_true rfl) (Nat.le_refl _) (Nat.le_refl _)) (Nat.le_of_ble_eq_true rfl) ?_
      refine e_icmp_ge (pc := 39) dX6_refusalOfRows_39 (t := 63) (by decide) (fun _ => ?_) (fun c_39 => absurd (nI_le (by omega) (by omega)) c_39)
      refine e_iconst (v := 0) (pc := 63) dX6_refusalOfRows_63 (by decide) ?_
      exact e_iret (pc := 64) dX6_refusalOfRows_64 rfl (Nat.le_refl _) (Nat.le_refl _) ⟨rfl, rfl⟩
theorem sp_x_refRows {s u m n : Nat → Int32} {a c b d : Nat → List Int32} {q : List (Option Nat)} {h : Nat} {z : mc_W} {k : Nat} (hk : k < 4) (hL : xL a) (hS : xS s) : mc_D yX6_refusalOfRows cX6_refusalOfRows 5 (some .int) 5 [.ref 0, .int (nI k)] (WW s a q u c h m b n d z) (some (.int (xsw s a k))) (WW s a q u c h m b n d z) := by
  refine mc_start (own := RX6) (ini := false) rfl (by decide +kernel) (fun h => by cases h) (Nat.le_of_ble_eq_true rfl) ?_
  show mc_E _ _ _ _ _ [some (.ref 0), some (.int (nI k)), none, none, none] [] _ _ _
  have hl40 := (xrow_len hk hL hS).2
  have hz : nI ((xrow s a k).length % 2) = 0 ↔ (xrow s a k).length % 2 = 0 := nI_eq (b := 0) (by omega) (by decide)
  refine e_aloadn (pc := 0) dX6_refusalOfRows_0 rfl ?_
  refine e_iloadn (pc := 1) dX6_refusalOfRows_1 rfl ?_
  refine e_cvD (pc := 2) (sp_x_refSheet hk) dX6_refusalOfRows_2 kX6_228 rfl rfl rfl rfl rfl (mc_CR_of (Nat.le_of_ble_eq_true rfl) (Nat.le_of_ble_eq_true rfl) (Nat.le_refl _) (Nat.le_refl _)) (Nat.le_of_ble_eq_true rfl) ?_
  refine e_isn2 (pc := 5) dX6_refusalOfRows_5 (Nat.le_of_ble_eq_true rfl) rfl ?_
  refine e_iloadn (pc := 6) dX6_refusalOfRows_6 rfl ?_
  refine e_if_eq (pc := 7) dX6_refusalOfRows_7 (t := 12) (by decide) (fun c_7 => ?_) (fun c_7 => ?_)
  · skip
    refine e_aloadn (pc := 12) dX6_refusalOfRows_12 rfl ?_
    refine e_iloadn (pc := 13) dX6_refusalOfRows_13 rfl ?_
    refine e_cvD (pc := 14) (sp_x_sheetAt hk) dX6_refusalOfRows_14 kX6_171 rfl rfl rfl rfl rfl (mc_CR_of (Nat.le_of_ble_eq_true rfl) (Nat.le_of_ble_eq_true rfl) (Nat.le_refl _) (Nat.le_refl _)) (Nat.le_of_ble_eq_true rfl) ?_
    refine e_asn3 (pc := 17) dX6_refusalOfRows_17 (Nat.le_of_ble_eq_true rfl) rfl ?_
    refine e_aloadn (pc := 18) dX6_refusalOfRows_18 rfl ?_
    refine e_cvD (pc := 19) (sp_x_sizeR hk hL hS) dX6_refusalOfRows_19 kX6_198 (WW_sh hk) rfl rfl rfl rfl (mc_CR_of (Nat.le_of_ble_eq_true rfl) (Nat.le_of_ble_eq_true rfl) (Nat.le_refl _) (Nat.le_refl _)) (Nat.le_of_ble_eq_true rfl) ?_
    refine e_iconst (v := 2) (pc := 22) dX6_refusalOfRows_22 (by decide) ?_
    refine e_irem (pc := 23) dX6_refusalOfRows_23 (by decide) ?_
    refine e_top (y := nI ((xrow s a k).length % 2)) (xh2' (L := (xrow s a k).length) (by omega)).2.1 ?_
    refine e_if_eq (pc := 24) dX6_refusalOfRows_24 (t := 30) (by decide) (fun c_24 => ?_) (fun c_24 => ?_)
    · skip
      refine e_iconst (v := 0) (pc := 30) dX6_refusalOfRows_30 (by decide) ?_
      refine e_isw4 (pc := 31) dX6_refusalOfRows_31 (Nat.le_of_ble_eq_true rfl) rfl ?_
      have hm : ¬ xmis s k = true := fun q => by rw [if_pos q] at c_7; exact absurd c_7 (by decide)
      have hev := hz.mp c_24
      have eb : xsw s a k = if yevn (xrow s a k) 21 0 = true then 0 else -2 := by unfold xsw; rw [if_neg hm, if_neg (fun q => q hev)]
      rw [eb, if_neg hm]
      exact lp_x_refRows hev hk hL hS 21 0 (by omega) (by omega)
    · skip
      refine e_bipush (v := -2) (pc := 27) dX6_refusalOfRows_27 (by decide) ?_
      exact e_iret (pc := 29) dX6_refusalOfRows_29 rfl (Nat.le_refl _) (Nat.le_refl _) ⟨by unfold xsw; rw [if_neg (show ¬ xmis s k = true from fun q => by rw [if_pos q] at c_7; exact absurd c_7 (by decide)), if_pos (fun q => c_24 (hz.mpr q))], rfl⟩
  · skip
    refine e_iloadn (pc := 10) dX6_refusalOfRows_10 rfl ?_
    exact e_iret (pc := 11) dX6_refusalOfRows_11 rfl (Nat.le_refl _) (Nat.le_refl _) ⟨by unfold xsw; by_cases hm : xmis s k = true <;> simp_all, rfl⟩
theorem sp_x_refRows0 {s u m n : Nat → Int32} {a c b d : Nat → List Int32} {q : List (Option Nat)} {h : Nat} {z : mc_W} {v : Int32} (hv : mc_wi v 0 3 = false) : mc_D yX6_refusalOfRows cX6_refusalOfRows 5 (some .int) 5 [.ref 0, .int v] (WW s a q u c h m b n d z) (some (.int (-2))) (WW s a q u c h m b n d z) := by
  refine mc_start (own := RX6) (ini := false) rfl (by decide +kernel) (fun h => by cases h) (Nat.le_of_ble_eq_true rfl) ?_
  show mc_E _ _ _ _ _ [some (.ref 0), some (.int v), none, none, none] [] _ _ _
  refine e_aloadn (pc := 0) dX6_refusalOfRows_0 rfl ?_
  refine e_iloadn (pc := 1) dX6_refusalOfRows_1 rfl ?_
  refine e_cvD (pc := 2) (sp_x_refSheet0 hv) dX6_refusalOfRows_2 kX6_228 rfl rfl rfl rfl rfl (mc_CR_of (Nat.le_of_ble_eq_true rfl) (Nat.le_of_ble_eq_true rfl) (Nat.le_refl _) (Nat.le_refl _)) (Nat.le_of_ble_eq_true rfl) ?_
  refine e_isn2 (pc := 5) dX6_refusalOfRows_5 (Nat.le_of_ble_eq_true rfl) rfl ?_
  refine e_iloadn (pc := 6) dX6_refusalOfRows_6 rfl ?_
  refine e_if_eq (pc := 7) dX6_refusalOfRows_7 (t := 12) (by decide) (fun c_7 => absurd c_7 (by decide)) (fun _ => ?_)
  refine e_iloadn (pc := 10) dX6_refusalOfRows_10 rfl ?_
  exact e_iret (pc := 11) dX6_refusalOfRows_11 rfl (Nat.le_refl _) (Nat.le_refl _) ⟨rfl, rfl⟩
def xtw (s : Nat → Int32) (a : Nat → List Int32) (k : Nat) (j : Int32) : Int32 := if ¬ xsw s a k = 0 then xsw s a k else if mc_wi j 0 (s 2 - 1) = true then 0 else -5
theorem sp_x_refRowsBy {s u m n : Nat → Int32} {a c b d : Nat → List Int32} {q : List (Option Nat)} {h : Nat} {z : mc_W} {k : Nat} (hk : k < 4) (hL : xL a) (hS : xS s) {j : Int32} (hC : yC s) : mc_D yX6_refusalOfRowsBy cX6_refusalOfRowsBy 4 (some .int) 6 [.ref 0, .int (nI k), .int j] (WW s a q u c h m b n d z) (some (.int (xtw s a k j))) (WW s a q u c h m b n d z) := by
  refine mc_start (own := RX6) (ini := false) rfl (by decide +kernel) (fun h => by cases h) (Nat.le_of_ble_eq_true rfl) ?_
  show mc_E _ _ _ _ _ [some (.ref 0), some (.int (nI k)), some (.int j), none] [] _ _ _
  refine e_aloadn (pc := 0) dX6_refusalOfRowsBy_0 rfl ?_
  refine e_iloadn (pc := 1) dX6_refusalOfRowsBy_1 rfl ?_
  refine e_cvD (pc := 2) (sp_x_refRows hk hL hS) dX6_refusalOfRowsBy_2 kX6_286 rfl rfl rfl rfl rfl (mc_CR_of (Nat.le_of_ble_eq_true rfl) (Nat.le_of_ble_eq_true rfl) (Nat.le_refl _) (Nat.le_refl _)) (Nat.le_of_ble_eq_true rfl) ?_
  refine e_isn3 (pc := 5) dX6_refusalOfRowsBy_5 (Nat.le_of_ble_eq_true rfl) rfl ?_
  refine e_iloadn (pc := 6) dX6_refusalOfRowsBy_6 rfl ?_
  refine e_if_eq (pc := 7) dX6_refusalOfRowsBy_7 (t := 12) (by decide) (fun c_7 => ?_) (fun c_7 => ?_)
  · skip
    refine e_aloadn (pc := 12) dX6_refusalOfRowsBy_12 rfl ?_
    refine e_iloadn (pc := 13) dX6_refusalOfRowsBy_13 rfl ?_
    refine e_cvD (pc := 14) (sp_x_isClerk hC) dX6_refusalOfRowsBy_14 kX6_115 rfl rfl rfl rfl rfl (mc_CR_of (Nat.le_of_ble_eq_true rfl) (Nat.le_of_ble_eq_true rfl) (Nat.le_refl _) (Nat.le_refl _)) (Nat.le_of_ble_eq_true rfl) ?_
    refine e_if_eq (pc := 17) dX6_refusalOfRowsBy_17 (t := 24) (by decide) (fun c_17 => ?_) (fun c_17 => ?_)
    · skip
      refine e_bipush (v := -5) (pc := 24) dX6_refusalOfRowsBy_24 (by decide) ?_
      exact e_iret (pc := 26) dX6_refusalOfRowsBy_26 rfl (Nat.le_refl _) (Nat.le_refl _) ⟨by simp_all [xtw, mc_b0, mc_b1], rfl⟩
    · skip
      refine e_iconst (v := 0) (pc := 20) dX6_refusalOfRowsBy_20 (by decide) ?_
      refine e_goto (pc := 21) dX6_refusalOfRowsBy_21 (t := 26) (by decide) ?_
      exact e_iret (pc := 26) dX6_refusalOfRowsBy_26 rfl (Nat.le_refl _) (Nat.le_refl _) ⟨by simp_all [xtw, mc_b0, mc_b1], rfl⟩
  · skip
    refine e_iloadn (pc := 10) dX6_refusalOfRowsBy_10 rfl ?_
    exact e_iret (pc := 11) dX6_refusalOfRowsBy_11 rfl (Nat.le_refl _) (Nat.le_refl _) ⟨by simp_all [xtw, mc_b0, mc_b1], rfl⟩
theorem sp_x_refRowsBy0 {s u m n : Nat → Int32} {a c b d : Nat → List Int32} {q : List (Option Nat)} {h : Nat} {z : mc_W} {v j : Int32} (hv : mc_wi v 0 3 = false) : mc_D yX6_refusalOfRowsBy cX6_refusalOfRowsBy 4 (some .int) 6 [.ref 0, .int v, .int j] (WW s a q u c h m b n d z) (some (.int (-2))) (WW s a q u c h m b n d z) := by
  refine mc_start (own := RX6) (ini := false) rfl (by decide +kernel) (fun h => by cases h) (Nat.le_of_ble_eq_true rfl) ?_
  show mc_E _ _ _ _ _ [some (.ref 0), some (.int v), some (.int j), none] [] _ _ _
  refine e_aloadn (pc := 0) dX6_refusalOfRowsBy_0 rfl ?_
  refine e_iloadn (pc := 1) dX6_refusalOfRowsBy_1 rfl ?_
  refine e_cvD (pc := 2) (sp_x_refRows0 hv) dX6_refusalOfRowsBy_2 kX6_286 rfl rfl rfl rfl rfl (mc_CR_of (Nat.le_of_ble_eq_true rfl) (Nat.le_of_ble_eq_true rfl) (Nat.le_refl _) (Nat.le_refl _)) (Nat.le_of_ble_eq_true rfl) ?_
  refine e_isn3 (pc := 5) dX6_refusalOfRowsBy_5 (Nat.le_of_ble_eq_true rfl) rfl ?_
  refine e_iloadn (pc := 6) dX6_refusalOfRowsBy_6 rfl ?_
  refine e_if_eq (pc := 7) dX6_refusalOfRowsBy_7 (t := 12) (by decide) (fun c_7 => absurd c_7 (by decide)) (fun _ => ?_)
  refine e_iloadn (pc := 10) dX6_refusalOfRowsBy_10 rfl ?_
  exact e_iret (pc := 11) dX6_refusalOfRowsBy_11 rfl (Nat.le_refl _) (Nat.le_refl _) ⟨rfl, rfl⟩
/-- every other number of a row is a number to write -/
def xev (row : List Int32) : Prop := row.length ≤ 40 ∧ ∀ i, i < row.length / 2 → mc_wi (row.getD (2 * i) 0) 0 99999 = true
theorem yevn_num {row : List Int32} (hl : row.length ≤ 40) : ∀ f i, i + f = 21 → yevn row f i = true → ∀ j, i ≤ j → j < row.length / 2 → mc_wi (row.getD (2 * j) 0) 0 99999 = true := by
  intro f
  induction f with
  | zero => intro i hi h j h1 h2; omega
  | succ f ih =>
    intro i hi h j h1 h2
    have ey : yevn row (f + 1) i = (ynum (row.getD (2 * i) 0) && yevn row f (i + 1)) := if_pos (by omega)
    rw [ey, Bool.and_eq_true] at h
    by_cases e : j = i
    · rw [e]; exact h.1
    · exact ih (i + 1) (by omega) h.2 j (by omega) h2
theorem xsw_ev {s : Nat → Int32} {a : Nat → List Int32} {k : Nat} (hl : (xrow s a k).length ≤ 40) (h : xsw s a k = 0) : xev (xrow s a k) := by
  unfold xsw at h
  by_cases hm : xmis s k = true
  · rw [if_pos hm] at h; exact absurd h (by decide)
  · rw [if_neg hm] at h
    by_cases h2 : (xrow s a k).length % 2 = 0
    · rw [if_neg (fun q => q h2)] at h
      by_cases ha : yevn (xrow s a k) 21 0 = true
      · exact ⟨hl, fun i hi => yevn_num hl 21 0 (by omega) ha i (by omega) hi⟩
      · rw [if_neg ha] at h; exact absurd h (by decide)
    · rw [if_pos h2] at h; exact absurd h (by decide)
theorem xtw_0 {s : Nat → Int32} {a : Nat → List Int32} {k : Nat} {j : Int32} (h : xtw s a k j = 0) : xsw s a k = 0 ∧ mc_wi j 0 (s 2 - 1) = true := by
  unfold xtw at h
  by_cases h0 : xsw s a k = 0
  · rw [if_neg (fun q => q h0)] at h
    refine ⟨h0, ?_⟩
    by_cases hc : mc_wi j 0 (s 2 - 1) = true
    · exact hc
    · rw [if_neg hc] at h; exact absurd h (by decide)
  · rw [if_pos h0] at h; exact absurd h h0
/-- the first row that says otherwise -/
def xunf (P : Int32 → Int64) (row : List Int32) : Nat → Nat → Int32
  | 0, _ => -1
  | f + 1, i => if P (row.getD (2 * i) 0) = (row.getD (2 * i + 1) 0).toInt64 then xunf P row f (i + 1) else nI i
def xunl (K mo nu ba ye : Int32) (sg : Nat → List Int32) (row : List Int32) : Int32 := xunf (fun v => yrd ba (hwr K mo nu ba ye sg v)) row (row.length / 2) 0
theorem lp_x_first {s m n : Nat → Int32} {a b d : Nat → List Int32} {q : List (Option Nat)} {h : Nat} {z : mc_W} {c0 : Nat → List Int32} {K mo nu ba ye : Int32} {sg : Nat → List Int32} {k : Nat} (hk : k < 4) (hL : xL a) (hS : xS s) {V : Int32} (hN : xev (xrow s a k)) :
    ∀ (f i : Nat) (u : Nat → Int32) (c : Nat → List Int32), xHd q z h u c K mo nu ba ye sg → xKc c0 c → i + f = (xrow s a k).length / 2 → xunf (fun v => yrd ba (hwr K mo nu ba ye sg v)) (xrow s a k) f i = V →
      mc_E RX6 cX6_firstOtherwise 3 (mc_JM (some .int) false 7 0 0 (fun r' w' => r' = some (.int V) ∧ ∃ u1 c1, xHd q z h u1 c1 K mo nu ba ye sg ∧ xKc c0 c1 ∧ w' = (WW s a q u1 c1 h m b n d z))) 2 [some (.ref (21 + 2 * k)), some (.ref 17), some (.int (nI i))] [] (WW s a q u c h m b n d z) 0 0 := by
  have hl40 := hN.1
  intro f
  induction f with
  | zero =>
    intro i u c hH hk0 hi hV
    have e : i = (xrow s a k).length / 2 := by omega
    simp only [xunf] at hV
    subst hV
    refine e_iloadn (pc := 2) dX6_firstOtherwise_2 rfl ?_
    refine e_aloadn (pc := 3) dX6_firstOtherwise_3 rfl ?_
    refine e_cvD (pc := 4) (sp_x_sizeR hk hL hS) dX6_firstOtherwise_4 kX6_198 (WW_sh hk) rfl rfl rfl rfl (mc_CR_of (Nat.le_of_ble_eq_true rfl) (Nat.le_of_ble_eq_true rfl) (Nat.le_refl _) (Nat.le_refl _)) (Nat.le_of_ble_eq_true rfl) ?_
    refine e_iconst (v := 2) (pc := 7) dX6_firstOtherwise_7 (by decide) ?_
    refine e_idiv (pc := 8) dX6_firstOtherwise_8 (by decide) ?_
    refine e_top (y := nI ((xrow s a k).length / 2)) (xh2' (L := (xrow s a k).length) (by omega)).1 ?_
    refine e_icmp_ge (pc := 9) dX6_firstOtherwise_9 (t := 49) (by decide) (fun _ => ?_) (fun c_9 => absurd (nI_le (by omega) (by omega)) c_9)
    refine e_iconst (v := -1) (pc := 49) dX6_firstOtherwise_49 (by decide) ?_
    exact e_iret (pc := 50) dX6_firstOtherwise_50 rfl (Nat.le_refl _) (Nat.le_refl _) ⟨rfl, u, c, hH, hk0, rfl⟩
  | succ f ih =>
    intro i u c hH hk0 hi hV
    simp only [xunf] at hV
    have hi2 : 2 * i < (xrow s a k).length := by omega
    have hi3 : 2 * i + 1 < (xrow s a k).length := by omega
    refine e_iloadn (pc := 2) dX6_firstOtherwise_2 rfl ?_
    refine e_aloadn (pc := 3) dX6_firstOtherwise_3 rfl ?_
    refine e_cvD (pc := 4) (sp_x_sizeR hk hL hS) dX6_firstOtherwise_4 kX6_198 (WW_sh hk) rfl rfl rfl rfl (mc_CR_of (Nat.le_of_ble_eq_true rfl) (Nat.le_of_ble_eq_true rfl) (Nat.le_refl _) (Nat.le_refl _)) (Nat.le_of_ble_eq_true rfl) ?_
    refine e_iconst (v := 2) (pc := 7) dX6_firstOtherwise_7 (by decide) ?_
    refine e_idiv (pc := 8) dX6_firstOtherwise_8 (by decide) ?_
    refine e_top (y := nI ((xrow s a k).length / 2)) (xh2' (L := (xrow s a k).length) (by omega)).1 ?_
    refine e_icmp_ge (pc := 9) dX6_firstOtherwise_9 (t := 49) (by decide) (fun c_9 => absurd c_9 (nI_ge (by omega) (by omega))) (fun _ => ?_)
    refine e_aloadn (pc := 12) dX6_firstOtherwise_12 rfl ?_
    refine e_aloadn (pc := 13) dX6_firstOtherwise_13 rfl ?_
    refine e_iconst (v := 2) (pc := 14) dX6_firstOtherwise_14 (by decide) ?_
    refine e_iloadn (pc := 15) dX6_firstOtherwise_15 rfl ?_
    refine e_imul (pc := 16) dX6_firstOtherwise_16 ?_
    refine e_top (y := nI (2 * i)) (xh2' (L := i) (by omega)).2.2.1 ?_
    refine e_cvD (pc := 17) (sp_x_atR hk hL hS hi2) dX6_firstOtherwise_17 kX6_199 (WW_sh hk) rfl rfl rfl rfl (mc_CR_of (Nat.le_of_ble_eq_true rfl) (Nat.le_of_ble_eq_true rfl) (Nat.le_refl _) (Nat.le_refl _)) (Nat.le_of_ble_eq_true rfl) ?_
    refine e_cvY (pc := 20) (sp_x_write hH (hH.mk (wi_num (hN.2 i (by omega))))) dX6_firstOtherwise_20 kX6_135 rfl rfl rfl rfl rfl (mc_CR_of (Nat.le_of_ble_eq_true rfl) (Nat.le_of_ble_eq_true rfl) (Nat.le_refl _) (Nat.le_refl _)) (Nat.le_of_ble_eq_true rfl) (fun w1 hw1 => ?_)
    obtain ⟨u1, c1, hH1, hk1, hF1, rfl⟩ := hw1
    refine e_aloadn (pc := 23) dX6_firstOtherwise_23 rfl ?_
    refine e_cvD (pc := 24) (sp_x_readPl hH1 hF1) dX6_firstOtherwise_24 kX6_153 rfl rfl rfl rfl rfl (mc_CR_of (Nat.le_of_ble_eq_true rfl) (Nat.le_of_ble_eq_true rfl) (Nat.le_refl _) (Nat.le_refl _)) (Nat.le_of_ble_eq_true rfl) ?_
    refine e_aloadn (pc := 27) dX6_firstOtherwise_27 rfl ?_
    refine e_iconst (v := 2) (pc := 28) dX6_firstOtherwise_28 (by decide) ?_
    refine e_iloadn (pc := 29) dX6_firstOtherwise_29 rfl ?_
    refine e_imul (pc := 30) dX6_firstOtherwise_30 ?_
    refine e_top (y := nI (2 * i)) (xh2' (L := i) (by omega)).2.2.1 ?_
    refine e_iconst (v := 1) (pc := 31) dX6_firstOtherwise_31 (by decide) ?_
    refine e_iadd (pc := 32) dX6_firstOtherwise_32 ?_
    refine e_top (y := nI (2 * i + 1)) (xh2' (L := i) (by omega)).2.2.2.1 ?_
    refine e_cvD (pc := 33) (sp_x_atR hk hL hS hi3) dX6_firstOtherwise_33 kX6_199 (WW_sh hk) rfl rfl rfl rfl (mc_CR_of (Nat.le_of_ble_eq_true rfl) (Nat.le_of_ble_eq_true rfl) (Nat.le_refl _) (Nat.le_refl _)) (Nat.le_of_ble_eq_true rfl) ?_
    refine e_i2l (pc := 36) dX6_firstOtherwise_36 ?_
    refine e_lcmp (pc := 37) dX6_firstOtherwise_37 ?_
    refine e_if_eq (pc := 38) dX6_firstOtherwise_38 (t := 43) (by decide) (fun c_38 => ?_) (fun c_38 => ?_)
    · skip
      refine e_incC2 (pc := 43) dX6_firstOtherwise_43 (nI_1 i) (Nat.le_of_ble_eq_true rfl) rfl ?_
      refine e_goto (pc := 46) dX6_firstOtherwise_46 (t := 2) (by decide) ?_
      exact ih (i + 1) u1 c1 hH1 (hk0.trans hk1) (by omega) (by rw [← hV, if_pos (mc_cmp_eq.mp c_38)])
    · skip
      refine e_iloadn (pc := 41) dX6_firstOtherwise_41 rfl ?_
      exact e_iret (pc := 42) dX6_firstOtherwise_42 rfl (Nat.le_refl _) (Nat.le_refl _) ⟨by rw [← hV, if_neg (fun q => c_38 (mc_cmp_eq.mpr q))], u1, c1, hH1, hk0.trans hk1, rfl⟩
theorem sp_x_first {s u m n : Nat → Int32} {a c b d : Nat → List Int32} {q : List (Option Nat)} {h : Nat} {z : mc_W} {K mo nu ba ye : Int32} {sg : Nat → List Int32} (hH : xHd q z h u c K mo nu ba ye sg) {k : Nat} (hk : k < 4) (hL : xL a) (hS : xS s) (hN : xev (xrow s a k)) : mc_T yX6_firstOtherwise cX6_firstOtherwise 3 (some .int) 7 [.ref (21 + 2 * k), .ref 17] (WW s a q u c h m b n d z) (some (.int (xunl K mo nu ba ye sg (xrow s a k)))) (fun w1 => ∃ u1 c1, xHd q z h u1 c1 K mo nu ba ye sg ∧ xKc c c1 ∧ w1 = (WW s a q u1 c1 h m b n d z)) := by
  refine mc_start (own := RX6) (ini := false) rfl (by decide +kernel) (fun h => by cases h) (Nat.le_of_ble_eq_true rfl) ?_
  show mc_E _ _ _ _ _ [some (.ref (21 + 2 * k)), some (.ref 17), none] [] _ _ _
  refine e_iconst (v := 0) (pc := 0) dX6_firstOtherwise_0 (by decide) ?_
  refine e_isn2 (pc := 1) dX6_firstOtherwise_1 (Nat.le_of_ble_eq_true rfl) rfl ?_
  exact lp_x_first hk hL hS hN _ 0 u c hH (xKc_refl c) (by omega) rfl
def xbit (x n : Int32) : Int32 := if x = -1 then (1 : Int32) <<< (n &&& 31) else 0
theorem sp_x_bitOf {s u m n : Nat → Int32} {a c b d : Nat → List Int32} {q : List (Option Nat)} {h : Nat} {z : mc_W} {K mo nu ba ye : Int32} {sg : Nat → List Int32} {nn : Int32} (hH : xHd q z h u c K mo nu ba ye sg) {k : Nat} (hk : k < 4) (hL : xL a) (hS : xS s) (hN : xev (xrow s a k)) : mc_T yX6_bitOf cX6_bitOf 3 (some .int) 8 [.int nn, .ref (21 + 2 * k), .ref 17] (WW s a q u c h m b n d z) (some (.int (xbit (xunl K mo nu ba ye sg (xrow s a k)) nn))) (fun w1 => ∃ u1 c1, xHd q z h u1 c1 K mo nu ba ye sg ∧ xKc c c1 ∧ w1 = (WW s a q u1 c1 h m b n d z)) := by
  refine mc_start (own := RX6) (ini := false) rfl (by decide +kernel) (fun h => by cases h) (Nat.le_of_ble_eq_true rfl) ?_
  show mc_E _ _ _ _ _ [some (.int nn), some (.ref (21 + 2 * k)), some (.ref 17)] [] _ _ _
  refine e_aloadn (pc := 0) dX6_bitOf_0 rfl ?_
  refine e_aloadn (pc := 1) dX6_bitOf_1 rfl ?_
  refine e_csX (pc := 2) (sp_x_first hH hk hL hS hN) dX6_bitOf_2 kX6_278 rfl rfl (mc_CR_of (Nat.le_of_ble_eq_true rfl) (Nat.le_of_ble_eq_true rfl) (Nat.le_refl _) (Nat.le_refl _)) (Nat.le_of_ble_eq_true rfl) (fun w1 hw1 => ?_)
  obtain ⟨u1, c1, hH1, hk1, rfl⟩ := hw1
  refine e_iconst (v := -1) (pc := 5) dX6_bitOf_5 (by decide) ?_
  refine e_icmp_ne (pc := 6) dX6_bitOf_6 (t := 15) (by decide) (fun c_6 => ?_) (fun c_6 => ?_)
  · skip
    refine e_iconst (v := 0) (pc := 15) dX6_bitOf_15 (by decide) ?_
    exact e_iret (pc := 16) dX6_bitOf_16 rfl (Nat.le_refl _) (Nat.le_refl _) ⟨by unfold xbit; rw [if_neg c_6], u1, c1, hH1, hk1, rfl⟩
  · skip
    refine e_iconst (v := 1) (pc := 9) dX6_bitOf_9 (by decide) ?_
    refine e_iloadn (pc := 10) dX6_bitOf_10 rfl ?_
    refine e_ishl (pc := 11) dX6_bitOf_11 ?_
    refine e_goto (pc := 12) dX6_bitOf_12 (t := 16) (by decide) ?_
    exact e_iret (pc := 16) dX6_bitOf_16 rfl (Nat.le_refl _) (Nat.le_refl _) ⟨by unfold xbit; rw [if_pos c_6], u1, c1, hH1, hk1, rfl⟩
def xjudge (s : Nat → Int32) (a : Nat → List Int32) (sg : Nat → List Int32) (k : Nat) (j : Int32) : Int32 := if ¬ xtw s a k j = 0 then xtw s a k j else xunl (gt (a 0) j) (gt (a 1) j) j (s 0) (s 1) sg (xrow s a k)
theorem sp_x_judge {s u m n : Nat → Int32} {a c b d : Nat → List Int32} {q : List (Option Nat)} {h : Nat} {z : mc_W} {T : Nat} {sg : Nat → Nat → List Int32} {k : Nat} (hk : k < 4) (hS : xS s) {j : Int32} (hO : xOK s a q c z T sg) : mc_T yX6_judge cX6_judge 4 (some .int) 8 [.ref 0, .int (nI k), .int j] (WW s a q u c h m b n d z) (some (.int (xjudge s a (sg (tl s)) k j))) (fun w1 => ∃ u1 c1 h1, xC c1 ∧ w1 = (WW s a q u1 c1 h1 m b n d z)) := by
  refine mc_start (own := RX6) (ini := false) rfl (by decide +kernel) (fun h => by cases h) (Nat.le_of_ble_eq_true rfl) ?_
  show mc_E _ _ _ _ _ [some (.ref 0), some (.int (nI k)), some (.int j), none] [] _ _ _
  have hL := hO.1
  have hl40 := (xrow_len hk hL hS).2
  refine e_aloadn (pc := 0) dX6_judge_0 rfl ?_
  refine e_iloadn (pc := 1) dX6_judge_1 rfl ?_
  refine e_iloadn (pc := 2) dX6_judge_2 rfl ?_
  refine e_cvD (pc := 3) (sp_x_refRowsBy hk hL hS hO.2.1) dX6_judge_3 kX6_275 rfl rfl rfl rfl rfl (mc_CR_of (Nat.le_of_ble_eq_true rfl) (Nat.le_of_ble_eq_true rfl) (Nat.le_refl _) (Nat.le_refl _)) (Nat.le_of_ble_eq_true rfl) ?_
  refine e_isn3 (pc := 6) dX6_judge_6 (Nat.le_of_ble_eq_true rfl) rfl ?_
  refine e_iloadn (pc := 7) dX6_judge_7 rfl ?_
  refine e_if_eq (pc := 8) dX6_judge_8 (t := 13) (by decide) (fun c_8 => ?_) (fun c_8 => ?_)
  · skip
    refine e_aloadn (pc := 13) dX6_judge_13 rfl ?_
    refine e_iloadn (pc := 14) dX6_judge_14 rfl ?_
    refine e_cvD (pc := 15) (sp_x_sheetAt hk) dX6_judge_15 kX6_171 rfl rfl rfl rfl rfl (mc_CR_of (Nat.le_of_ble_eq_true rfl) (Nat.le_of_ble_eq_true rfl) (Nat.le_refl _) (Nat.le_refl _)) (Nat.le_of_ble_eq_true rfl) ?_
    refine e_aloadn (pc := 18) dX6_judge_18 rfl ?_
    refine e_iloadn (pc := 19) dX6_judge_19 rfl ?_
    refine e_cvX (pc := 20) (sp_x_handOf hO (xtw_0 c_8).2) dX6_judge_20 kX6_121 rfl rfl rfl rfl rfl (mc_CR_of (Nat.le_of_ble_eq_true rfl) (Nat.le_of_ble_eq_true rfl) (Nat.le_refl _) (Nat.le_refl _)) (Nat.le_of_ble_eq_true rfl) (fun w1 hw1 => ?_)
    obtain ⟨u1, c1, hH, hk1, rfl⟩ := hw1
    refine e_csX (pc := 23) (sp_x_first hH hk hL hS (xsw_ev hl40 (xtw_0 c_8).1)) dX6_judge_23 kX6_278 rfl rfl (mc_CR_of (Nat.le_of_ble_eq_true rfl) (Nat.le_of_ble_eq_true rfl) (Nat.le_refl _) (Nat.le_refl _)) (Nat.le_of_ble_eq_true rfl) (fun w1 hw1 => ?_)
    obtain ⟨u2, c2, hH2, hk2, rfl⟩ := hw1
    exact e_iret (pc := 26) dX6_judge_26 rfl (Nat.le_refl _) (Nat.le_refl _) ⟨by unfold xjudge; rw [if_neg (show ¬ ¬ xtw s a k j = 0 from fun q => q c_8)], u2, c2, _, hH2.C (hk1.trans hk2) hO.2.2.2.2.2.1, rfl⟩
  · skip
    refine e_iloadn (pc := 11) dX6_judge_11 rfl ?_
    exact e_iret (pc := 12) dX6_judge_12 rfl (Nat.le_refl _) (Nat.le_refl _) ⟨by unfold xjudge; rw [if_pos (show ¬ xtw s a k j = 0 from c_8)], u, c, h, hO.2.2.2.2.2.1, rfl⟩
theorem sp_x_judge0 {s u m n : Nat → Int32} {a c b d : Nat → List Int32} {q : List (Option Nat)} {h : Nat} {z : mc_W} {j : Int32} {x0 : Int32} (hv : mc_wi x0 0 3 = false) : mc_D yX6_judge cX6_judge 4 (some .int) 7 [.ref 0, .int x0, .int j] (WW s a q u c h m b n d z) (some (.int (-2))) (WW s a q u c h m b n d z) := by
  refine mc_start (own := RX6) (ini := false) rfl (by decide +kernel) (fun h => by cases h) (Nat.le_of_ble_eq_true rfl) ?_
  show mc_E _ _ _ _ _ [some (.ref 0), some (.int x0), some (.int j), none] [] _ _ _
  refine e_aloadn (pc := 0) dX6_judge_0 rfl ?_
  refine e_iloadn (pc := 1) dX6_judge_1 rfl ?_
  refine e_iloadn (pc := 2) dX6_judge_2 rfl ?_
  refine e_cvD (pc := 3) (sp_x_refRowsBy0 hv) dX6_judge_3 kX6_275 rfl rfl rfl rfl rfl (mc_CR_of (Nat.le_of_ble_eq_true rfl) (Nat.le_of_ble_eq_true rfl) (Nat.le_refl _) (Nat.le_refl _)) (Nat.le_of_ble_eq_true rfl) ?_
  refine e_isn3 (pc := 6) dX6_judge_6 (Nat.le_of_ble_eq_true rfl) rfl ?_
  refine e_iloadn (pc := 7) dX6_judge_7 rfl ?_
  refine e_if_eq (pc := 8) dX6_judge_8 (t := 13) (by decide) (fun c_8 => absurd c_8 (by decide)) (fun _ => ?_)
  refine e_iloadn (pc := 11) dX6_judge_11 rfl ?_
  exact e_iret (pc := 12) dX6_judge_12 rfl (Nat.le_refl _) (Nat.le_refl _) ⟨rfl, rfl⟩
theorem ybits_s (off : Nat → Int32) (f i : Nat) (acc : Int32) : ybits off (f + 1) i acc = ybits off f (i + 1) (acc ||| xbit (off i) (nI i)) := rfl
def xwhf (s : Nat → Int32) (a : Nat → List Int32) (sg : Nat → List Int32) (k : Nat) (i : Nat) : Int32 := xunl (gt (a 0) (nI i)) (gt (a 1) (nI i)) (nI i) (s 0) (s 1) sg (xrow s a k)
def xwhose (s : Nat → Int32) (a : Nat → List Int32) (sg : Nat → List Int32) (k : Nat) : Int32 := if ¬ xsw s a k = 0 then xsw s a k else ybits (xwhf s a sg k) (s 2).toNatClampNeg 0 0
theorem lp_x_whose {s m n : Nat → Int32} {a b d : Nat → List Int32} {q : List (Option Nat)}  {z : mc_W} {T : Nat} {sg : Nat → Nat → List Int32} {k : Nat} {V : Int32} {N : Nat} (hk : k < 4) (hS : xS s) (hE : xev (xrow s a k)) (hN : s 2 = nI N) (hN5 : N ≤ 5) :
    ∀ (f i : Nat) (acc : Int32) (u : Nat → Int32) (c : Nat → List Int32) (h : Nat), xOK s a q c z T sg → i + f = N → ybits (xwhf s a (sg (tl s)) k) f i acc = V →
      mc_E RX6 cX6_whose 5 (mc_JM (some .int) false 9 0 0 (fun r' w' => r' = some (.int V) ∧ ∃ u1 c1 h1, xC c1 ∧ w' = (WW s a q u1 c1 h1 m b n d z))) 17 [some (.ref 0), some (.int (nI k)), some (.int 0), some (.int acc), some (.int (nI i))] [] (WW s a q u c h m b n d z) 0 0 := by
  intro f
  induction f with
  | zero =>
    intro i acc u c h hO hi hV
    have e : i = N := by omega
    subst e
    simp only [ybits] at hV
    subst hV
    refine e_iload (pc := 17) dX6_whose_17 rfl ?_
    refine e_aloadn (pc := 19) dX6_whose_19 rfl ?_
    refine e_get (pc := 20) dX6_whose_20 fX6_76 rfl rfl ?_
    refine e_icmp_ge (pc := 23) dX6_whose_23 (t := 51) (by decide) (fun _ => ?_) (fun c_23 => absurd (by rw [hN]; exact nI_le (Nat.le_refl _) (by omega)) c_23)
    refine e_iloadn (pc := 51) dX6_whose_51 rfl ?_
    exact e_iret (pc := 52) dX6_whose_52 rfl (Nat.le_refl _) (Nat.le_refl _) ⟨rfl, u, c, h, hO.2.2.2.2.2.1, rfl⟩
  | succ f ih =>
    intro i acc u c h hO hi hV
    rw [ybits_s] at hV
    have hL := hO.1
    have hi2 : i < N := by omega
    have hck : mc_wi (nI i) 0 (s 2 - 1) = true := by rw [hN, mc_wi_iff, i0, nI_toInt (by omega), i32_sub (by rw [nI_toInt (by omega)]; omega) (by decide), nI_toInt (by omega), i1]; omega
    refine e_iload (pc := 17) dX6_whose_17 rfl ?_
    refine e_aloadn (pc := 19) dX6_whose_19 rfl ?_
    refine e_get (pc := 20) dX6_whose_20 fX6_76 rfl rfl ?_
    refine e_icmp_ge (pc := 23) dX6_whose_23 (t := 51) (by decide) (fun c_23 => absurd c_23 (by rw [hN]; exact nI_ge hi2 (by omega))) (fun _ => ?_)
    refine e_iloadn (pc := 26) dX6_whose_26 rfl ?_
    refine e_iload (pc := 27) dX6_whose_27 rfl ?_
    refine e_aloadn (pc := 29) dX6_whose_29 rfl ?_
    refine e_iloadn (pc := 30) dX6_whose_30 rfl ?_
    refine e_cvD (pc := 31) (sp_x_sheetAt hk) dX6_whose_31 kX6_171 rfl rfl rfl rfl rfl (mc_CR_of (Nat.le_of_ble_eq_true rfl) (Nat.le_of_ble_eq_true rfl) (Nat.le_refl _) (Nat.le_refl _)) (Nat.le_of_ble_eq_true rfl) ?_
    refine e_aloadn (pc := 34) dX6_whose_34 rfl ?_
    refine e_iload (pc := 35) dX6_whose_35 rfl ?_
    refine e_cvX (pc := 37) (sp_x_handOf hO hck) dX6_whose_37 kX6_121 rfl rfl rfl rfl rfl (mc_CR_of (Nat.le_of_ble_eq_true rfl) (Nat.le_of_ble_eq_true rfl) (Nat.le_refl _) (Nat.le_refl _)) (Nat.le_of_ble_eq_true rfl) (fun w1 hw1 => ?_)
    obtain ⟨u1, c1, hH, hk1, rfl⟩ := hw1
    refine e_csX (pc := 40) (sp_x_bitOf hH hk hL hS hE) dX6_whose_40 kX6_282 rfl rfl (mc_CR_of (Nat.le_of_ble_eq_true rfl) (Nat.le_of_ble_eq_true rfl) (Nat.le_refl _) (Nat.le_refl _)) (Nat.le_of_ble_eq_true rfl) (fun w1 hw1 => ?_)
    obtain ⟨u2, c2, hH2, hk2, rfl⟩ := hw1
    refine e_ior (pc := 43) dX6_whose_43 ?_
    refine e_isn3 (pc := 44) dX6_whose_44 (Nat.le_of_ble_eq_true rfl) rfl ?_
    refine e_incC4 (pc := 45) dX6_whose_45 (nI_1 i) (Nat.le_of_ble_eq_true rfl) rfl ?_
    refine e_goto (pc := 48) dX6_whose_48 (t := 17) (by decide) ?_
    exact ih (i + 1) _ _ _ _ (hO.c (hH2.C (hk1.trans hk2) hO.2.2.2.2.2.1)) (by omega) hV
theorem sp_x_whose {s u m n : Nat → Int32} {a c b d : Nat → List Int32} {q : List (Option Nat)} {h : Nat} {z : mc_W} {T : Nat} {sg : Nat → Nat → List Int32} {k : Nat} (hk : k < 4) (hS : xS s)  (hO : xOK s a q c z T sg) : mc_T yX6_whose cX6_whose 5 (some .int) 9 [.ref 0, .int (nI k)] (WW s a q u c h m b n d z) (some (.int (xwhose s a (sg (tl s)) k))) (fun w1 => ∃ u1 c1 h1, xC c1 ∧ w1 = (WW s a q u1 c1 h1 m b n d z)) := by
  refine mc_start (own := RX6) (ini := false) rfl (by decide +kernel) (fun h => by cases h) (Nat.le_of_ble_eq_true rfl) ?_
  show mc_E _ _ _ _ _ [some (.ref 0), some (.int (nI k)), none, none, none] [] _ _ _
  have hL := hO.1
  have hl40 := (xrow_len hk hL hS).2
  refine e_aloadn (pc := 0) dX6_whose_0 rfl ?_
  refine e_iloadn (pc := 1) dX6_whose_1 rfl ?_
  refine e_cvD (pc := 2) (sp_x_refRows hk hL hS) dX6_whose_2 kX6_286 rfl rfl rfl rfl rfl (mc_CR_of (Nat.le_of_ble_eq_true rfl) (Nat.le_of_ble_eq_true rfl) (Nat.le_refl _) (Nat.le_refl _)) (Nat.le_of_ble_eq_true rfl) ?_
  refine e_isn2 (pc := 5) dX6_whose_5 (Nat.le_of_ble_eq_true rfl) rfl ?_
  refine e_iloadn (pc := 6) dX6_whose_6 rfl ?_
  refine e_if_eq (pc := 7) dX6_whose_7 (t := 12) (by decide) (fun c_7 => ?_) (fun c_7 => ?_)
  · skip
    refine e_iconst (v := 0) (pc := 12) dX6_whose_12 (by decide) ?_
    refine e_isn3 (pc := 13) dX6_whose_13 (Nat.le_of_ble_eq_true rfl) rfl ?_
    refine e_iconst (v := 0) (pc := 14) dX6_whose_14 (by decide) ?_
    refine e_isw4 (pc := 15) dX6_whose_15 (Nat.le_of_ble_eq_true rfl) rfl ?_
    have e : xwhose s a (sg (tl s)) k = ybits (xwhf s a (sg (tl s)) k) (s 2).toNatClampNeg 0 0 := if_neg (fun q => q c_7)
    rw [e, show xsw s a k = 0 from c_7]
    have hC := hO.2.1
    have tn := tnc hC.1
    exact lp_x_whose (N := (s 2).toNatClampNeg) hk hS (xsw_ev hl40 c_7) (nI_back hC.1) (by have := hC.2; omega) _ 0 0 u c h hO (by omega) rfl
  · skip
    refine e_iloadn (pc := 10) dX6_whose_10 rfl ?_
    exact e_iret (pc := 11) dX6_whose_11 rfl (Nat.le_refl _) (Nat.le_refl _) ⟨by unfold xwhose; rw [if_pos (show ¬ xsw s a k = 0 from c_7)], u, c, h, hO.2.2.2.2.2.1, rfl⟩
theorem sp_x_whose0 {s u m n : Nat → Int32} {a c b d : Nat → List Int32} {q : List (Option Nat)} {h : Nat} {z : mc_W}  {x0 : Int32} (hv : mc_wi x0 0 3 = false) : mc_D yX6_whose cX6_whose 5 (some .int) 6 [.ref 0, .int x0] (WW s a q u c h m b n d z) (some (.int (-2))) (WW s a q u c h m b n d z) := by
  refine mc_start (own := RX6) (ini := false) rfl (by decide +kernel) (fun h => by cases h) (Nat.le_of_ble_eq_true rfl) ?_
  show mc_E _ _ _ _ _ [some (.ref 0), some (.int x0), none, none, none] [] _ _ _
  refine e_aloadn (pc := 0) dX6_whose_0 rfl ?_
  refine e_iloadn (pc := 1) dX6_whose_1 rfl ?_
  refine e_cvD (pc := 2) (sp_x_refRows0 hv) dX6_whose_2 kX6_286 rfl rfl rfl rfl rfl (mc_CR_of (Nat.le_of_ble_eq_true rfl) (Nat.le_of_ble_eq_true rfl) (Nat.le_refl _) (Nat.le_refl _)) (Nat.le_of_ble_eq_true rfl) ?_
  refine e_isn2 (pc := 5) dX6_whose_5 (Nat.le_of_ble_eq_true rfl) rfl ?_
  refine e_iloadn (pc := 6) dX6_whose_6 rfl ?_
  refine e_if_eq (pc := 7) dX6_whose_7 (t := 12) (by decide) (fun c_7 => absurd c_7 (by decide)) (fun _ => ?_)
  refine e_iloadn (pc := 10) dX6_whose_10 rfl ?_
  exact e_iret (pc := 11) dX6_whose_11 rfl (Nat.le_refl _) (Nat.le_refl _) ⟨rfl, rfl⟩
