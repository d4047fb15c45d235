/-! books -/
def ySh (b : Nat → List Int32) : Prop := ∀ i, i < 4 → (-1 ≤ ((b 7).getD i 0).toInt ∧ ((b 7).getD i 0).toInt ≤ 2) ∧ 0 ≤ ((b 8).getD i 0).toInt ∧ ((b 8).getD i 0).toInt ≤ 40
/-- the numbers of row s of the host's -/
def yrow (b : Nat → List Int32) (s : Int32) : List Int32 := ((b 9).drop (40 * s.toNatClampNeg)).take (gt (b 8) s).toNatClampNeg
theorem drop_cons {l r : List Int32} {k : Nat} {x : Int32} (h : l.drop k = x :: r) : l.getD k 0 = x ∧ l.drop (k + 1) = r ∧ k < l.length := by
  have hk : k < l.length := by
    have := congrArg List.length h
    rw [List.length_drop] at this
    simp at this
    omega
  have h0 : (l.drop k)[0]? = some x := by rw [h]; rfl
  rw [List.getElem?_drop, Nat.add_zero] at h0
  refine ⟨by rw [List.getD_eq_getElem?_getD, h0]; rfl, ?_, hk⟩
  have := congrArg (List.drop 1) h
  rw [List.drop_drop] at this
  exact this
theorem yrow_facts {b : Nat → List Int32} {s : Int32} (hL : yL b) (hS : ySh b) (hs : mc_wi s 0 3 = true) : ∃ sz : Nat, sz ≤ 40 ∧ (yrow b s).length = sz ∧ vp_in s (b 7).length ∧ vp_in s (b 8).length ∧ (b 8).getD s.toNatClampNeg 0 = nI sz ∧
    (∀ k : Nat, k < 40 → vp_in (40 * s + nI k) (b 9).length) ∧ ∀ k : Nat, k < sz → (b 9).getD (40 * s + nI k).toNatClampNeg 0 = (yrow b s).getD k 0 := by
  have hs4 : vp_in s 4 := vp_in_w2 hs (by decide) (by decide)
  obtain ⟨σ, h4, rfl⟩ := vp_in_of hs4 (by decide)
  have hc : (nI σ).toNatClampNeg = σ := nIc (by omega)
  obtain ⟨-, h1, h2⟩ := hS σ h4
  have e := nI_back h1
  have t := tnc h1
  have hx : ∀ k : Nat, k < 40 → (40 : Int32) * nI σ + nI k = nI (40 * σ + k) := fun k hk => by rw [show (40 : Int32) * nI σ = nI (40 * σ) from pk_mul 40 σ, nI_add]
  have hsz : (gt (b 8) (nI σ)).toNatClampNeg = ((b 8).getD σ 0).toNatClampNeg := by unfold gt; rw [hc]
  refine ⟨((b 8).getD σ 0).toNatClampNeg, by omega, ?_, by rw [hL.2.2.2.2.2.2.2.1]; exact hs4, by rw [hL.2.2.2.2.2.2.2.2.1]; exact hs4, by rw [hc]; exact e, fun k hk => ?_, fun k hk => ?_⟩
  · unfold yrow
    rw [List.length_take, List.length_drop, hL.2.2.2.2.2.2.2.2.2, hsz, hc]
    omega
  · rw [hx k hk, hL.2.2.2.2.2.2.2.2.2]; exact vp_in_nI (by omega) (by decide)
  · rw [hx k (by omega), nIc (by omega)]
    unfold yrow
    rw [hsz, hc, List.getD_eq_getElem?_getD, List.getD_eq_getElem?_getD, List.getElem?_take, if_pos hk, List.getElem?_drop]
theorem wi_nI {i : Nat} {m2 : Int32} (h : (i : Int) < m2.toInt) : mc_wi (nI i) 0 (m2 - 1) = true := by
  have hl := m2.toInt_lt
  rw [mc_wi_iff, Int32.toInt_sub, show (1 : Int32).toInt = 1 from rfl, show (0 : Int32).toInt = 0 from rfl, nI_toInt (by omega), Int.bmod_eq_of_le (by omega) (by omega)]
  omega
theorem mc_clt_of {x y : Int64} (h : ¬ 0 ≤ lg_cmp x y) : x < y := by
  by_cases h1 : x < y
  · exact h1
  · refine absurd (mc_cmp_ge.mpr ?_) h
    by_cases h2 : y < x
    · exact Or.inl h2
    · exact Or.inr (Int64.le_antisymm (Int64.not_lt.mp h2) (Int64.not_lt.mp h1))
theorem mc_cnl_of {x y : Int64} (h : 0 ≤ lg_cmp x y) : ¬ x < y := by
  rcases mc_cmp_ge.mp h with h | h
  · exact fun q => absurd (Int64.lt_trans h q) (Int64.lt_irrefl)
  · rw [h]; exact Int64.lt_irrefl
def ynum (v : Int32) : Bool := mc_wi v 0 99999
def ybw (b : Nat → List Int32) (s : Int32) : Int32 := if mc_wi s 0 3 = false then -2 else if gt (b 7) s = -1 then -11 else if (yrow b s).all ynum = true then 0 else -2
theorem lp_y_bookWrong {s u m n : Nat → Int32} {a c b d : Nat → List Int32} {q : List (Option Nat)} {h : Nat} {z : mc_W} {s0 V : Int32} (hL : yL b) (hS : ySh b) (hs : mc_wi s0 0 3 = true) :
    ∀ (r : List Int32) (k : Nat), (yrow b s0).drop k = r → k ≤ (yrow b s0).length → (if r.all ynum = true then 0 else -2) = V →
      mc_E RX7 cX7_bookWrong 3 (mc_JM (some .int) false 3 0 0 (fun r' w' => r' = some (.int V) ∧ w' = WW s a q u c h m b n d z)) 27 [some (.ref 29), some (.int s0), some (.int (nI k))] [] (WW s a q u c h m b n d z) 0 0 := by
  obtain ⟨sz, hz, hlen, i7, i8, e8, i9, e9⟩ := yrow_facts hL hS hs
  intro r
  induction r with
  | nil =>
    intro k hk hkl hV
    have hkz : k = sz := by
      have := congrArg List.length hk
      rw [List.length_drop] at this
      simp at this
      omega
    refine e_iloadn (pc := 27) dX7_bookWrong_27 rfl ?_
    refine e_aloadn (pc := 28) dX7_bookWrong_28 rfl ?_
    refine e_get (pc := 29) dX7_bookWrong_29 fX7_41 rfl rfl ?_
    refine e_iloadn (pc := 32) dX7_bookWrong_32 rfl ?_
    refine aldv_sheetSize (pc := 33) dX7_bookWrong_33 i8 e8 ?_
    refine e_icmp_ge (pc := 34) dX7_bookWrong_34 (t := 63) (by decide) (fun _ => ?_) (fun c_34 => absurd (by rw [hkz]; exact nI_le (Nat.le_refl _) (by omega)) c_34)
    refine e_iconst (v := 0) (pc := 63) dX7_bookWrong_63 (by decide) ?_
    exact e_iret (pc := 64) dX7_bookWrong_64 rfl (Nat.le_refl _) (Nat.le_refl _) ⟨by rw [← hV]; rfl, rfl⟩
  | cons x r ih =>
    intro k hk hkl hV
    obtain ⟨g1, g2, g3⟩ := drop_cons hk
    rw [hlen] at g3
    have ex : (b 9).getD (40 * s0 + nI k).toNatClampNeg 0 = x := (e9 k g3).trans g1
    refine e_iloadn (pc := 27) dX7_bookWrong_27 rfl ?_
    refine e_aloadn (pc := 28) dX7_bookWrong_28 rfl ?_
    refine e_get (pc := 29) dX7_bookWrong_29 fX7_41 rfl rfl ?_
    refine e_iloadn (pc := 32) dX7_bookWrong_32 rfl ?_
    refine aldv_sheetSize (pc := 33) dX7_bookWrong_33 i8 e8 ?_
    refine e_icmp_ge (pc := 34) dX7_bookWrong_34 (t := 63) (by decide) (fun c_34 => absurd c_34 (nI_ge g3 (by omega))) (fun _ => ?_)
    refine e_aloadn (pc := 37) dX7_bookWrong_37 rfl ?_
    refine e_get (pc := 38) dX7_bookWrong_38 fX7_44 rfl rfl ?_
    refine e_bipush (v := 40) (pc := 41) dX7_bookWrong_41 (by decide) ?_
    refine e_iloadn (pc := 43) dX7_bookWrong_43 rfl ?_
    refine e_imul (pc := 44) dX7_bookWrong_44 ?_
    refine e_iloadn (pc := 45) dX7_bookWrong_45 rfl ?_
    refine e_iadd (pc := 46) dX7_bookWrong_46 ?_
    refine aldv_ycells (pc := 47) dX7_bookWrong_47 (i9 k (by omega)) ex ?_
    refine e_csD (pc := 48) (sp_y_isNumber) dX7_bookWrong_48 kX7_162 rfl rfl (mc_CR_of (Nat.le_of_ble_eq_true rfl) (Nat.le_of_ble_eq_true rfl) (Nat.le_refl _) (Nat.le_refl _)) (Nat.le_of_ble_eq_true rfl) ?_
    refine e_if_ne (pc := 51) dX7_bookWrong_51 (t := 57) (by decide) (fun c_51 => ?_) (fun c_51 => ?_)
    · skip
      refine e_incC2 (pc := 57) dX7_bookWrong_57 (nI_1 k) (Nat.le_of_ble_eq_true rfl) rfl ?_
      refine e_goto (pc := 60) dX7_bookWrong_60 (t := 27) (by decide) ?_
      exact ih (k + 1) g2 (by omega) (by rw [← hV, List.all_cons, show ynum x = true from mc_b1.mp c_51]; rfl)
    · skip
      refine e_bipush (v := -2) (pc := 54) dX7_bookWrong_54 (by decide) ?_
      exact e_iret (pc := 56) dX7_bookWrong_56 rfl (Nat.le_refl _) (Nat.le_refl _) ⟨by have q : ynum x = false := mc_b0.mp c_51; rw [← hV, List.all_cons, q]; rfl, rfl⟩
theorem sp_y_bookWrong {s u m n : Nat → Int32} {a c b d : Nat → List Int32} {q : List (Option Nat)} {h : Nat} {z : mc_W} {s0 : Int32} (hL : yL b) (hS : ySh b) : mc_D yX7_bookWrong cX7_bookWrong 3 (some .int) 3 [.ref 29, .int s0] (WW s a q u c h m b n d z) (some (.int (ybw b s0))) (WW s a q u c h m b n d z) := by
  refine mc_start (own := RX7) (ini := false) rfl (by decide +kernel) (fun h => by cases h) (Nat.le_of_ble_eq_true rfl) ?_
  show mc_E _ _ _ _ _ [some (.ref 29), some (.int s0), none] [] _ _ _
  have i7 : mc_wi s0 0 3 = true → vp_in s0 (b 7).length := fun hs => (yrow_facts hL hS hs).choose_spec.2.2.1
  refine e_iloadn (pc := 0) dX7_bookWrong_0 rfl ?_
  refine e_iconst (v := 0) (pc := 1) dX7_bookWrong_1 (by decide) ?_
  refine e_iconst (v := 3) (pc := 2) dX7_bookWrong_2 (by decide) ?_
  refine e_csD (pc := 3) (sp_y_in) dX7_bookWrong_3 kX7_75 rfl rfl (mc_CR_of (Nat.le_of_ble_eq_true rfl) (Nat.le_of_ble_eq_true rfl) (Nat.le_refl _) (Nat.le_refl _)) (Nat.le_of_ble_eq_true rfl) ?_
  refine e_if_ne (pc := 6) dX7_bookWrong_6 (t := 12) (by decide) (fun c_6 => ?_) (fun c_6 => ?_)
  · skip
    refine e_aloadn (pc := 12) dX7_bookWrong_12 rfl ?_
    refine e_get (pc := 13) dX7_bookWrong_13 fX7_38 rfl rfl ?_
    refine e_iloadn (pc := 16) dX7_bookWrong_16 rfl ?_
    refine ald_sheetSort (pc := 17) dX7_bookWrong_17 (i7 (mc_b1.mp c_6)) ?_
    refine e_iconst (v := -1) (pc := 18) dX7_bookWrong_18 (by decide) ?_
    refine e_icmp_ne (pc := 19) dX7_bookWrong_19 (t := 25) (by decide) (fun c_19 => ?_) (fun c_19 => ?_)
    · skip
      refine e_iconst (v := 0) (pc := 25) dX7_bookWrong_25 (by decide) ?_
      refine e_isn2 (pc := 26) dX7_bookWrong_26 (Nat.le_of_ble_eq_true rfl) rfl ?_
      exact lp_y_bookWrong hL hS (mc_b1.mp c_6) _ 0 rfl (Nat.zero_le _) (by unfold ybw; rw [if_neg (c := mc_wi s0 0 3 = false) (by simp [mc_b1.mp c_6]), if_neg (c := gt (b 7) s0 = -1) c_19]; rfl)
    · skip
      refine e_bipush (v := -11) (pc := 22) dX7_bookWrong_22 (by decide) ?_
      exact e_iret (pc := 24) dX7_bookWrong_24 rfl (Nat.le_refl _) (Nat.le_refl _) ⟨by unfold ybw; rw [if_neg (by simp [mc_b1.mp c_6]), if_pos (c := gt (b 7) s0 = -1) c_19], rfl⟩
  · skip
    refine e_bipush (v := -2) (pc := 9) dX7_bookWrong_9 (by decide) ?_
    exact e_iret (pc := 11) dX7_bookWrong_11 rfl (Nat.le_refl _) (Nat.le_refl _) ⟨by unfold ybw; rw [if_pos (by simpa [mc_b0] using c_6)], rfl⟩
def yhb (m : Nat → Int32) (b : Nat → List Int32) (s k : Int32) : Int64 := (yrow b s).foldl (fun acc v => acc + (ymk m b k v).toInt64) 0
def yob (b : Nat → List Int32) (s : Int32) : Int64 := (yrow b s).foldl (fun acc v => acc + v.toInt64) 0
theorem lp_y_hisBook {s u m n : Nat → Int32} {a c b : Nat → List Int32} {q : List (Option Nat)} {h : Nat} {z : mc_W} {s0 k0 : Int32} {V : Int64} {d3 : List Int32} (hG : yG m b) (hS : ySh b) (hs : mc_wi s0 0 3 = true) (hc : mc_wi k0 0 (m 2 - 1) = true) :
    ∀ (r : List Int32) (k : Nat) (acc : Int64) (d : Nat → List Int32), (yrow b s0).drop k = r → k ≤ (yrow b s0).length → yD d → d 3 = d3 → r.foldl (fun acc v => acc + (ymk m b k0 v).toInt64) acc = V →
      mc_E RX7 cX7_hisBook 6 (mc_JM (some .long) false 5 0 0 (fun r' w' => r' = some (.long V) ∧ ∃ d1, yD d1 ∧ d1 3 = d3 ∧ w' = WW s a q u c h m b n d1 z)) 5 [some (.ref 29), some (.int s0), some (.int k0), some (.long acc), none, some (.int (nI k))] [] (WW s a q u c h m b n d z) 0 0 := by
  have hL := hG.1
  obtain ⟨sz, hz, hlen, i7, i8, e8, i9, e9⟩ := yrow_facts hL hS hs
  intro r
  induction r with
  | nil =>
    intro k acc d hk hkl hD h3 hV
    have hkz : k = sz := by
      have := congrArg List.length hk
      rw [List.length_drop] at this
      simp at this
      omega
    have hV : acc = V := hV
    subst hV
    refine e_iload (pc := 5) dX7_hisBook_5 rfl ?_
    refine e_aloadn (pc := 7) dX7_hisBook_7 rfl ?_
    refine e_get (pc := 8) dX7_hisBook_8 fX7_41 rfl rfl ?_
    refine e_iloadn (pc := 11) dX7_hisBook_11 rfl ?_
    refine aldv_sheetSize (pc := 12) dX7_hisBook_12 i8 e8 ?_
    refine e_icmp_ge (pc := 13) dX7_hisBook_13 (t := 43) (by decide) (fun _ => ?_) (fun c_13 => absurd (by rw [hkz]; exact nI_le (Nat.le_refl _) (by omega)) c_13)
    refine e_lloadn (pc := 43) dX7_hisBook_43 rfl ?_
    exact e_lret (pc := 44) dX7_hisBook_44 rfl (Nat.le_refl _) (Nat.le_refl _) ⟨rfl, d, hD, h3, rfl⟩
  | cons x r ih =>
    intro k acc d hk hkl hD h3 hV
    obtain ⟨g1, g2, g3⟩ := drop_cons hk
    rw [hlen] at g3
    have ex : (b 9).getD (40 * s0 + nI k).toNatClampNeg 0 = x := (e9 k g3).trans g1
    refine e_iload (pc := 5) dX7_hisBook_5 rfl ?_
    refine e_aloadn (pc := 7) dX7_hisBook_7 rfl ?_
    refine e_get (pc := 8) dX7_hisBook_8 fX7_41 rfl rfl ?_
    refine e_iloadn (pc := 11) dX7_hisBook_11 rfl ?_
    refine aldv_sheetSize (pc := 12) dX7_hisBook_12 i8 e8 ?_
    refine e_icmp_ge (pc := 13) dX7_hisBook_13 (t := 43) (by decide) (fun c_13 => absurd c_13 (nI_ge g3 (by omega))) (fun _ => ?_)
    refine e_lloadn (pc := 16) dX7_hisBook_16 rfl ?_
    refine e_aloadn (pc := 17) dX7_hisBook_17 rfl ?_
    refine e_iloadn (pc := 18) dX7_hisBook_18 rfl ?_
    refine e_aloadn (pc := 19) dX7_hisBook_19 rfl ?_
    refine e_get (pc := 20) dX7_hisBook_20 fX7_44 rfl rfl ?_
    refine e_bipush (v := 40) (pc := 23) dX7_hisBook_23 (by decide) ?_
    refine e_iloadn (pc := 25) dX7_hisBook_25 rfl ?_
    refine e_imul (pc := 26) dX7_hisBook_26 ?_
    refine e_iload (pc := 27) dX7_hisBook_27 rfl ?_
    refine e_iadd (pc := 29) dX7_hisBook_29 ?_
    refine aldv_ycells (pc := 30) dX7_hisBook_30 (i9 k (by omega)) ex ?_
    refine e_cvX (pc := 31) (sp_y_makesOf hG.1 hG.V (hG.k0 hc) (hG.k1 hc) hD) dX7_hisBook_31 kX7_178 rfl rfl rfl rfl rfl (mc_CR_of (Nat.le_of_ble_eq_true rfl) (Nat.le_of_ble_eq_true rfl) (Nat.le_refl _) (Nat.le_refl _)) (Nat.le_of_ble_eq_true rfl) (fun w1 hw1 => ?_)
    obtain ⟨d1, hD1, g4, rfl⟩ := hw1
    refine e_i2l (pc := 34) dX7_hisBook_34 ?_
    refine e_ladd (pc := 35) dX7_hisBook_35 ?_
    refine e_lsn3 (pc := 36) dX7_hisBook_36 (Nat.le_of_ble_eq_true rfl) rfl ?_
    refine e_incC5 (pc := 37) dX7_hisBook_37 (nI_1 k) (Nat.le_of_ble_eq_true rfl) rfl ?_
    refine e_goto (pc := 40) dX7_hisBook_40 (t := 5) (by decide) ?_
    exact ih (k + 1) _ d1 g2 (by omega) hD1 (g4.trans h3) hV
theorem sp_y_hisBook {s u m n : Nat → Int32} {a c b d : Nat → List Int32} {q : List (Option Nat)} {h : Nat} {z : mc_W} {s0 k0 : Int32} (hG : yG m b) (hS : ySh b) (hs : mc_wi s0 0 3 = true) (hc : mc_wi k0 0 (m 2 - 1) = true) (hD : yD d) : mc_T yX7_hisBook cX7_hisBook 6 (some .long) 5 [.ref 29, .int s0, .int k0] (WW s a q u c h m b n d z) (some (.long (yhb m b s0 k0))) (fun w' => ∃ d1, yD d1 ∧ d1 3 = d 3 ∧ w' = WW s a q u c h m b n d1 z) := by
  refine mc_start (own := RX7) (ini := false) rfl (by decide +kernel) (fun h => by cases h) (Nat.le_of_ble_eq_true rfl) ?_
  show mc_E _ _ _ _ _ [some (.ref 29), some (.int s0), some (.int k0), none, none, none] [] _ _ _
  refine e_lconst (v := 0) (pc := 0) dX7_hisBook_0 (by decide) ?_
  refine e_lsn3 (pc := 1) dX7_hisBook_1 (Nat.le_of_ble_eq_true rfl) rfl ?_
  refine e_iconst (v := 0) (pc := 2) dX7_hisBook_2 (by decide) ?_
  refine e_isw5 (pc := 3) dX7_hisBook_3 (Nat.le_of_ble_eq_true rfl) rfl ?_
  exact lp_y_hisBook hG hS hs hc _ 0 0 d rfl (Nat.zero_le _) hD rfl rfl
theorem lp_y_ourBook {s u m n : Nat → Int32} {a c b d : Nat → List Int32} {q : List (Option Nat)} {h : Nat} {z : mc_W} {s0 : Int32} {V : Int64} (hL : yL b) (hS : ySh b) (hs : mc_wi s0 0 3 = true) :
    ∀ (r : List Int32) (k : Nat) (acc : Int64), (yrow b s0).drop k = r → k ≤ (yrow b s0).length → r.foldl (fun acc v => acc + v.toInt64) acc = V →
      mc_E RX7 cX7_ourBook 5 (mc_JM (some .long) false 1 0 0 (fun r' w' => r' = some (.long V) ∧ w' = WW s a q u c h m b n d z)) 5 [some (.ref 29), some (.int s0), some (.long acc), none, some (.int (nI k))] [] (WW s a q u c h m b n d z) 0 0 := by
  obtain ⟨sz, hz, hlen, i7, i8, e8, i9, e9⟩ := yrow_facts hL hS hs
  intro r
  induction r with
  | nil =>
    intro k acc hk hkl hV
    have hkz : k = sz := by
      have := congrArg List.length hk
      rw [List.length_drop] at this
      simp at this
      omega
    have hV : acc = V := hV
    subst hV
    refine e_iload (pc := 5) dX7_ourBook_5 rfl ?_
    refine e_aloadn (pc := 7) dX7_ourBook_7 rfl ?_
    refine e_get (pc := 8) dX7_ourBook_8 fX7_41 rfl rfl ?_
    refine e_iloadn (pc := 11) dX7_ourBook_11 rfl ?_
    refine aldv_sheetSize (pc := 12) dX7_ourBook_12 i8 e8 ?_
    refine e_icmp_ge (pc := 13) dX7_ourBook_13 (t := 38) (by decide) (fun _ => ?_) (fun c_13 => absurd (by rw [hkz]; exact nI_le (Nat.le_refl _) (by omega)) c_13)
    refine e_lloadn (pc := 38) dX7_ourBook_38 rfl ?_
    exact e_lret (pc := 39) dX7_ourBook_39 rfl (Nat.le_refl _) (Nat.le_refl _) ⟨rfl, rfl⟩
  | cons x r ih =>
    intro k acc hk hkl hV
    obtain ⟨g1, g2, g3⟩ := drop_cons hk
    rw [hlen] at g3
    have ex : (b 9).getD (40 * s0 + nI k).toNatClampNeg 0 = x := (e9 k g3).trans g1
    refine e_iload (pc := 5) dX7_ourBook_5 rfl ?_
    refine e_aloadn (pc := 7) dX7_ourBook_7 rfl ?_
    refine e_get (pc := 8) dX7_ourBook_8 fX7_41 rfl rfl ?_
    refine e_iloadn (pc := 11) dX7_ourBook_11 rfl ?_
    refine aldv_sheetSize (pc := 12) dX7_ourBook_12 i8 e8 ?_
    refine e_icmp_ge (pc := 13) dX7_ourBook_13 (t := 38) (by decide) (fun c_13 => absurd c_13 (nI_ge g3 (by omega))) (fun _ => ?_)
    refine e_lloadn (pc := 16) dX7_ourBook_16 rfl ?_
    refine e_aloadn (pc := 17) dX7_ourBook_17 rfl ?_
    refine e_get (pc := 18) dX7_ourBook_18 fX7_44 rfl rfl ?_
    refine e_bipush (v := 40) (pc := 21) dX7_ourBook_21 (by decide) ?_
    refine e_iloadn (pc := 23) dX7_ourBook_23 rfl ?_
    refine e_imul (pc := 24) dX7_ourBook_24 ?_
    refine e_iload (pc := 25) dX7_ourBook_25 rfl ?_
    refine e_iadd (pc := 27) dX7_ourBook_27 ?_
    refine aldv_ycells (pc := 28) dX7_ourBook_28 (i9 k (by omega)) ex ?_
    refine e_i2l (pc := 29) dX7_ourBook_29 ?_
    refine e_ladd (pc := 30) dX7_ourBook_30 ?_
    refine e_lsn2 (pc := 31) dX7_ourBook_31 (Nat.le_of_ble_eq_true rfl) rfl ?_
    refine e_incC4 (pc := 32) dX7_ourBook_32 (nI_1 k) (Nat.le_of_ble_eq_true rfl) rfl ?_
    refine e_goto (pc := 35) dX7_ourBook_35 (t := 5) (by decide) ?_
    exact ih (k + 1) _ g2 (by omega) hV
theorem sp_y_ourBook {s u m n : Nat → Int32} {a c b d : Nat → List Int32} {q : List (Option Nat)} {h : Nat} {z : mc_W} {s0 : Int32} (hL : yL b) (hS : ySh b) (hs : mc_wi s0 0 3 = true) : mc_D yX7_ourBook cX7_ourBook 5 (some .long) 1 [.ref 29, .int s0] (WW s a q u c h m b n d z) (some (.long (yob b s0))) (WW s a q u c h m b n d z) := by
  refine mc_start (own := RX7) (ini := false) rfl (by decide +kernel) (fun h => by cases h) (Nat.le_of_ble_eq_true rfl) ?_
  show mc_E _ _ _ _ _ [some (.ref 29), some (.int s0), none, none, none] [] _ _ _
  refine e_lconst (v := 0) (pc := 0) dX7_ourBook_0 (by decide) ?_
  refine e_lsn2 (pc := 1) dX7_ourBook_1 (Nat.le_of_ble_eq_true rfl) rfl ?_
  refine e_iconst (v := 0) (pc := 2) dX7_ourBook_2 (by decide) ?_
  refine e_isw4 (pc := 3) dX7_ourBook_3 (Nat.le_of_ble_eq_true rfl) rfl ?_
  exact lp_y_ourBook hL hS hs _ 0 0 rfl (Nat.zero_le _) rfl
theorem ybw0 {b : Nat → List Int32} {s : Int32} (h : ybw b s = 0) : mc_wi s 0 3 = true ∧ ∀ v ∈ yrow b s, ynum v = true := by
  unfold ybw at h
  by_cases h1 : mc_wi s 0 3 = false
  · rw [if_pos h1] at h; exact absurd h (by decide)
  · rw [if_neg h1] at h
    by_cases h2 : gt (b 7) s = -1
    · rw [if_pos h2] at h; exact absurd h (by decide)
    · rw [if_neg h2] at h
      by_cases h3 : (yrow b s).all ynum = true
      · exact ⟨by simpa using h1, List.all_eq_true.mp h3⟩
      · rw [if_neg h3] at h; exact absurd h (by decide)
def ybook (m : Nat → Int32) (b : Nat → List Int32) (s k w : Int32) : Int64 :=
  if ¬ ybw b s = 0 then (ybw b s).toInt64 else if mc_wi k 0 (m 2 - 1) = false then -5
  else if w = 0 then yhb m b s k else if w = 1 then yob b s else if w = 2 then yy_far (yhb m b s k) (yob b s)
  else if w = 3 then (yask m b 2 k (yy_gr (yob b s)) (yy_gr (yy_far (yhb m b s k) (yob b s)))).toInt64 else -7
theorem sp_y_book {s u m n : Nat → Int32} {a c b d : Nat → List Int32} {q : List (Option Nat)} {h : Nat} {z : mc_W} {s0 k w : Int32} (hG : yG m b) (hS : ySh b) (hD : yD d) : mc_T yX7_book cX7_book 9 (some .long) 6 [.ref 29, .int s0, .int k, .int w] (WW s a q u c h m b n d z) (some (.long (ybook m b s0 k w))) (fun w' => ∃ n1 d1, yD d1 ∧ w' = WW s a q u c h m b n1 d1 z) := by
  refine mc_start (own := RX7) (ini := false) rfl (by decide +kernel) (fun h => by cases h) (Nat.le_of_ble_eq_true rfl) ?_
  show mc_E _ _ _ _ _ [some (.ref 29), some (.int s0), some (.int k), some (.int w), none, none, none, none, none] [] _ _ _
  refine e_aloadn (pc := 0) dX7_book_0 rfl ?_
  refine e_iloadn (pc := 1) dX7_book_1 rfl ?_
  refine e_cvD (pc := 2) (sp_y_bookWrong hG.1 hS) dX7_book_2 kX7_214 rfl rfl rfl rfl rfl (mc_CR_of (Nat.le_of_ble_eq_true rfl) (Nat.le_of_ble_eq_true rfl) (Nat.le_refl _) (Nat.le_refl _)) (Nat.le_of_ble_eq_true rfl) ?_
  refine e_isw4 (pc := 5) dX7_book_5 (Nat.le_of_ble_eq_true rfl) rfl ?_
  refine e_iload (pc := 7) dX7_book_7 rfl ?_
  refine e_if_eq (pc := 9) dX7_book_9 (t := 16) (by decide) (fun c_9 => ?_) (fun c_9 => ?_)
  · skip
    refine e_aloadn (pc := 16) dX7_book_16 rfl ?_
    refine e_iloadn (pc := 17) dX7_book_17 rfl ?_
    refine e_cvD (pc := 18) (sp_y_isClerk) dX7_book_18 kX7_159 rfl rfl rfl rfl rfl (mc_CR_of (Nat.le_of_ble_eq_true rfl) (Nat.le_of_ble_eq_true rfl) (Nat.le_refl _) (Nat.le_refl _)) (Nat.le_of_ble_eq_true rfl) ?_
    refine e_if_ne (pc := 21) dX7_book_21 (t := 28) (by decide) (fun c_21 => ?_) (fun c_21 => ?_)
    · skip
      refine e_aloadn (pc := 28) dX7_book_28 rfl ?_
      refine e_iloadn (pc := 29) dX7_book_29 rfl ?_
      refine e_iloadn (pc := 30) dX7_book_30 rfl ?_
      refine e_cvX (pc := 31) (sp_y_hisBook hG hS (ybw0 c_9).1 (mc_b1.mp c_21) hD) dX7_book_31 kX7_217 rfl rfl rfl rfl rfl (mc_CR_of (Nat.le_of_ble_eq_true rfl) (Nat.le_of_ble_eq_true rfl) (Nat.le_refl _) (Nat.le_refl _)) (Nat.le_of_ble_eq_true rfl) (fun w1 hw1 => ?_)
      obtain ⟨d1, hD1, g3, rfl⟩ := hw1
      refine e_lsw5 (pc := 34) dX7_book_34 (Nat.le_of_ble_eq_true rfl) rfl ?_
      refine e_aloadn (pc := 36) dX7_book_36 rfl ?_
      refine e_iloadn (pc := 37) dX7_book_37 rfl ?_
      refine e_cvD (pc := 38) (sp_y_ourBook hG.1 hS (ybw0 c_9).1) dX7_book_38 kX7_220 rfl rfl rfl rfl rfl (mc_CR_of (Nat.le_of_ble_eq_true rfl) (Nat.le_of_ble_eq_true rfl) (Nat.le_refl _) (Nat.le_refl _)) (Nat.le_of_ble_eq_true rfl) ?_
      refine e_lsw7 (pc := 41) dX7_book_41 (Nat.le_of_ble_eq_true rfl) rfl ?_
      refine e_iloadn (pc := 43) dX7_book_43 rfl ?_
      by_cases hs_44_0 : w = 0
      · rw [hs_44_0]
        refine e_tabIn (pc := 44) (t := 76) dX7_book_44 (by decide) (by decide) rfl (by decide) ?_
        refine e_lload (pc := 76) dX7_book_76 rfl ?_
        exact e_lret (pc := 78) dX7_book_78 rfl (Nat.le_refl _) (Nat.le_refl _) ⟨(by (try simp only [mc_cmp_le, mc_cmp_ge, mc_cmp_eq, mc_cmp_lt, mc_cmp_gt, mc_b0, mc_b1, Bool.not_eq_false, Bool.not_eq_true] at c_9 c_21); first | rfl | (simp [ybook, c_9, c_21]; done) | ((try simp only [← Int32.not_lt, ← Int64.not_lt, Classical.not_not] at c_9 c_21); simp [ybook, c_9, c_21])), by first | exact ⟨n, d2, hD2, rfl⟩ | exact ⟨n, d1, hD1, rfl⟩ | exact ⟨n, d, hD, rfl⟩⟩
      by_cases hs_44_1 : w = 1
      · rw [hs_44_1]
        refine e_tabIn (pc := 44) (t := 79) dX7_book_44 (by decide) (by decide) rfl (by decide) ?_
        refine e_lload (pc := 79) dX7_book_79 rfl ?_
        exact e_lret (pc := 81) dX7_book_81 rfl (Nat.le_refl _) (Nat.le_refl _) ⟨(by (try simp only [mc_cmp_le, mc_cmp_ge, mc_cmp_eq, mc_cmp_lt, mc_cmp_gt, mc_b0, mc_b1, Bool.not_eq_false, Bool.not_eq_true] at c_9 c_21); first | rfl | (simp [ybook, c_9, c_21]; done) | ((try simp only [← Int32.not_lt, ← Int64.not_lt, Classical.not_not] at c_9 c_21); simp [ybook, c_9, c_21])), by first | exact ⟨n, d2, hD2, rfl⟩ | exact ⟨n, d1, hD1, rfl⟩ | exact ⟨n, d, hD, rfl⟩⟩
      by_cases hs_44_2 : w = 2
      · rw [hs_44_2]
        refine e_tabIn (pc := 44) (t := 82) dX7_book_44 (by decide) (by decide) rfl (by decide) ?_
        refine e_lload (pc := 82) dX7_book_82 rfl ?_
        refine e_lload (pc := 84) dX7_book_84 rfl ?_
        refine e_csD (pc := 86) (sp_y_far) dX7_book_86 kX7_208 rfl rfl (mc_CR_of (Nat.le_of_ble_eq_true rfl) (Nat.le_of_ble_eq_true rfl) (Nat.le_refl _) (Nat.le_refl _)) (Nat.le_of_ble_eq_true rfl) ?_
        exact e_lret (pc := 89) dX7_book_89 rfl (Nat.le_refl _) (Nat.le_refl _) ⟨(by (try simp only [mc_cmp_le, mc_cmp_ge, mc_cmp_eq, mc_cmp_lt, mc_cmp_gt, mc_b0, mc_b1, Bool.not_eq_false, Bool.not_eq_true] at c_9 c_21); first | rfl | (simp [ybook, c_9, c_21]; done) | ((try simp only [← Int32.not_lt, ← Int64.not_lt, Classical.not_not] at c_9 c_21); simp [ybook, c_9, c_21])), by first | exact ⟨n, d2, hD2, rfl⟩ | exact ⟨n, d1, hD1, rfl⟩ | exact ⟨n, d, hD, rfl⟩⟩
      by_cases hs_44_3 : w = 3
      · rw [hs_44_3]
        refine e_tabIn (pc := 44) (t := 90) dX7_book_44 (by decide) (by decide) rfl (by decide) ?_
        refine e_aloadn (pc := 90) dX7_book_90 rfl ?_
        refine e_iconst (v := 2) (pc := 91) dX7_book_91 (by decide) ?_
        refine e_iloadn (pc := 92) dX7_book_92 rfl ?_
        refine e_lload (pc := 93) dX7_book_93 rfl ?_
        refine e_csD (pc := 95) (sp_y_great) dX7_book_95 kX7_224 rfl rfl (mc_CR_of (Nat.le_of_ble_eq_true rfl) (Nat.le_of_ble_eq_true rfl) (Nat.le_refl _) (Nat.le_refl _)) (Nat.le_of_ble_eq_true rfl) ?_
        refine e_lload (pc := 98) dX7_book_98 rfl ?_
        refine e_lload (pc := 100) dX7_book_100 rfl ?_
        refine e_csD (pc := 102) (sp_y_far) dX7_book_102 kX7_208 rfl rfl (mc_CR_of (Nat.le_of_ble_eq_true rfl) (Nat.le_of_ble_eq_true rfl) (Nat.le_refl _) (Nat.le_refl _)) (Nat.le_of_ble_eq_true rfl) ?_
        refine e_csD (pc := 105) (sp_y_great) dX7_book_105 kX7_224 rfl rfl (mc_CR_of (Nat.le_of_ble_eq_true rfl) (Nat.le_of_ble_eq_true rfl) (Nat.le_refl _) (Nat.le_refl _)) (Nat.le_of_ble_eq_true rfl) ?_
        refine e_cvX (pc := 108) (sp_y_asksOf (p := 2) hG.1 hG.V (by decide) rfl (hG.k1 (mc_b1.mp c_21)) hD1) dX7_book_108 kX7_165 rfl rfl rfl rfl rfl (mc_CR_of (Nat.le_of_ble_eq_true rfl) (Nat.le_of_ble_eq_true rfl) (Nat.le_refl _) (Nat.le_refl _)) (Nat.le_of_ble_eq_true rfl) (fun w1 hw1 => ?_)
        obtain ⟨d2, hD2, g4, rfl⟩ := hw1
        refine e_i2l (pc := 111) dX7_book_111 ?_
        exact e_lret (pc := 112) dX7_book_112 rfl (Nat.le_refl _) (Nat.le_refl _) ⟨(by (try simp only [mc_cmp_le, mc_cmp_ge, mc_cmp_eq, mc_cmp_lt, mc_cmp_gt, mc_b0, mc_b1, Bool.not_eq_false, Bool.not_eq_true] at c_9 c_21); first | rfl | (simp [ybook, c_9, c_21]; done) | ((try simp only [← Int32.not_lt, ← Int64.not_lt, Classical.not_not] at c_9 c_21); simp [ybook, c_9, c_21])), by first | exact ⟨n, d2, hD2, rfl⟩ | exact ⟨n, d1, hD1, rfl⟩ | exact ⟨n, d, hD, rfl⟩⟩
      refine e_tabOut (pc := 44) (t := 113) dX7_book_44 (mc_tabout (by decide) (fun k h1 h2 => ?_)) (by decide) ?_
      · rcases (show k = 0 ∨ k = 1 ∨ k = 2 ∨ k = 3 by omega) with rfl | rfl | rfl | rfl <;> assumption
      refine e_ldc2 (pc := 113) dX7_book_113 qX7_192 ?_
      exact e_lret (pc := 116) dX7_book_116 rfl (Nat.le_refl _) (Nat.le_refl _) ⟨(by (try simp only [mc_cmp_le, mc_cmp_ge, mc_cmp_eq, mc_cmp_lt, mc_cmp_gt, mc_b0, mc_b1, Bool.not_eq_false, Bool.not_eq_true] at c_9 c_21); first | rfl | (simp [ybook, hs_44_0, hs_44_1, hs_44_2, hs_44_3, c_9, c_21]; done) | ((try simp only [← Int32.not_lt, ← Int64.not_lt, Classical.not_not] at c_9 c_21); simp [ybook, hs_44_0, hs_44_1, hs_44_2, hs_44_3, c_9, c_21])), by first | exact ⟨n, d2, hD2, rfl⟩ | exact ⟨n, d1, hD1, rfl⟩ | exact ⟨n, d, hD, rfl⟩⟩
    · skip
      refine e_ldc2 (pc := 24) dX7_book_24 qX7_190 ?_
      exact e_lret (pc := 27) dX7_book_27 rfl (Nat.le_refl _) (Nat.le_refl _) ⟨(by (try simp only [mc_cmp_le, mc_cmp_ge, mc_cmp_eq, mc_cmp_lt, mc_cmp_gt, mc_b0, mc_b1, Bool.not_eq_false, Bool.not_eq_true] at c_9 c_21); first | rfl | (simp [ybook, c_9, c_21]; done) | ((try simp only [← Int32.not_lt, ← Int64.not_lt, Classical.not_not] at c_9 c_21); simp [ybook, c_9, c_21])), by first | exact ⟨n, d2, hD2, rfl⟩ | exact ⟨n, d1, hD1, rfl⟩ | exact ⟨n, d, hD, rfl⟩⟩
  · skip
    refine e_iload (pc := 12) dX7_book_12 rfl ?_
    refine e_i2l (pc := 14) dX7_book_14 ?_
    exact e_lret (pc := 15) dX7_book_15 rfl (Nat.le_refl _) (Nat.le_refl _) ⟨(by (try simp only [mc_cmp_le, mc_cmp_ge, mc_cmp_eq, mc_cmp_lt, mc_cmp_gt, mc_b0, mc_b1, Bool.not_eq_false, Bool.not_eq_true] at c_9); first | rfl | (simp [ybook, c_9]; done) | ((try simp only [← Int32.not_lt, ← Int64.not_lt, Classical.not_not] at c_9); simp [ybook, c_9])), by first | exact ⟨n, d2, hD2, rfl⟩ | exact ⟨n, d1, hD1, rfl⟩ | exact ⟨n, d, hD, rfl⟩⟩
