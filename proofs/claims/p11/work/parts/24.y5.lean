/-! figures -/
theorem tk_get {l xs : List Int32} {N i : Nat} (h : l.take N = xs) (hi : i < N) : l.getD i 0 = xs.getD i 0 := by
  subst h
  rw [List.getD_eq_getElem?_getD, List.getD_eq_getElem?_getD, List.getElem?_take, if_pos hi]
theorem tk_of {l xs : List Int32} {N : Nat} (hN : N = xs.length) (hl : N ≤ l.length) (h : ∀ i, i < N → l.getD i 0 = xs.getD i 0) : l.take N = xs := by
  apply List.ext_getElem?
  intro i
  rw [List.getElem?_take]
  by_cases hi : i < N
  · rw [if_pos hi]
    have := h i hi
    rw [List.getD_eq_getElem?_getD, List.getD_eq_getElem?_getD, List.getElem?_eq_getElem (by omega), List.getElem?_eq_getElem (by omega)] at this
    rw [List.getElem?_eq_getElem (by omega), List.getElem?_eq_getElem (by omega)]
    exact congrArg some this
  · rw [if_neg hi, List.getElem?_eq_none (by omega)]
theorem rv_get {xs : List Int32} {i : Nat} (h : i < xs.length) : xs.reverse.getD i 0 = xs.getD (xs.length - 1 - i) 0 := by
  rw [List.getD_eq_getElem?_getD, List.getD_eq_getElem?_getD, List.getElem?_reverse h]
theorem gD_set {l : List Int32} {k i : Nat} {x : Int32} (hk : k < l.length) : (l.set k x).getD i 0 = if i = k then x else l.getD i 0 := congrFun (mc_getD_set l k x 0 hk) i
theorem yD_set3 {d : Nat → List Int32} (hD : yD d) (k : Nat) (v : Int32) : yD (mc_up d 3 ((d 3).set k v)) := by
  refine ⟨hD.1, hD.2.1, hD.2.2.1, ?_⟩
  show ((d 3).set k v).length = 40
  rw [List.length_set]; exact hD.2.2.2
theorem lp_y_turns {s u m n : Nat → Int32} {a c b : Nat → List Int32} {q : List (Option Nat)} {h : Nat} {z : mc_W} {N : Nat} {xs : List Int32} (hN : N = xs.length) (hN4 : N ≤ 40) (h7 : n 7 = nI N) :
    ∀ (j k : Nat) (d : Nat → List Int32) (x2 : Option Value), k + j = N / 2 → yD d → (∀ i, i < N → (d 3).getD i 0 = if i < k ∨ N - k ≤ i then xs.getD (N - 1 - i) 0 else xs.getD i 0) →
      mc_E RX7 cX7_turnsFigures 3 (mc_JM none false 1 0 0 (fun r' w' => r' = none ∧ ∃ d1, yD d1 ∧ (d1 3).take N = xs.reverse ∧ w' = WW s a q u c h m b n d1 z)) 2 [some (.ref 29), some (.int (nI k)), x2] [] (WW s a q u c h m b n d z) 0 0 := by
  have hdv : n 7 / 2 = nI (N / 2) := by rw [h7]; exact pk_div (a := N) (d := 2) (by omega) (by decide) (by decide)
  intro j
  induction j with
  | zero =>
    intro k d x2 hk hD hx
    have hkk : k = N / 2 := by omega
    have hfin : (d 3).take N = xs.reverse := by
      refine tk_of (by rw [List.length_reverse]; exact hN) (by rw [hD.2.2.2]; exact hN4) fun i hi => ?_
      rw [hx i hi, rv_get (by omega), ← hN]
      by_cases h1 : i < k ∨ N - k ≤ i
      · rw [if_pos h1]
      · rw [if_neg h1]; congr 1; omega
    refine e_iloadn (pc := 2) dX7_turnsFigures_2 rfl ?_
    refine e_aloadn (pc := 3) dX7_turnsFigures_3 rfl ?_
    refine e_get (pc := 4) dX7_turnsFigures_4 fX7_175 rfl rfl ?_
    refine e_iconst (v := 2) (pc := 7) dX7_turnsFigures_7 (by decide) ?_
    refine e_idiv (pc := 8) dX7_turnsFigures_8 (by decide) ?_
    refine e_icmp_ge (pc := 9) dX7_turnsFigures_9 (t := 58) (by decide) (fun _ => ?_) (fun c_9 => absurd (by rw [hdv, hkk]; exact nI_le (Nat.le_refl _) (by omega)) c_9)
    exact e_vret (pc := 58) dX7_turnsFigures_58 rfl (Nat.le_refl _) (Nat.le_refl _) ⟨rfl, d, hD, hfin, rfl⟩
  | succ j ih =>
    intro k d x2 hk hD hx
    have hk2 : k < N / 2 := by omega
    have g1 : (d 3).getD (nI k).toNatClampNeg 0 = xs.getD k 0 := by rw [nIc (by omega), hx k (by omega), if_neg (by omega)]
    have g2 : n 7 - 1 - nI k = nI (N - 1 - k) := by rw [h7, nI_sub1 (by omega), pk_sub (by omega)]
    have g3 : (d 3).getD (n 7 - 1 - nI k).toNatClampNeg 0 = xs.getD (N - 1 - k) 0 := by rw [g2, nIc (by omega), hx _ (by omega), if_neg (by omega)]
    have i1 : vp_in (nI k) (d 3).length := by rw [hD.2.2.2]; exact vp_in_nI (by omega) (by decide)
    have i2 : vp_in (n 7 - 1 - nI k) (d 3).length := by rw [g2, hD.2.2.2]; exact vp_in_nI (by omega) (by decide)
    refine e_iloadn (pc := 2) dX7_turnsFigures_2 rfl ?_
    refine e_aloadn (pc := 3) dX7_turnsFigures_3 rfl ?_
    refine e_get (pc := 4) dX7_turnsFigures_4 fX7_175 rfl rfl ?_
    refine e_iconst (v := 2) (pc := 7) dX7_turnsFigures_7 (by decide) ?_
    refine e_idiv (pc := 8) dX7_turnsFigures_8 (by decide) ?_
    refine e_icmp_ge (pc := 9) dX7_turnsFigures_9 (t := 58) (by decide) (fun c_9 => absurd c_9 (by rw [hdv]; exact nI_ge (by omega) (by omega))) (fun _ => ?_)
    refine e_aloadn (pc := 12) dX7_turnsFigures_12 rfl ?_
    refine e_get (pc := 13) dX7_turnsFigures_13 fX7_62 rfl rfl ?_
    refine e_iloadn (pc := 16) dX7_turnsFigures_16 rfl ?_
    refine aldv_figures (pc := 17) dX7_turnsFigures_17 i1 g1 ?_
    refine e_isn2 (pc := 18) dX7_turnsFigures_18 (Nat.le_of_ble_eq_true rfl) rfl ?_
    refine e_aloadn (pc := 19) dX7_turnsFigures_19 rfl ?_
    refine e_get (pc := 20) dX7_turnsFigures_20 fX7_62 rfl rfl ?_
    refine e_iloadn (pc := 23) dX7_turnsFigures_23 rfl ?_
    refine e_aloadn (pc := 24) dX7_turnsFigures_24 rfl ?_
    refine e_get (pc := 25) dX7_turnsFigures_25 fX7_62 rfl rfl ?_
    refine e_aloadn (pc := 28) dX7_turnsFigures_28 rfl ?_
    refine e_get (pc := 29) dX7_turnsFigures_29 fX7_175 rfl rfl ?_
    refine e_iconst (v := 1) (pc := 32) dX7_turnsFigures_32 (by decide) ?_
    refine e_isub (pc := 33) dX7_turnsFigures_33 ?_
    refine e_iloadn (pc := 34) dX7_turnsFigures_34 rfl ?_
    refine e_isub (pc := 35) dX7_turnsFigures_35 ?_
    refine aldv_figures (pc := 36) dX7_turnsFigures_36 i2 g3 ?_
    refine ast_figures (pc := 37) dX7_turnsFigures_37 i1 ?_
    refine e_aloadn (pc := 38) dX7_turnsFigures_38 rfl ?_
    refine e_get (pc := 39) dX7_turnsFigures_39 fX7_62 rfl rfl ?_
    refine e_aloadn (pc := 42) dX7_turnsFigures_42 rfl ?_
    refine e_get (pc := 43) dX7_turnsFigures_43 fX7_175 rfl rfl ?_
    refine e_iconst (v := 1) (pc := 46) dX7_turnsFigures_46 (by decide) ?_
    refine e_isub (pc := 47) dX7_turnsFigures_47 ?_
    refine e_iloadn (pc := 48) dX7_turnsFigures_48 rfl ?_
    refine e_isub (pc := 49) dX7_turnsFigures_49 ?_
    refine e_iloadn (pc := 50) dX7_turnsFigures_50 rfl ?_
    refine ast_figures (pc := 51) dX7_turnsFigures_51 (by show vp_in _ ((d 3).set _ _).length; rw [List.length_set]; exact i2) ?_
    refine e_incC1 (pc := 52) dX7_turnsFigures_52 (nI_1 k) (Nat.le_of_ble_eq_true rfl) rfl ?_
    refine e_goto (pc := 55) dX7_turnsFigures_55 (t := 2) (by decide) ?_
    refine ih (k + 1) _ _ (by omega) (yD_set3 (yD_set3 hD _ _) _ _) (fun i hi => ?_)
    show (((d 3).set (nI k).toNatClampNeg (xs.getD (N - 1 - k) 0)).set (n 7 - 1 - nI k).toNatClampNeg (xs.getD k 0)).getD i 0 = _
    rw [g2, nIc (by omega), nIc (by omega), gD_set (by rw [List.length_set, hD.2.2.2]; omega), gD_set (by rw [hD.2.2.2]; omega), hx i hi]
    by_cases h1 : i = N - 1 - k
    · rw [if_pos h1, if_pos (by omega)]; congr 1; omega
    · rw [if_neg h1]
      by_cases h2 : i = k
      · rw [if_pos h2, if_pos (by omega)]; congr 1; omega
      · rw [if_neg h2]
        by_cases h3 : i < k ∨ N - k ≤ i
        · rw [if_pos h3, if_pos (by omega)]
        · rw [if_neg h3, if_neg (by omega)]
theorem sp_y_turns {s u m n : Nat → Int32} {a c b d : Nat → List Int32} {q : List (Option Nat)} {h : Nat} {z : mc_W} {N : Nat} {xs : List Int32} (hN : N = xs.length) (hN4 : N ≤ 40) (h7 : n 7 = nI N) (hD : yD d) (hx : (d 3).take N = xs) : mc_T yX7_turnsFigures cX7_turnsFigures 3 none 1 [.ref 29] (WW s a q u c h m b n d z) none (fun w' => ∃ d1, yD d1 ∧ (d1 3).take N = xs.reverse ∧ w' = WW s a q u c h m b n d1 z) := by
  refine mc_start (own := RX7) (ini := false) rfl (by decide +kernel) (fun h => by cases h) (Nat.le_of_ble_eq_true rfl) ?_
  show mc_E _ _ _ _ _ [some (.ref 29), none, none] [] _ _ _
  refine e_iconst (v := 0) (pc := 0) dX7_turnsFigures_0 (by decide) ?_
  refine e_isn1 (pc := 1) dX7_turnsFigures_1 (Nat.le_of_ble_eq_true rfl) rfl ?_
  exact lp_y_turns hN hN4 h7 (N / 2) 0 d none (by omega) hD (fun i hi => by rw [if_neg (by omega)]; exact tk_get hx hi)
def ydg (g : Nat) : Nat → Nat → List Nat
  | 0, _ => []
  | f + 1, l => if l = 0 then [] else ((l - 1) % g + 1) :: ydg g f ((l - ((l - 1) % g + 1)) / g)
theorem ydg_len (g : Nat) : ∀ f l, (ydg g f l).length ≤ f := by
  intro f
  induction f with
  | zero => intro l; simp [ydg]
  | succ f ih =>
    intro l
    unfold ydg
    by_cases h : l = 0
    · rw [if_pos h]; simp
    · rw [if_neg h]; simp; exact ih _
theorem ydg_0 (g f : Nat) : ydg g f 0 = [] := by cases f <;> simp [ydg]
theorem ydg_next {g l f : Nat} (hg : 2 ≤ g) (h0 : l ≠ 0) (hl : l < 2 ^ (f + 1)) : (l - ((l - 1) % g + 1)) / g < 2 ^ f := by
  have h1 : (l - ((l - 1) % g + 1)) / g ≤ (l - ((l - 1) % g + 1)) / 2 := Nat.div_le_div_left hg (by decide)
  have h2 : (l - ((l - 1) % g + 1)) / 2 ≤ (l - 1) / 2 := Nat.div_le_div_right (by omega)
  have h3 : 2 ^ (f + 1) = 2 * 2 ^ f := by rw [Nat.pow_succ, Nat.mul_comm]
  omega
def yfg (m : Nat → Int32) (b : Nat → List Int32) (k : Int32) : Int32 := yy_fg (gt (b 0) k) (gt (b 1) k) (m 0)
def yfull (m : Nat → Int32) (b : Nat → List Int32) (k v : Int32) : List Int32 := (ydg (yfg m b k).toNatClampNeg 17 (ymk m b k v).toNatClampNeg).map nI
/-- what clerk k writes of v, the first written first -/
def ywr (m : Nat → Int32) (b : Nat → List Int32) (k v : Int32) : List Int32 := if yy_it (gt (b 0) k) = true then yfull m b k v else (yfull m b k v).reverse
theorem yfull_len (m : Nat → Int32) (b : Nat → List Int32) (k v : Int32) : (yfull m b k v).length ≤ 17 := by unfold yfull; rw [List.length_map]; exact ydg_len _ _ _
theorem ywr_len (m : Nat → Int32) (b : Nat → List Int32) (k v : Int32) : (ywr m b k v).length ≤ 17 := by
  unfold ywr; split
  · exact yfull_len m b k v
  · rw [List.length_reverse]; exact yfull_len m b k v
/-- the figures xs stand on the row -/
def yF (xs : List Int32) (n : Nat → Int32) (d : Nat → List Int32) : Prop := yD d ∧ n 7 = nI xs.length ∧ (d 3).take xs.length = xs
theorem lp_y_writes_end {s u m : Nat → Int32} {a c b : Nat → List Int32} {q : List (Option Nat)} {h : Nat} {z : mc_W} {k v : Int32} {g : Nat} {full : List Int32} (h0 : vp_in k (b 0).length) {n : Nat → Int32} {d : Nat → List Int32} {x5 : Option Value} (hf : full.length ≤ 17) (hD : yD d) (h7 : n 7 = nI full.length) (hx : (d 3).take full.length = full) :
      mc_E RX7 cX7_writes 6 (mc_JM none false 5 0 0 (fun r' w' => r' = none ∧ ∃ n1 d1, yF (if yy_it (gt (b 0) k) = true then full else full.reverse) n1 d1 ∧ w' = WW s a q u c h m b n1 d1 z)) 19 [some (.ref 29), some (.int k), some (.int v), some (.int (nI g)), some (.int (nI 0)), x5] [] (WW s a q u c h m b n d z) 0 0 := by
  refine e_iload (pc := 19) dX7_writes_19 rfl ?_
  refine e_if_le (pc := 21) dX7_writes_21 (t := 67) (by decide) (fun _ => ?_) (fun c_21 => absurd (by decide) c_21)
  refine e_aloadn (pc := 67) dX7_writes_67 rfl ?_
  refine e_iloadn (pc := 68) dX7_writes_68 rfl ?_
  refine e_cvD (pc := 69) (sp_y_isTurned h0) dX7_writes_69 kX7_172 rfl rfl rfl rfl rfl (mc_CR_of (Nat.le_of_ble_eq_true rfl) (Nat.le_of_ble_eq_true rfl) (Nat.le_refl _) (Nat.le_refl _)) (Nat.le_of_ble_eq_true rfl) ?_
  refine e_if_ne (pc := 72) dX7_writes_72 (t := 79) (by decide) (fun c_72 => ?_) (fun c_72 => ?_)
  · skip
    exact e_vret (pc := 79) dX7_writes_79 rfl (Nat.le_refl _) (Nat.le_refl _) ⟨rfl, n, d, by rw [if_pos (mc_b1.mp c_72)]; exact ⟨hD, h7, hx⟩, rfl⟩
  · skip
    refine e_aloadn (pc := 75) dX7_writes_75 rfl ?_
    refine e_cvY (pc := 76) (sp_y_turns rfl (by omega) h7 hD hx) dX7_writes_76 kX7_181 rfl rfl rfl rfl rfl (mc_CR_of (Nat.le_of_ble_eq_true rfl) (Nat.le_of_ble_eq_true rfl) (Nat.le_refl _) (Nat.le_refl _)) (Nat.le_of_ble_eq_true rfl) (fun w1 hw1 => ?_)
    obtain ⟨d1, hD1, hx1, rfl⟩ := hw1
    exact e_vret (pc := 79) dX7_writes_79 rfl (Nat.le_refl _) (Nat.le_refl _) ⟨rfl, n, d1, by rw [if_neg (by rw [mc_b0.mp c_72]; decide)]; exact ⟨hD1, by rw [List.length_reverse]; exact h7, by rw [List.length_reverse]; exact hx1⟩, rfl⟩
set_option maxHeartbeats 1000000 in
theorem lp_y_writes {s u m : Nat → Int32} {a c b : Nat → List Int32} {q : List (Option Nat)} {h : Nat} {z : mc_W} {k v : Int32} {g : Nat} {full : List Int32} (h0 : vp_in k (b 0).length) (hg : 2 ≤ g) (hg2 : g ≤ 12) (hf : full.length ≤ 17) :
    ∀ (f left : Nat) (done : List Int32) (n : Nat → Int32) (d : Nat → List Int32) (x5 : Option Value), left < 2 ^ f → f ≤ 17 → yD d → n 7 = nI done.length → (d 3).take done.length = done → done ++ (ydg g f left).map nI = full →
      mc_E RX7 cX7_writes 6 (mc_JM none false 5 0 0 (fun r' w' => r' = none ∧ ∃ n1 d1, yF (if yy_it (gt (b 0) k) = true then full else full.reverse) n1 d1 ∧ w' = WW s a q u c h m b n1 d1 z)) 19 [some (.ref 29), some (.int k), some (.int v), some (.int (nI g)), some (.int (nI left)), x5] [] (WW s a q u c h m b n d z) 0 0 := by
  intro f
  induction f with
  | zero =>
    intro left done n d x5 hl _ hD h7 hx hfu
    have e0 : left = 0 := by simp at hl; omega
    subst e0
    rw [ydg_0, List.map_nil, List.append_nil] at hfu
    subst hfu
    exact lp_y_writes_end h0 hf hD h7 hx
  | succ f ih =>
    intro left done n d x5 hl hf17 hD h7 hx hfu
    by_cases e0 : left = 0
    · subst e0
      rw [ydg_0, List.map_nil, List.append_nil] at hfu
      subst hfu
      exact lp_y_writes_end h0 hf hD h7 hx
    have hp : 2 ^ (f + 1) ≤ 2 ^ 17 := Nat.pow_le_pow_right (by decide) hf17
    have hL31 : left < 2 ^ 31 := by omega
    have hdl : done.length < 17 := by
      have := congrArg List.length hfu
      rw [List.length_append, List.length_map] at this
      have h2 : 1 ≤ (ydg g (f + 1) left).length := by unfold ydg; rw [if_neg e0]; simp
      omega
    have r1 : nI left - 1 - (nI left - 1) / nI g * nI g = nI ((left - 1) % g) := by rw [nI_sub1 (by omega)]; exact pk_rem (by omega) (by omega) (by omega)
    have hm : (left - 1) % g < g := Nat.mod_lt _ (by omega)
    have hm2 : (left - 1) % g ≤ left - 1 := Nat.mod_le _ _
    have r2 : (nI left - nI ((left - 1) % g + 1)) / nI g = nI ((left - ((left - 1) % g + 1)) / g) := by rw [pk_sub (by omega)]; exact pk_div (by omega) (by omega) (by omega)
    have i1 : vp_in (n 7) (d 3).length := by rw [h7, hD.2.2.2]; exact vp_in_nI (by omega) (by decide)
    have gz : ¬ nI g = 0 := nI_ne0 (by omega) (by omega)
    refine e_iload (pc := 19) dX7_writes_19 rfl ?_
    refine e_if_le (pc := 21) dX7_writes_21 (t := 67) (by decide) (fun c_21 => absurd c_21 (nI_nle (by omega) hL31)) (fun _ => ?_)
    refine e_iload (pc := 24) dX7_writes_24 rfl ?_
    refine e_iconst (v := 1) (pc := 26) dX7_writes_26 (by decide) ?_
    refine e_isub (pc := 27) dX7_writes_27 ?_
    refine e_iloadn (pc := 28) dX7_writes_28 rfl ?_
    refine e_irem (pc := 29) dX7_writes_29 gz ?_
    refine e_top (r1) ?_
    refine e_iconst (v := 1) (pc := 30) dX7_writes_30 (by decide) ?_
    refine e_iadd (pc := 31) dX7_writes_31 ?_
    refine e_top (nI_1 _) ?_
    refine e_isw5 (pc := 32) dX7_writes_32 (Nat.le_of_ble_eq_true rfl) rfl ?_
    refine e_aloadn (pc := 34) dX7_writes_34 rfl ?_
    refine e_get (pc := 35) dX7_writes_35 fX7_62 rfl rfl ?_
    refine e_aloadn (pc := 38) dX7_writes_38 rfl ?_
    refine e_get (pc := 39) dX7_writes_39 fX7_175 rfl rfl ?_
    refine e_iload (pc := 42) dX7_writes_42 rfl ?_
    refine ast_figures (pc := 44) dX7_writes_44 i1 ?_
    refine e_aloadn (pc := 45) dX7_writes_45 rfl ?_
    refine e_dup (pc := 46) dX7_writes_46 rfl ?_
    refine e_get (pc := 47) dX7_writes_47 fX7_175 rfl rfl ?_
    refine e_iconst (v := 1) (pc := 50) dX7_writes_50 (by decide) ?_
    refine e_iadd (pc := 51) dX7_writes_51 ?_
    refine put_y_figureMany (pc := 52) dX7_writes_52 pX7_175 ?_
    refine e_iload (pc := 55) dX7_writes_55 rfl ?_
    refine e_iload (pc := 57) dX7_writes_57 rfl ?_
    refine e_isub (pc := 59) dX7_writes_59 ?_
    refine e_iloadn (pc := 60) dX7_writes_60 rfl ?_
    refine e_idiv (pc := 61) dX7_writes_61 gz ?_
    refine e_top (r2) ?_
    refine e_isw4 (pc := 62) dX7_writes_62 (Nat.le_of_ble_eq_true rfl) rfl ?_
    refine e_goto (pc := 64) dX7_writes_64 (t := 19) (by decide) ?_
    refine ih _ (done ++ [nI ((left - 1) % g + 1)]) _ _ _ (ydg_next hg e0 hl) (by omega) (yD_set3 hD _ _) ?_ ?_ ?_
    · show n 7 + 1 = _
      rw [h7, List.length_append]; exact nI_1 _
    · rw [List.length_append, h7, nIc (by omega)]
      show ((d 3).set done.length _).take (done.length + 1) = _
      rw [tk_set _ _ _ (by rw [hD.2.2.2]; omega), hx]
    · rw [← hfu, List.append_assoc]
      congr 1
      show _ = (ydg g (f + 1) left).map nI
      conv => rhs; unfold ydg
      rw [if_neg e0]
      rfl
theorem sp_y_writes {s u m n : Nat → Int32} {a c b d : Nat → List Int32} {q : List (Option Nat)} {h : Nat} {z : mc_W} {k v : Int32} (hL : yL b) (hV : yV m b) (h0 : vp_in k (b 0).length) (h1 : vp_in k (b 1).length) (hg : 2 ≤ (yfg m b k).toInt ∧ (yfg m b k).toInt ≤ 12) (hk : 0 ≤ (ymk m b k v).toInt ∧ (ymk m b k v).toInt < 131072) (hD : yD d) : mc_T yX7_writes cX7_writes 6 none 5 [.ref 29, .int k, .int v] (WW s a q u c h m b n d z) none (fun w' => ∃ n1 d1, yF (ywr m b k v) n1 d1 ∧ w' = WW s a q u c h m b n1 d1 z) := by
  refine mc_start (own := RX7) (ini := false) rfl (by decide +kernel) (fun h => by cases h) (Nat.le_of_ble_eq_true rfl) ?_
  show mc_E _ _ _ _ _ [some (.ref 29), some (.int k), some (.int v), none, none, none] [] _ _ _
  refine e_aloadn (pc := 0) dX7_writes_0 rfl ?_
  refine e_iloadn (pc := 1) dX7_writes_1 rfl ?_
  refine e_cvD (pc := 2) (sp_y_figuresOf h0 h1) dX7_writes_2 kX7_169 rfl rfl rfl rfl rfl (mc_CR_of (Nat.le_of_ble_eq_true rfl) (Nat.le_of_ble_eq_true rfl) (Nat.le_refl _) (Nat.le_refl _)) (Nat.le_of_ble_eq_true rfl) ?_
  refine e_top ((nI_back (x := yfg m b k) (by omega))) ?_
  refine e_isn3 (pc := 5) dX7_writes_5 (Nat.le_of_ble_eq_true rfl) rfl ?_
  refine e_aloadn (pc := 6) dX7_writes_6 rfl ?_
  refine e_iloadn (pc := 7) dX7_writes_7 rfl ?_
  refine e_iloadn (pc := 8) dX7_writes_8 rfl ?_
  refine e_cvX (pc := 9) (sp_y_makesOf hL hV h0 h1 hD) dX7_writes_9 kX7_178 rfl rfl rfl rfl rfl (mc_CR_of (Nat.le_of_ble_eq_true rfl) (Nat.le_of_ble_eq_true rfl) (Nat.le_refl _) (Nat.le_refl _)) (Nat.le_of_ble_eq_true rfl) (fun w1 hw1 => ?_)
  obtain ⟨d1, hD1, g3, rfl⟩ := hw1
  refine e_top ((nI_back hk.1)) ?_
  refine e_isw4 (pc := 12) dX7_writes_12 (Nat.le_of_ble_eq_true rfl) rfl ?_
  refine e_aloadn (pc := 14) dX7_writes_14 rfl ?_
  refine e_iconst (v := 0) (pc := 15) dX7_writes_15 (by decide) ?_
  refine put_y_figureMany (pc := 16) dX7_writes_16 pX7_175 ?_
  have e1 := tnc (x := yfg m b k) (by omega)
  have e2 := tnc hk.1
  exact lp_y_writes (full := yfull m b k v) h0 (by omega) (by omega) (yfull_len m b k v) 17 _ [] _ d1 none (by omega) (by omega) hD1 rfl rfl rfl
def yrs (g : Int32) (v : Int64) (f : Int32) : Int64 := if (999999999999 : Int64) < v * g.toInt64 + f.toInt64 then 999999999999 else v * g.toInt64 + f.toInt64
/-- what one with g figures reads -/
def yrd (g : Int32) (ds : List Int32) : Int64 := ds.foldl (yrs g) 0
theorem lp_y_reads {s u m n : Nat → Int32} {a c b d : Nat → List Int32} {q : List (Option Nat)} {h : Nat} {z : mc_W} {g : Int32} {tf : Bool} {xs ys : List Int32} {V : Int64} (hF : yF xs n d) (hx4 : xs.length ≤ 17) (hys : ys = if tf = true then xs.reverse else xs) :
    ∀ (r done : List Int32) (k : Nat) (acc : Int64), ys = done ++ r → k = done.length → r.foldl (yrs g) acc = V →
      mc_E RX7 cX7_readsBy 6 (mc_JM (some .long) false 1 0 0 (fun r' w' => r' = some (.long V) ∧ w' = WW s a q u c h m b n d z)) 5 [some (.ref 29), some (.int g), some (.int (mc_b tf)), some (.long acc), none, some (.int (nI k))] [] (WW s a q u c h m b n d z) 0 0 := by
  obtain ⟨hD, h7, hx⟩ := hF
  have hyl : ys.length = xs.length := by rw [hys]; split <;> simp
  intro r
  induction r with
  | nil =>
    intro done k acc h1 h2 h3
    have hk : k = xs.length := by rw [h2, ← hyl, h1]; simp
    have h3 : acc = V := h3
    subst h3
    refine e_iload (pc := 5) dX7_readsBy_5 rfl ?_
    refine e_aloadn (pc := 7) dX7_readsBy_7 rfl ?_
    refine e_get (pc := 8) dX7_readsBy_8 fX7_175 rfl rfl ?_
    refine e_icmp_ge (pc := 11) dX7_readsBy_11 (t := 66) (by decide) (fun _ => ?_) (fun c_11 => absurd (by rw [h7, hk]; exact nI_le (Nat.le_refl _) (by omega)) c_11)
    refine e_lloadn (pc := 66) dX7_readsBy_66 rfl ?_
    exact e_lret (pc := 67) dX7_readsBy_67 rfl (Nat.le_refl _) (Nat.le_refl _) ⟨rfl, rfl⟩
  | cons f0 r ih =>
    intro done k acc h1 h2 h3
    have hk : k < xs.length := by rw [h2, ← hyl, h1]; simp
    have hyk : ys.getD k 0 = f0 := by rw [h1, h2, List.getD_eq_getElem?_getD, List.getElem?_append_right (Nat.le_refl _), Nat.sub_self]; rfl
    have g2 : n 7 - 1 - nI k = nI (xs.length - 1 - k) := by rw [h7, nI_sub1 (by omega), pk_sub (by omega)]
    have iT : vp_in (n 7 - 1 - nI k) (d 3).length := by rw [g2, hD.2.2.2]; exact vp_in_nI (by omega) (by decide)
    have iF : vp_in (nI k) (d 3).length := by rw [hD.2.2.2]; exact vp_in_nI (by omega) (by decide)
    have vT : ¬ mc_b tf = 0 → (d 3).getD (n 7 - 1 - nI k).toNatClampNeg 0 = f0 := fun q => by
      rw [g2, nIc (by omega), tk_get hx (by omega), ← hyk, hys, if_pos (mc_b1.mp q), rv_get hk]
    have vF : mc_b tf = 0 → (d 3).getD (nI k).toNatClampNeg 0 = f0 := fun q => by
      rw [nIc (by omega), tk_get hx hk, ← hyk, hys, if_neg (by rw [mc_b0.mp q]; decide)]
    have h3 : r.foldl (yrs g) (yrs g acc f0) = V := h3
    have c1 : lg_cmp (acc * g.toInt64 + f0.toInt64) 999999999999 ≤ 0 → yrs g acc f0 = acc * g.toInt64 + f0.toInt64 := fun q => if_neg (mc_cmp_le.mp q)
    have c2 : ¬ lg_cmp (acc * g.toInt64 + f0.toInt64) 999999999999 ≤ 0 → yrs g acc f0 = 999999999999 := fun q => if_pos (Classical.not_not.mp (fun w => q (mc_cmp_le.mpr w)))
    refine e_iload (pc := 5) dX7_readsBy_5 rfl ?_
    refine e_aloadn (pc := 7) dX7_readsBy_7 rfl ?_
    refine e_get (pc := 8) dX7_readsBy_8 fX7_175 rfl rfl ?_
    refine e_icmp_ge (pc := 11) dX7_readsBy_11 (t := 66) (by decide) (fun c_11 => absurd c_11 (by rw [h7]; exact nI_ge (by omega) (by omega))) (fun _ => ?_)
    refine e_lloadn (pc := 14) dX7_readsBy_14 rfl ?_
    refine e_iloadn (pc := 15) dX7_readsBy_15 rfl ?_
    refine e_i2l (pc := 16) dX7_readsBy_16 ?_
    refine e_lmul (pc := 17) dX7_readsBy_17 ?_
    refine e_aloadn (pc := 18) dX7_readsBy_18 rfl ?_
    refine e_get (pc := 19) dX7_readsBy_19 fX7_62 rfl rfl ?_
    refine e_iloadn (pc := 22) dX7_readsBy_22 rfl ?_
    refine e_if_eq (pc := 23) dX7_readsBy_23 (t := 38) (by decide) (fun c_23 => ?_) (fun c_23 => ?_)
    · skip
      refine e_iload (pc := 38) dX7_readsBy_38 rfl ?_
      refine aldv_figures (pc := 40) dX7_readsBy_40 iF (vF c_23) ?_
      refine e_i2l (pc := 41) dX7_readsBy_41 ?_
      refine e_ladd (pc := 42) dX7_readsBy_42 ?_
      refine e_lsn3 (pc := 43) dX7_readsBy_43 (Nat.le_of_ble_eq_true rfl) rfl ?_
      refine e_lloadn (pc := 44) dX7_readsBy_44 rfl ?_
      refine e_ldc2 (pc := 45) dX7_readsBy_45 qX7_184 ?_
      refine e_lcmp (pc := 48) dX7_readsBy_48 ?_
      refine e_if_le (pc := 49) dX7_readsBy_49 (t := 58) (by decide) (fun c_49 => ?_) (fun c_49 => ?_)
      · skip
        refine e_lloadn (pc := 58) dX7_readsBy_58 rfl ?_
        refine e_lsn3 (pc := 59) dX7_readsBy_59 (Nat.le_of_ble_eq_true rfl) rfl ?_
        refine e_incC5 (pc := 60) dX7_readsBy_60 (nI_1 k) (Nat.le_of_ble_eq_true rfl) rfl ?_
        refine e_goto (pc := 63) dX7_readsBy_63 (t := 5) (by decide) ?_
        exact ih (done ++ [f0]) (k + 1) _ (by rw [h1]; simp) (by rw [h2]; simp) (by rw [← c1 c_49]; exact h3)
      · skip
        refine e_ldc2 (pc := 52) dX7_readsBy_52 qX7_184 ?_
        refine e_goto (pc := 55) dX7_readsBy_55 (t := 59) (by decide) ?_
        refine e_lsn3 (pc := 59) dX7_readsBy_59 (Nat.le_of_ble_eq_true rfl) rfl ?_
        refine e_incC5 (pc := 60) dX7_readsBy_60 (nI_1 k) (Nat.le_of_ble_eq_true rfl) rfl ?_
        refine e_goto (pc := 63) dX7_readsBy_63 (t := 5) (by decide) ?_
        exact ih (done ++ [f0]) (k + 1) _ (by rw [h1]; simp) (by rw [h2]; simp) (by rw [← c2 c_49]; exact h3)
    · skip
      refine e_aloadn (pc := 26) dX7_readsBy_26 rfl ?_
      refine e_get (pc := 27) dX7_readsBy_27 fX7_175 rfl rfl ?_
      refine e_iconst (v := 1) (pc := 30) dX7_readsBy_30 (by decide) ?_
      refine e_isub (pc := 31) dX7_readsBy_31 ?_
      refine e_iload (pc := 32) dX7_readsBy_32 rfl ?_
      refine e_isub (pc := 34) dX7_readsBy_34 ?_
      refine e_goto (pc := 35) dX7_readsBy_35 (t := 40) (by decide) ?_
      refine aldv_figures (pc := 40) dX7_readsBy_40 iT (vT c_23) ?_
      refine e_i2l (pc := 41) dX7_readsBy_41 ?_
      refine e_ladd (pc := 42) dX7_readsBy_42 ?_
      refine e_lsn3 (pc := 43) dX7_readsBy_43 (Nat.le_of_ble_eq_true rfl) rfl ?_
      refine e_lloadn (pc := 44) dX7_readsBy_44 rfl ?_
      refine e_ldc2 (pc := 45) dX7_readsBy_45 qX7_184 ?_
      refine e_lcmp (pc := 48) dX7_readsBy_48 ?_
      refine e_if_le (pc := 49) dX7_readsBy_49 (t := 58) (by decide) (fun c_49 => ?_) (fun c_49 => ?_)
      · skip
        refine e_lloadn (pc := 58) dX7_readsBy_58 rfl ?_
        refine e_lsn3 (pc := 59) dX7_readsBy_59 (Nat.le_of_ble_eq_true rfl) rfl ?_
        refine e_incC5 (pc := 60) dX7_readsBy_60 (nI_1 k) (Nat.le_of_ble_eq_true rfl) rfl ?_
        refine e_goto (pc := 63) dX7_readsBy_63 (t := 5) (by decide) ?_
        exact ih (done ++ [f0]) (k + 1) _ (by rw [h1]; simp) (by rw [h2]; simp) (by rw [← c1 c_49]; exact h3)
      · skip
        refine e_ldc2 (pc := 52) dX7_readsBy_52 qX7_184 ?_
        refine e_goto (pc := 55) dX7_readsBy_55 (t := 59) (by decide) ?_
        refine e_lsn3 (pc := 59) dX7_readsBy_59 (Nat.le_of_ble_eq_true rfl) rfl ?_
        refine e_incC5 (pc := 60) dX7_readsBy_60 (nI_1 k) (Nat.le_of_ble_eq_true rfl) rfl ?_
        refine e_goto (pc := 63) dX7_readsBy_63 (t := 5) (by decide) ?_
        exact ih (done ++ [f0]) (k + 1) _ (by rw [h1]; simp) (by rw [h2]; simp) (by rw [← c2 c_49]; exact h3)
theorem sp_y_readsBy {s u m n : Nat → Int32} {a c b d : Nat → List Int32} {q : List (Option Nat)} {h : Nat} {z : mc_W} {g : Int32} {tf : Bool} {xs : List Int32} (hF : yF xs n d) (hx4 : xs.length ≤ 17) : mc_D yX7_readsBy cX7_readsBy 6 (some .long) 1 [.ref 29, .int g, .int (mc_b tf)] (WW s a q u c h m b n d z) (some (.long (yrd g (if tf = true then xs.reverse else xs)))) (WW s a q u c h m b n d z) := by
  refine mc_start (own := RX7) (ini := false) rfl (by decide +kernel) (fun h => by cases h) (Nat.le_of_ble_eq_true rfl) ?_
  show mc_E _ _ _ _ _ [some (.ref 29), some (.int g), some (.int (mc_b tf)), none, none, none] [] _ _ _
  refine e_lconst (v := 0) (pc := 0) dX7_readsBy_0 (by decide) ?_
  refine e_lsn3 (pc := 1) dX7_readsBy_1 (Nat.le_of_ble_eq_true rfl) rfl ?_
  refine e_iconst (v := 0) (pc := 2) dX7_readsBy_2 (by decide) ?_
  refine e_isw5 (pc := 3) dX7_readsBy_3 (Nat.le_of_ble_eq_true rfl) rfl ?_
  exact lp_y_reads hF hx4 rfl _ [] 0 0 rfl rfl rfl
