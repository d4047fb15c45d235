/-! ===== what a hand writes, reads ===== -/
/-- the figures xs stand on the hand's row -/
def xRw (u : Nat → Int32) (c : Nat → List Int32) (xs : List Int32) : Prop := u 7 = nI xs.length ∧ (c 5).take xs.length = xs ∧ (c 5).length = 40 ∧ xs.length ≤ 17
def hfull (K mo nu ba ye : Int32) (sg : Nat → List Int32) (v : Int32) : List Int32 := (ydg (yy_fg K mo ba).toNatClampNeg 17 (hmk K mo nu ba ye sg v).toNatClampNeg).map nI
def hwr (K mo nu ba ye : Int32) (sg : Nat → List Int32) (v : Int32) : List Int32 := if yy_it K = true then hfull K mo nu ba ye sg v else (hfull K mo nu ba ye sg v).reverse
theorem hfull_len (K mo nu ba ye : Int32) (sg : Nat → List Int32) (v : Int32) : (hfull K mo nu ba ye sg v).length ≤ 17 := by unfold hfull; rw [List.length_map]; exact ydg_len _ _ _
theorem hwr_len (K mo nu ba ye : Int32) (sg : Nat → List Int32) (v : Int32) : (hwr K mo nu ba ye sg v).length ≤ 17 := by
  unfold hwr; split
  · exact hfull_len K mo nu ba ye sg v
  · rw [List.length_reverse]; exact hfull_len K mo nu ba ye sg v
theorem nI_m1 {N k : Nat} : nI N - nI k + Int32.ofInt (-1) = nI N - nI (k + 1) := by
  rw [← nI_1 k, show Int32.ofInt (-1) = (-1 : Int32) by decide, Int32.sub_eq_add_neg, Int32.sub_eq_add_neg, Int32.neg_add, Int32.sub_eq_add_neg, Int32.add_assoc]

theorem lp_x_turn {s u m n : Nat → Int32} {a c b d : Nat → List Int32} {q : List (Option Nat)} {h : Nat} {z : mc_W} {N : Nat} {xs : List Int32} (hN : N = xs.length) (hN4 : N ≤ 17) :
    ∀ (t k : Nat) (R : List Int32) (x3 : Option Value), N ≤ k + t → k ≤ 17 → R.length = 40 → (∀ i, i < N → R.getD i 0 = if i < k ∨ N - k ≤ i then xs.getD (N - 1 - i) 0 else xs.getD i 0) →
      mc_E RX1 cX1_turnRow 4 (mc_JM none false 1 0 0 (fun r' w' => r' = none ∧ ∃ R, R.length = 40 ∧ R.take N = xs.reverse ∧ w' = (WW s a q u (mc_up c 5 R) h m b n d z))) 9 [some (.ref 17), some (.int (nI k)), some (.int (nI N - nI (k + 1))), x3] [] (WW s a q u (mc_up c 5 R) h m b n d z) 0 0 := by
  have DONE : ∀ (k : Nat) (R : List Int32) (x3 : Option Value), N ≤ 2 * k + 1 → k ≤ 17 → R.length = 40 → (∀ i, i < N → R.getD i 0 = if i < k ∨ N - k ≤ i then xs.getD (N - 1 - i) 0 else xs.getD i 0) → mc_E RX1 cX1_turnRow 4 (mc_JM none false 1 0 0 (fun r' w' => r' = none ∧ ∃ R, R.length = 40 ∧ R.take N = xs.reverse ∧ w' = (WW s a q u (mc_up c 5 R) h m b n d z))) 9 [some (.ref 17), some (.int (nI k)), some (.int (nI N - nI (k + 1))), x3] [] (WW s a q u (mc_up c 5 R) h m b n d z) 0 0 := by
    intro k R x3 hk hk17 hR hx
    have hfin : R.take N = xs.reverse := by
      refine tk_of (by rw [List.length_reverse]; exact hN) (by omega) fun i hi => ?_
      rw [hx i hi, rv_get (by omega), ← hN]
      by_cases h1 : i < k ∨ N - k ≤ i
      · rw [if_pos h1]
      · rw [if_neg h1]; congr 1; omega
    have g1 : nI N - nI (k + 1) ≤ nI k := by
      rw [Int32.le_iff_toInt_le, pk_sub_toInt (by omega) (by omega), nI_toInt (by omega)]; omega
    refine e_iloadn (pc := 9) dX1_turnRow_9 rfl ?_
    refine e_iloadn (pc := 10) dX1_turnRow_10 rfl ?_
    refine e_icmp_ge (pc := 11) dX1_turnRow_11 (t := 58) (by decide) (fun _ => ?_) (fun c_11 => absurd g1 c_11)
    exact e_vret (pc := 58) dX1_turnRow_58 rfl (Nat.le_refl _) (Nat.le_refl _) ⟨rfl, R, hR, hfin, rfl⟩
  intro t
  induction t with
  | zero => intro k R x3 hk hk17 hR hx; exact DONE k R x3 (by omega) hk17 hR hx
  | succ t ih =>
    intro k R x3 hk hk17 hR hx
    by_cases hk2 : N ≤ 2 * k + 1
    · exact DONE k R x3 hk2 hk17 hR hx
    have g2 : nI N - nI (k + 1) = nI (N - (k + 1)) := pk_sub (by omega)
    have e5 : ∀ l : List Int32, (mc_up c 5 l) 5 = l := fun l => rfl
    have v1 : ((mc_up c 5 R) 5).getD (nI k).toNatClampNeg 0 = xs.getD k 0 := by rw [e5, nIc (by omega), hx k (by omega), if_neg (by omega)]
    have v2 : ((mc_up c 5 R) 5).getD (nI N - nI (k + 1)).toNatClampNeg 0 = xs.getD (N - (k + 1)) 0 := by rw [e5, g2, nIc (by omega), hx _ (by omega), if_neg (by omega)]
    have i1 : vp_in (nI k) ((mc_up c 5 R) 5).length := by rw [e5, hR]; exact vp_in_nI (by omega) (by decide)
    have i2 : vp_in (nI N - nI (k + 1)) ((mc_up c 5 R) 5).length := by rw [e5, hR, g2]; exact vp_in_nI (by omega) (by decide)
    refine e_iloadn (pc := 9) dX1_turnRow_9 rfl ?_
    refine e_iloadn (pc := 10) dX1_turnRow_10 rfl ?_
    refine e_icmp_ge (pc := 11) dX1_turnRow_11 (t := 58) (by decide) (fun c_11 => absurd c_11 (by rw [g2]; exact nI_ge (by omega) (by omega))) (fun _ => ?_)
    refine e_iloadn (pc := 14) dX1_turnRow_14 rfl ?_
    refine e_aloadn (pc := 15) dX1_turnRow_15 rfl ?_
    refine e_get (pc := 16) dX1_turnRow_16 fX1_18 rfl rfl ?_
    refine e_alen (pc := 19) dX1_turnRow_19 rfl (show Int32.ofNat ((mc_up c 5 R) 5).length = nI 40 by rw [e5, hR]; rfl) ?_
    refine e_icmp_ge (pc := 20) dX1_turnRow_20 (t := 58) (by decide) (fun c_20 => absurd c_20 (by rw [g2]; exact nI_ge (by omega) (by decide))) (fun _ => ?_)
    refine e_aloadn (pc := 23) dX1_turnRow_23 rfl ?_
    refine e_get (pc := 24) dX1_turnRow_24 fX1_18 rfl rfl ?_
    refine e_iloadn (pc := 27) dX1_turnRow_27 rfl ?_
    refine aldv_row (pc := 28) dX1_turnRow_28 i1 v1 ?_
    refine e_isn3 (pc := 29) dX1_turnRow_29 (Nat.le_of_ble_eq_true rfl) rfl ?_
    refine e_aloadn (pc := 30) dX1_turnRow_30 rfl ?_
    refine e_get (pc := 31) dX1_turnRow_31 fX1_18 rfl rfl ?_
    refine e_iloadn (pc := 34) dX1_turnRow_34 rfl ?_
    refine e_aloadn (pc := 35) dX1_turnRow_35 rfl ?_
    refine e_get (pc := 36) dX1_turnRow_36 fX1_18 rfl rfl ?_
    refine e_iloadn (pc := 39) dX1_turnRow_39 rfl ?_
    refine aldv_row (pc := 40) dX1_turnRow_40 i2 v2 ?_
    refine ast_row (pc := 41) dX1_turnRow_41 i1 ?_
    refine e_aloadn (pc := 42) dX1_turnRow_42 rfl ?_
    refine e_get (pc := 43) dX1_turnRow_43 fX1_18 rfl rfl ?_
    refine e_iloadn (pc := 46) dX1_turnRow_46 rfl ?_
    refine e_iloadn (pc := 47) dX1_turnRow_47 rfl ?_
    refine ast_row (pc := 48) dX1_turnRow_48 (by show vp_in _ (List.set _ _ _).length; rw [List.length_set]; exact i2) ?_
    refine e_incC1 (pc := 49) dX1_turnRow_49 (nI_1 k) (Nat.le_of_ble_eq_true rfl) rfl ?_
    refine e_incC2 (pc := 52) dX1_turnRow_52 nI_m1 (Nat.le_of_ble_eq_true rfl) rfl ?_
    refine e_goto (pc := 55) dX1_turnRow_55 (t := 9) (by decide) ?_
    refine e_w (w2 := (WW s a q u (mc_up c 5 ((R.set k (xs.getD (N - (k + 1)) 0)).set (N - (k + 1)) (xs.getD k 0))) h m b n d z)) (by simp only [up_up, up_at]; rw [g2, nIc (by omega), nIc (by omega)]) ?_
    refine ih (k + 1) _ _ (by omega) (by omega) (by rw [List.length_set, List.length_set]; exact hR) (fun i hi => ?_)
    rw [gD_set (by rw [List.length_set]; omega), gD_set (by omega), hx i hi]
    by_cases h1 : i = N - (k + 1)
    · rw [if_pos h1, if_pos (by omega)]; congr 1; omega
    · rw [if_neg h1]
      by_cases h2 : i = k
      · rw [if_pos h2, if_pos (by omega)]; congr 1; omega
      · rw [if_neg h2]
        by_cases h3 : i < k ∨ N - k ≤ i
        · rw [if_pos h3, if_pos (by omega)]
        · rw [if_neg h3, if_neg (by omega)]
theorem sp_x_turn {s u m n : Nat → Int32} {a c b d : Nat → List Int32} {q : List (Option Nat)} {h : Nat} {z : mc_W} {xs : List Int32} (hF : xRw u c xs) : mc_T yX1_turnRow cX1_turnRow 4 none 1 [.ref 17] (WW s a q u c h m b n d z) none (fun w' => ∃ R, R.length = 40 ∧ R.take xs.length = xs.reverse ∧ w' = (WW s a q u (mc_up c 5 R) h m b n d z)) := by
  refine mc_start (own := RX1) (ini := false) rfl (by decide +kernel) (fun h => by cases h) (Nat.le_of_ble_eq_true rfl) ?_
  show mc_E _ _ _ _ _ [some (.ref 17), none, none, none] [] _ _ _
  refine e_iconst (v := 0) (pc := 0) dX1_turnRow_0 (by decide) ?_
  refine e_isn1 (pc := 1) dX1_turnRow_1 (Nat.le_of_ble_eq_true rfl) rfl ?_
  refine e_aloadn (pc := 2) dX1_turnRow_2 rfl ?_
  refine e_get (pc := 3) dX1_turnRow_3 fX1_61 rfl rfl ?_
  refine e_iconst (v := 1) (pc := 6) dX1_turnRow_6 (by decide) ?_
  refine e_isub (pc := 7) dX1_turnRow_7 ?_
  refine e_isn2 (pc := 8) dX1_turnRow_8 (Nat.le_of_ble_eq_true rfl) rfl ?_
  refine e_w (w2 := (WW s a q u (mc_up c 5 (c 5)) h m b n d z)) (by rw [mc_up_self]) ?_
  rw [hF.1]
  exact lp_x_turn rfl hF.2.2.2 xs.length 0 (c 5) _ (by omega) (by omega) hF.2.2.1 (fun i hi => by rw [if_neg (by omega)]; exact tk_get hF.2.1 hi)
set_option maxHeartbeats 1000000 in
theorem lp_x_write {s u m n : Nat → Int32} {a c b d : Nat → List Int32} {q : List (Option Nat)} {h : Nat} {z : mc_W} {Post : Option Value → mc_W → Prop} {v : Int32} {g : Nat} {full : List Int32} (hg : 2 ≤ g) (hg2 : g ≤ 12) (hf : full.length ≤ 17)
    (hK : ∀ (R : List Int32) (x4 : Option Value), R.length = 40 → R.take full.length = full → mc_E RX1 cX1_write 5 (mc_JM none false 6 0 0 Post) 76 [some (.ref 17), some (.int v), some (.int (nI g)), some (.int (nI 0)), x4] [] (WW s a q (mc_up u 7 (nI full.length)) (mc_up c 5 R) h m b n d z) 0 0) :
    ∀ (f left : Nat) (done R : List Int32) (x4 : Option Value), left < 2 ^ f → f ≤ 17 → R.length = 40 → R.take done.length = done → done ++ (ydg g f left).map nI = full →
      mc_E RX1 cX1_write 5 (mc_JM none false 6 0 0 Post) 20 [some (.ref 17), some (.int v), some (.int (nI g)), some (.int (nI left)), x4] [] (WW s a q (mc_up u 7 (nI done.length)) (mc_up c 5 R) h m b n d z) 0 0 := by
  intro f
  induction f with
  | zero =>
    intro left done R x4 hl _ hR hx hfu
    have e0 : left = 0 := by simp at hl; omega
    subst e0
    rw [ydg_0, List.map_nil, List.append_nil] at hfu
    subst hfu
    refine e_iloadn (pc := 20) dX1_write_20 rfl ?_
    refine e_if_le (pc := 21) dX1_write_21 (t := 76) (by decide) (fun _ => ?_) (fun c_21 => absurd (by decide) c_21)
    exact hK _ _ hR hx
  | succ f ih =>
    intro left done R x4 hl hf17 hR hx hfu
    by_cases e0 : left = 0
    · subst e0
      rw [ydg_0, List.map_nil, List.append_nil] at hfu
      subst hfu
      refine e_iloadn (pc := 20) dX1_write_20 rfl ?_
      refine e_if_le (pc := 21) dX1_write_21 (t := 76) (by decide) (fun _ => ?_) (fun c_21 => absurd (by decide) c_21)
      exact hK _ _ hR hx
    have hp : 2 ^ (f + 1) ≤ 2 ^ 17 := Nat.pow_le_pow_right (by decide) hf17
    have hL31 : left < 2 ^ 31 := by omega
    have hdl : done.length < 17 := by
      have := congrArg List.length hfu
      rw [List.length_append, List.length_map] at this
      have h2 : 1 ≤ (ydg g (f + 1) left).length := by unfold ydg; rw [if_neg e0]; simp
      omega
    have e5 : ∀ l : List Int32, (mc_up c 5 l) 5 = l := fun l => rfl
    have e7 : ∀ x : Int32, (mc_up u 7 x) 7 = x := fun l => rfl
    have r1 : nI left - 1 - (nI left - 1) / nI g * nI g = nI ((left - 1) % g) := by rw [nI_sub1 (by omega)]; exact pk_rem (by omega) (by omega) (by omega)
    have hm : (left - 1) % g < g := Nat.mod_lt _ (by omega)
    have hm2 : (left - 1) % g ≤ left - 1 := Nat.mod_le _ _
    have r2 : (nI left - nI ((left - 1) % g + 1)) / nI g = nI ((left - ((left - 1) % g + 1)) / g) := by rw [pk_sub (by omega)]; exact pk_div (by omega) (by omega) (by omega)
    have i1 : vp_in ((mc_up u 7 (nI done.length)) 7) ((mc_up c 5 R) 5).length := by rw [e7, e5, hR]; exact vp_in_nI (by omega) (by decide)
    have gz : ¬ nI g = 0 := nI_ne0 (by omega) (by omega)
    refine e_iloadn (pc := 20) dX1_write_20 rfl ?_
    refine e_if_le (pc := 21) dX1_write_21 (t := 76) (by decide) (fun c_21 => absurd c_21 (nI_nle (by omega) hL31)) (fun _ => ?_)
    refine e_aloadn (pc := 24) dX1_write_24 rfl ?_
    refine e_get (pc := 25) dX1_write_25 fX1_61 rfl rfl ?_
    refine e_aloadn (pc := 28) dX1_write_28 rfl ?_
    refine e_get (pc := 29) dX1_write_29 fX1_18 rfl rfl ?_
    refine e_alen (pc := 32) dX1_write_32 rfl (show Int32.ofNat ((mc_up c 5 R) 5).length = nI 40 by rw [e5, hR]; rfl) ?_
    refine e_icmp_ge (pc := 33) dX1_write_33 (t := 76) (by decide) (fun c_33 => absurd c_33 (by rw [e7]; exact nI_ge (by omega) (by decide))) (fun _ => ?_)
    refine e_iloadn (pc := 36) dX1_write_36 rfl ?_
    refine e_iconst (v := 1) (pc := 37) dX1_write_37 (by decide) ?_
    refine e_isub (pc := 38) dX1_write_38 ?_
    refine e_iloadn (pc := 39) dX1_write_39 rfl ?_
    refine e_irem (pc := 40) dX1_write_40 gz ?_
    refine e_top (r1) ?_
    refine e_iconst (v := 1) (pc := 41) dX1_write_41 (by decide) ?_
    refine e_iadd (pc := 42) dX1_write_42 ?_
    refine e_top (nI_1 _) ?_
    refine e_isw4 (pc := 43) dX1_write_43 (Nat.le_of_ble_eq_true rfl) rfl ?_
    refine e_aloadn (pc := 45) dX1_write_45 rfl ?_
    refine e_get (pc := 46) dX1_write_46 fX1_18 rfl rfl ?_
    refine e_aloadn (pc := 49) dX1_write_49 rfl ?_
    refine e_get (pc := 50) dX1_write_50 fX1_61 rfl rfl ?_
    refine e_iload (pc := 53) dX1_write_53 rfl ?_
    refine ast_row (pc := 55) dX1_write_55 i1 ?_
    refine e_aloadn (pc := 56) dX1_write_56 rfl ?_
    refine e_dup (pc := 57) dX1_write_57 rfl ?_
    refine e_get (pc := 58) dX1_write_58 fX1_61 rfl rfl ?_
    refine e_iconst (v := 1) (pc := 61) dX1_write_61 (by decide) ?_
    refine e_iadd (pc := 62) dX1_write_62 ?_
    refine put_hand_many (pc := 63) dX1_write_63 pX1_61 ?_
    refine e_iloadn (pc := 66) dX1_write_66 rfl ?_
    refine e_iload (pc := 67) dX1_write_67 rfl ?_
    refine e_isub (pc := 69) dX1_write_69 ?_
    refine e_iloadn (pc := 70) dX1_write_70 rfl ?_
    refine e_idiv (pc := 71) dX1_write_71 gz ?_
    refine e_top (r2) ?_
    refine e_isn3 (pc := 72) dX1_write_72 (Nat.le_of_ble_eq_true rfl) rfl ?_
    refine e_goto (pc := 73) dX1_write_73 (t := 20) (by decide) ?_
    refine e_w (w2 := (WW s a q (mc_up u 7 (nI (done.length + 1))) (mc_up c 5 (R.set done.length (nI ((left - 1) % g + 1)))) h m b n d z)) (by rw [up_up, e5, up_up, e7, nIc (by omega), nI_1]) ?_
    have q1 : nI (done.length + 1) = nI (done ++ [nI ((left - 1) % g + 1)]).length := by rw [List.length_append]; rfl
    rw [q1]
    refine ih _ (done ++ [nI ((left - 1) % g + 1)]) _ _ (ydg_next hg e0 hl) (by omega) (by rw [List.length_set]; exact hR) ?_ ?_
    · rw [List.length_append]
      show (R.set done.length _).take (done.length + 1) = _
      rw [tk_set _ _ _ (by omega), hx]
    · rw [← hfu, List.append_assoc]
      congr 1
      show _ = (ydg g (f + 1) left).map nI
      conv => rhs; unfold ydg
      rw [if_neg e0]
      rfl
theorem up_up2 {α : Type} {f : Nat → α} {k : Nat} {x y : α} : mc_up (mc_up f k x) k y = mc_up f k y := up_up
theorem sp_x_write {s u m n : Nat → Int32} {a c b d : Nat → List Int32} {q : List (Option Nat)} {h : Nat} {z : mc_W} {K mo nu ba ye : Int32} {sg : Nat → List Int32} {v : Int32} (hH : xHd q z h u c K mo nu ba ye sg) (hmB : 0 ≤ (hmk K mo nu ba ye sg v).toInt ∧ (hmk K mo nu ba ye sg v).toInt < 131072) : mc_T yX1_write cX1_write 5 none 6 [.ref 17, .int v] (WW s a q u c h m b n d z) none (fun w1 => ∃ u1 c1, xHd q z h u1 c1 K mo nu ba ye sg ∧ xKc c c1 ∧ xRw u1 c1 (hwr K mo nu ba ye sg v) ∧ w1 = (WW s a q u1 c1 h m b n d z)) := by
  refine mc_start (own := RX1) (ini := false) rfl (by decide +kernel) (fun h => by cases h) (Nat.le_of_ble_eq_true rfl) ?_
  show mc_E _ _ _ _ _ [some (.ref 17), some (.int v), none, none, none] [] _ _ _
  obtain ⟨⟨cd, sa, ca, hX, hR⟩, hK, ⟨x2, x3, hc3⟩, h48, h40, hK5, hm9, hb12⟩ := id hH
  refine e_iconst (v := 2) (pc := 0) dX1_write_0 (by decide) ?_
  refine e_aloadn (pc := 1) dX1_write_1 rfl ?_
  refine e_cvD (pc := 2) (sp_x_figures hH) dX1_write_2 kX1_53 rfl rfl rfl rfl rfl (mc_CR_of (Nat.le_of_ble_eq_true rfl) (Nat.le_of_ble_eq_true rfl) (Nat.le_refl _) (Nat.le_refl _)) (Nat.le_of_ble_eq_true rfl) ?_
  refine e_max (pc := 5) dX1_write_5 mX1_29 (mc_JR_of (Nat.le_of_ble_eq_true rfl) (Nat.le_refl _) (Nat.le_refl _) (Nat.le_of_ble_eq_true rfl)) ?_
  rw [hfg_max, hfg_ba (hfg_in hm9 hb12).1]
  refine e_top ((nI_back (x := yy_fg K mo ba) (by have := hfg_in (K := K) hm9 hb12; omega))) ?_
  refine e_isn2 (pc := 8) dX1_write_8 (Nat.le_of_ble_eq_true rfl) rfl ?_
  refine e_aloadn (pc := 9) dX1_write_9 rfl ?_
  refine e_iloadn (pc := 10) dX1_write_10 rfl ?_
  refine e_cvX (pc := 11) (sp_x_makes hH) dX1_write_11 kX1_57 rfl rfl rfl rfl rfl (mc_CR_of (Nat.le_of_ble_eq_true rfl) (Nat.le_of_ble_eq_true rfl) (Nat.le_refl _) (Nat.le_refl _)) (Nat.le_of_ble_eq_true rfl) (fun w1 hw1 => ?_)
  obtain ⟨c1, hH1, hk1, hr5, rfl⟩ := hw1
  refine e_top ((nI_back hmB.1)) ?_
  refine e_isn3 (pc := 14) dX1_write_14 (Nat.le_of_ble_eq_true rfl) rfl ?_
  refine e_aloadn (pc := 15) dX1_write_15 rfl ?_
  refine e_iconst (v := 0) (pc := 16) dX1_write_16 (by decide) ?_
  refine put_hand_many (pc := 17) dX1_write_17 pX1_61 ?_
  have eg := hfg_in (K := K) hm9 hb12
  have e1 := tnc (x := yy_fg K mo ba) (by omega)
  have e2 := tnc hmB.1
  obtain ⟨hT1, hK1, hc1, h481, h401, hr1⟩ := id hH1
  refine e_w (w2 := (WW s a q (mc_up (mc_up u 7 0) 7 (nI ([] : List Int32).length)) (mc_up c1 5 (c1 5)) h m b n d z)) rfl ?_
  refine lp_x_write (u := mc_up u 7 0) (c := c1) (full := hfull K mo nu ba ye sg v) (by omega) (by omega) (hfull_len K mo nu ba ye sg v) (fun R x4 hR hx => ?_) 17 _ [] (c1 5) none (by omega) (by omega) h401 rfl rfl
  refine e_aloadn (pc := 76) dX1_write_76 rfl ?_
  refine e_cvD (pc := 77) (sp_x_isTurned (u := (mc_up (mc_up u 7 0) 7 (nI (hfull K mo nu ba ye sg v).length))) (c := mc_up c1 5 R) ⟨hT1, hK1, hc1, h481, hR, hr1⟩) dX1_write_77 kX1_64 rfl rfl rfl rfl rfl (mc_CR_of (Nat.le_of_ble_eq_true rfl) (Nat.le_of_ble_eq_true rfl) (Nat.le_refl _) (Nat.le_refl _)) (Nat.le_of_ble_eq_true rfl) ?_
  refine e_if_ne (pc := 80) dX1_write_80 (t := 87) (by decide) (fun c_80 => ?_) (fun c_80 => ?_)
  · skip
    exact e_vret (pc := 87) dX1_write_87 rfl (Nat.le_refl _) (Nat.le_refl _) ⟨rfl, (mc_up (mc_up u 7 0) 7 (nI (hfull K mo nu ba ye sg v).length)), mc_up c1 5 R, ⟨hT1, hK1, hc1, h481, hR, hr1⟩, hk1, by unfold hwr; rw [if_pos (mc_b1.mp c_80)]; exact ⟨rfl, hx, hR, hfull_len K mo nu ba ye sg v⟩, rfl⟩
  · skip
    refine e_aloadn (pc := 83) dX1_write_83 rfl ?_
    refine e_cvY (pc := 84) (sp_x_turn (u := (mc_up (mc_up u 7 0) 7 (nI (hfull K mo nu ba ye sg v).length))) (c := mc_up c1 5 R) (xs := hfull K mo nu ba ye sg v) ⟨rfl, hx, hR, hfull_len K mo nu ba ye sg v⟩) dX1_write_84 kX1_68 rfl rfl rfl rfl rfl (mc_CR_of (Nat.le_of_ble_eq_true rfl) (Nat.le_of_ble_eq_true rfl) (Nat.le_refl _) (Nat.le_refl _)) (Nat.le_of_ble_eq_true rfl) (fun w1 hw1 => ?_)
    obtain ⟨R2, hR2, hx2, rfl⟩ := hw1
    exact e_vret (pc := 87) dX1_write_87 rfl (Nat.le_refl _) (Nat.le_refl _) ⟨rfl, (mc_up (mc_up u 7 0) 7 (nI (hfull K mo nu ba ye sg v).length)), mc_up (mc_up c1 5 R) 5 R2, ⟨hT1, hK1, hc1, h481, hR2, hr1⟩, hk1, by unfold hwr; rw [if_neg (by rw [mc_b0.mp c_80]; decide)]; exact ⟨by rw [List.length_reverse]; rfl, by rw [List.length_reverse]; exact hx2, hR2, by rw [List.length_reverse]; exact hfull_len K mo nu ba ye sg v⟩, rfl⟩
theorem sp_x_many {s u m n : Nat → Int32} {a c b d : Nat → List Int32} {q : List (Option Nat)} {h : Nat} {z : mc_W} : mc_D yX1_many cX1_many 1 (some .int) 1 [.ref 17] (WW s a q u c h m b n d z) (some (.int (u 7))) (WW s a q u c h m b n d z) := by
  refine mc_start (own := RX1) (ini := false) rfl (by decide +kernel) (fun h => by cases h) (Nat.le_of_ble_eq_true rfl) ?_
  show mc_E _ _ _ _ _ [some (.ref 17)] [] _ _ _
  refine e_aloadn (pc := 0) dX1_many_0 rfl ?_
  refine e_get (pc := 1) dX1_many_1 fX1_61 rfl rfl ?_
  exact e_iret (pc := 4) dX1_many_4 rfl (Nat.le_refl _) (Nat.le_refl _) ⟨rfl, rfl⟩
theorem sp_x_written {s u m n : Nat → Int32} {a c b d : Nat → List Int32} {q : List (Option Nat)} {h : Nat} {z : mc_W} {xs : List Int32} {i : Int32} {j : Nat} (hF : xRw u c xs) (hi : i = nI j) (hj : j < xs.length) : mc_D yX1_written cX1_written 2 (some .int) 1 [.ref 17, .int i] (WW s a q u c h m b n d z) (some (.int (xs.getD j 0))) (WW s a q u c h m b n d z) := by
  refine mc_start (own := RX1) (ini := false) rfl (by decide +kernel) (fun h => by cases h) (Nat.le_of_ble_eq_true rfl) ?_
  show mc_E _ _ _ _ _ [some (.ref 17), some (.int i)] [] _ _ _
  subst hi
  obtain ⟨h7, hx, h40, h17⟩ := hF
  refine e_iloadn (pc := 0) dX1_written_0 rfl ?_
  refine e_if_lt (pc := 1) dX1_written_1 (t := 30) (by decide) (fun c_1 => absurd c_1 (nI_pos (by omega))) (fun _ => ?_)
  refine e_iloadn (pc := 4) dX1_written_4 rfl ?_
  refine e_aloadn (pc := 5) dX1_written_5 rfl ?_
  refine e_get (pc := 6) dX1_written_6 fX1_61 rfl rfl ?_
  refine e_icmp_ge (pc := 9) dX1_written_9 (t := 30) (by decide) (fun c_9 => absurd c_9 (by rw [h7]; exact nI_ge hj (by omega))) (fun _ => ?_)
  refine e_iloadn (pc := 12) dX1_written_12 rfl ?_
  refine e_aloadn (pc := 13) dX1_written_13 rfl ?_
  refine e_get (pc := 14) dX1_written_14 fX1_18 rfl rfl ?_
  refine e_alen (pc := 17) dX1_written_17 rfl (show Int32.ofNat (c 5).length = nI 40 by rw [h40]; rfl) ?_
  refine e_icmp_ge (pc := 18) dX1_written_18 (t := 30) (by decide) (fun c_18 => absurd c_18 (nI_ge (by omega) (by decide))) (fun _ => ?_)
  refine e_aloadn (pc := 21) dX1_written_21 rfl ?_
  refine e_get (pc := 22) dX1_written_22 fX1_18 rfl rfl ?_
  refine e_iloadn (pc := 25) dX1_written_25 rfl ?_
  refine aldv_row (x := xs.getD j 0) (pc := 26) dX1_written_26 (by rw [h40]; exact vp_in_nI (by omega) (by decide)) (by rw [nIc (by omega)]; exact tk_get hx hj) ?_
  refine e_goto (pc := 27) dX1_written_27 (t := 31) (by decide) ?_
  exact e_iret (pc := 31) dX1_written_31 rfl (Nat.le_refl _) (Nat.le_refl _) ⟨rfl, rfl⟩
theorem lp_x_reads {s u m n : Nat → Int32} {a c b d : Nat → List Int32} {q : List (Option Nat)} {h : Nat} {z : mc_W} {g : Int32} {tf : Bool} {xs ys : List Int32} {V : Int64} (hF : xRw u c xs) (hys : ys = if tf = true then xs.reverse else xs) :
    ∀ (r done : List Int32) (k : Nat) (acc : Int64), ys = done ++ r → k = done.length → r.foldl (yrs g) acc = V →
      mc_E RX1 cX1_readWith 6 (mc_JM (some .long) false 2 0 0 (fun r' w' => r' = some (.long V) ∧ w' = (WW s a q u c h m b n d z))) 5 [some (.ref 17), some (.int g), some (.int (mc_b tf)), some (.long acc), none, some (.int (nI k))] [] (WW s a q u c h m b n d z) 0 0 := by
  have hx4 := hF.2.2.2
  have h7 := hF.1
  have hyl : ys.length = xs.length := by rw [hys]; split <;> simp
  intro r
  induction r with
  | nil =>
    intro done k acc h1 h2 h3
    have hk : k = xs.length := by rw [h2, ← hyl, h1]; simp
    have h3 : acc = V := h3
    subst h3
    refine e_iload (pc := 5) dX1_readWith_5 rfl ?_
    refine e_aloadn (pc := 7) dX1_readWith_7 rfl ?_
    refine e_get (pc := 8) dX1_readWith_8 fX1_61 rfl rfl ?_
    refine e_icmp_ge (pc := 11) dX1_readWith_11 (t := 55) (by decide) (fun _ => ?_) (fun c_11 => absurd (by rw [h7, hk]; exact nI_le (Nat.le_refl _) (by omega)) c_11)
    refine e_lloadn (pc := 55) dX1_readWith_55 rfl ?_
    exact e_lret (pc := 56) dX1_readWith_56 rfl (Nat.le_refl _) (Nat.le_refl _) ⟨rfl, rfl⟩
  | cons f0 r ih =>
    intro done k acc h1 h2 h3
    have hk : k < xs.length := by rw [h2, ← hyl, h1]; simp
    have hyk : ys.getD k 0 = f0 := by rw [h1, h2, List.getD_eq_getElem?_getD, List.getElem?_append_right (Nat.le_refl _), Nat.sub_self]; rfl
    have g2 : u 7 - 1 - nI k = nI (xs.length - 1 - k) := by rw [h7, nI_sub1 (by omega), pk_sub (by omega)]
    have vT : ¬ mc_b tf = 0 → xs.getD (xs.length - 1 - k) 0 = f0 := fun q => by
      rw [← hyk, hys, if_pos (mc_b1.mp q), rv_get hk]
    have vF : mc_b tf = 0 → xs.getD k 0 = f0 := fun q => by
      rw [← hyk, hys, if_neg (by rw [mc_b0.mp q]; decide)]
    have h3 : r.foldl (yrs g) (yrs g acc f0) = V := h3
    have hW : ∀ i j, i = nI j → j < xs.length → xs.getD j 0 = f0 → mc_D yX1_written cX1_written 2 (some .int) 1 [.ref 17, .int i] (WW s a q u c h m b n d z) (some (.int f0)) (WW s a q u c h m b n d z) := fun i j q1 q2 q3 => by rw [← q3]; exact sp_x_written hF q1 q2
    refine e_iload (pc := 5) dX1_readWith_5 rfl ?_
    refine e_aloadn (pc := 7) dX1_readWith_7 rfl ?_
    refine e_get (pc := 8) dX1_readWith_8 fX1_61 rfl rfl ?_
    refine e_icmp_ge (pc := 11) dX1_readWith_11 (t := 55) (by decide) (fun c_11 => absurd c_11 (by rw [h7]; exact nI_ge (by omega) (by omega))) (fun _ => ?_)
    refine e_lloadn (pc := 14) dX1_readWith_14 rfl ?_
    refine e_iloadn (pc := 15) dX1_readWith_15 rfl ?_
    refine e_i2l (pc := 16) dX1_readWith_16 ?_
    refine e_lmul (pc := 17) dX1_readWith_17 ?_
    refine e_aloadn (pc := 18) dX1_readWith_18 rfl ?_
    refine e_iloadn (pc := 19) dX1_readWith_19 rfl ?_
    refine e_if_eq (pc := 20) dX1_readWith_20 (t := 35) (by decide) (fun c_20 => ?_) (fun c_20 => ?_)
    · skip
      refine e_iload (pc := 35) dX1_readWith_35 rfl ?_
      refine e_cvD (pc := 37) (by first | exact hW _ k rfl hk (vF c_20) | exact hW _ (xs.length - 1 - k) g2 (by omega) (vT c_20)) dX1_readWith_37 kX1_71 rfl rfl rfl rfl rfl (mc_CR_of (Nat.le_of_ble_eq_true rfl) (Nat.le_of_ble_eq_true rfl) (Nat.le_refl _) (Nat.le_refl _)) (Nat.le_of_ble_eq_true rfl) ?_
      refine e_i2l (pc := 40) dX1_readWith_40 ?_
      refine e_ladd (pc := 41) dX1_readWith_41 ?_
      refine e_ldc2 (pc := 42) dX1_readWith_42 qX1_88 ?_
      refine e_minl (pc := 45) dX1_readWith_45 mX1_90 (mc_JR_of (Nat.le_of_ble_eq_true rfl) (Nat.le_refl _) (Nat.le_refl _) (Nat.le_of_ble_eq_true rfl)) ?_
      refine e_lsn3 (pc := 48) dX1_readWith_48 (Nat.le_of_ble_eq_true rfl) rfl ?_
      refine e_incC5 (pc := 49) dX1_readWith_49 (nI_1 k) (Nat.le_of_ble_eq_true rfl) rfl ?_
      refine e_goto (pc := 52) dX1_readWith_52 (t := 5) (by decide) ?_
      exact ih (done ++ [f0]) (k + 1) _ (by rw [h1]; simp) (by rw [h2]; simp) h3
    · skip
      refine e_aloadn (pc := 23) dX1_readWith_23 rfl ?_
      refine e_get (pc := 24) dX1_readWith_24 fX1_61 rfl rfl ?_
      refine e_iconst (v := 1) (pc := 27) dX1_readWith_27 (by decide) ?_
      refine e_isub (pc := 28) dX1_readWith_28 ?_
      refine e_iload (pc := 29) dX1_readWith_29 rfl ?_
      refine e_isub (pc := 31) dX1_readWith_31 ?_
      refine e_goto (pc := 32) dX1_readWith_32 (t := 37) (by decide) ?_
      refine e_cvD (pc := 37) (by first | exact hW _ k rfl hk (vF c_20) | exact hW _ (xs.length - 1 - k) g2 (by omega) (vT c_20)) dX1_readWith_37 kX1_71 rfl rfl rfl rfl rfl (mc_CR_of (Nat.le_of_ble_eq_true rfl) (Nat.le_of_ble_eq_true rfl) (Nat.le_refl _) (Nat.le_refl _)) (Nat.le_of_ble_eq_true rfl) ?_
      refine e_i2l (pc := 40) dX1_readWith_40 ?_
      refine e_ladd (pc := 41) dX1_readWith_41 ?_
      refine e_ldc2 (pc := 42) dX1_readWith_42 qX1_88 ?_
      refine e_minl (pc := 45) dX1_readWith_45 mX1_90 (mc_JR_of (Nat.le_of_ble_eq_true rfl) (Nat.le_refl _) (Nat.le_refl _) (Nat.le_of_ble_eq_true rfl)) ?_
      refine e_lsn3 (pc := 48) dX1_readWith_48 (Nat.le_of_ble_eq_true rfl) rfl ?_
      refine e_incC5 (pc := 49) dX1_readWith_49 (nI_1 k) (Nat.le_of_ble_eq_true rfl) rfl ?_
      refine e_goto (pc := 52) dX1_readWith_52 (t := 5) (by decide) ?_
      exact ih (done ++ [f0]) (k + 1) _ (by rw [h1]; simp) (by rw [h2]; simp) h3
theorem sp_x_readWith {s u m n : Nat → Int32} {a c b d : Nat → List Int32} {q : List (Option Nat)} {h : Nat} {z : mc_W} {g : Int32} {tf : Bool} {xs : List Int32} (hF : xRw u c xs) : mc_D yX1_readWith cX1_readWith 6 (some .long) 2 [.ref 17, .int g, .int (mc_b tf)] (WW s a q u c h m b n d z) (some (.long (yrd g (if tf = true then xs.reverse else xs)))) (WW s a q u c h m b n d z) := by
  refine mc_start (own := RX1) (ini := false) rfl (by decide +kernel) (fun h => by cases h) (Nat.le_of_ble_eq_true rfl) ?_
  show mc_E _ _ _ _ _ [some (.ref 17), some (.int g), some (.int (mc_b tf)), none, none, none] [] _ _ _
  refine e_lconst (v := 0) (pc := 0) dX1_readWith_0 (by decide) ?_
  refine e_lsn3 (pc := 1) dX1_readWith_1 (Nat.le_of_ble_eq_true rfl) rfl ?_
  refine e_iconst (v := 0) (pc := 2) dX1_readWith_2 (by decide) ?_
  refine e_isw5 (pc := 3) dX1_readWith_3 (Nat.le_of_ble_eq_true rfl) rfl ?_
  exact lp_x_reads hF rfl _ [] 0 0 rfl rfl rfl
theorem sp_x_readHim {s u m n : Nat → Int32} {a c b d : Nat → List Int32} {q : List (Option Nat)} {h : Nat} {z : mc_W} {K mo nu ba ye : Int32} {sg : Nat → List Int32} {xs : List Int32} (hH : xHd q z h u c K mo nu ba ye sg) (hF : xRw u c xs) : mc_D yX1_readHimself cX1_readHimself 1 (some .long) 3 [.ref 17] (WW s a q u c h m b n d z) (some (.long (yrd (yy_fg K mo ba) (if yy_it K = true then xs.reverse else xs)))) (WW s a q u c h m b n d z) := by
  refine mc_start (own := RX1) (ini := false) rfl (by decide +kernel) (fun h => by cases h) (Nat.le_of_ble_eq_true rfl) ?_
  show mc_E _ _ _ _ _ [some (.ref 17)] [] _ _ _
  refine e_aloadn (pc := 0) dX1_readHimself_0 rfl ?_
  refine e_aloadn (pc := 1) dX1_readHimself_1 rfl ?_
  refine e_cvD (pc := 2) (sp_x_figures hH) dX1_readHimself_2 kX1_53 rfl rfl rfl rfl rfl (mc_CR_of (Nat.le_of_ble_eq_true rfl) (Nat.le_of_ble_eq_true rfl) (Nat.le_refl _) (Nat.le_refl _)) (Nat.le_of_ble_eq_true rfl) ?_
  refine e_aloadn (pc := 5) dX1_readHimself_5 rfl ?_
  refine e_cvD (pc := 6) (sp_x_isTurned hH) dX1_readHimself_6 kX1_64 rfl rfl rfl rfl rfl (mc_CR_of (Nat.le_of_ble_eq_true rfl) (Nat.le_of_ble_eq_true rfl) (Nat.le_refl _) (Nat.le_refl _)) (Nat.le_of_ble_eq_true rfl) ?_
  refine e_cvD (pc := 9) (sp_x_readWith hF) dX1_readHimself_9 kX1_93 rfl rfl rfl rfl rfl (mc_CR_of (Nat.le_of_ble_eq_true rfl) (Nat.le_of_ble_eq_true rfl) (Nat.le_refl _) (Nat.le_refl _)) (Nat.le_of_ble_eq_true rfl) ?_
  exact e_lret (pc := 12) dX1_readHimself_12 rfl (Nat.le_refl _) (Nat.le_refl _) ⟨rfl, rfl⟩
theorem sp_x_readPl {s u m n : Nat → Int32} {a c b d : Nat → List Int32} {q : List (Option Nat)} {h : Nat} {z : mc_W} {K mo nu ba ye : Int32} {sg : Nat → List Int32} {xs : List Int32} (hH : xHd q z h u c K mo nu ba ye sg) (hF : xRw u c xs) : mc_D yX1_readPlainly cX1_readPlainly 1 (some .long) 3 [.ref 17] (WW s a q u c h m b n d z) (some (.long (yrd ba xs))) (WW s a q u c h m b n d z) := by
  refine mc_start (own := RX1) (ini := false) rfl (by decide +kernel) (fun h => by cases h) (Nat.le_of_ble_eq_true rfl) ?_
  show mc_E _ _ _ _ _ [some (.ref 17)] [] _ _ _
  obtain ⟨⟨cd, sa, ca, hX, hR⟩, hK, ⟨x2, x3, hc3⟩, h48, h40, hK5, hm9, hb12⟩ := id hH
  refine e_aloadn (pc := 0) dX1_readPlainly_0 rfl ?_
  refine e_aloadn (pc := 1) dX1_readPlainly_1 rfl ?_
  refine e_get (pc := 2) dX1_readPlainly_2 fX1_11 rfl rfl ?_
  refine e_iconst (v := 4) (pc := 5) dX1_readPlainly_5 (by decide) ?_
  refine aldv_names (pc := 6) dX1_readPlainly_6 (vi6 hc3 (by decide +kernel)) (show (c 3).getD _ 0 = ba by rw [hc3]; rfl) ?_
  refine e_iconst (v := 0) (pc := 7) dX1_readPlainly_7 (by decide) ?_
  refine e_cvD (pc := 8) (sp_x_readWith (tf := false) hF) dX1_readPlainly_8 kX1_93 rfl rfl rfl rfl rfl (mc_CR_of (Nat.le_of_ble_eq_true rfl) (Nat.le_of_ble_eq_true rfl) (Nat.le_refl _) (Nat.le_refl _)) (Nat.le_of_ble_eq_true rfl) ?_
  exact e_lret (pc := 11) dX1_readPlainly_11 rfl (Nat.le_refl _) (Nat.le_refl _) ⟨rfl, rfl⟩
