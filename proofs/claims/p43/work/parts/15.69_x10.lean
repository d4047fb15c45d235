section Zj_69_x10
/-! ===== what a hand writes, reads ===== -/
/-- the figures xs stand on the hand's row -/
def xRw (u : Nat → Int32) (c : Nat → List Int32) (xs : List Int32) : Prop := u 7 = nI xs.length ∧ (c 5).take xs.length = xs ∧ (c 5).length = 40 ∧ xs.length ≤ 17
def hfull (K mo nu ba ye : Int32) (sg : Nat → List Int32) (v : Int32) : List Int32 := (ydg (yy_fg K mo ba).toNatClampNeg 17 (hmk K mo nu ba ye sg v).toNatClampNeg).map nI
def hwr (K mo nu ba ye : Int32) (sg : Nat → List Int32) (v : Int32) : List Int32 := if yy_it K = true then hfull K mo nu ba ye sg v else (hfull K mo nu ba ye sg v).reverse
theorem hfull_len (K mo nu ba ye : Int32) (sg : Nat → List Int32) (v : Int32) : (hfull K mo nu ba ye sg v).length ≤ 17 := by unfold hfull; rw [List.length_map]; exact ydg_len _ _ _
theorem hwr_len (K mo nu ba ye : Int32) (sg : Nat → List Int32) (v : Int32) : (hwr K mo nu ba ye sg v).length ≤ 17 := by
  unfold hwr; split
  · exact hfull_len K mo nu ba ye sg v
  · rw [List.length_reverse]; exact hfull_len K mo nu ba ye sg v
theorem nI_m1 {N k : Nat} : nI N - nI k + Int32.ofInt (-1) = nI N - nI (k + 1) := by
  rw [← nI_1 k, show Int32.ofInt (-1) = (-1 : Int32) by decide, Int32.sub_eq_add_neg, Int32.sub_eq_add_neg, Int32.neg_add, Int32.sub_eq_add_neg, Int32.add_assoc]

theorem lp_x_turn {s u m n : Nat → Int32} {a c b d : Nat → List Int32} {q : List (Option Nat)} {h : Nat} {z : mc_W} {N : Nat} {xs : List Int32} (hN : N = xs.length) (hN4 : N ≤ 17) :
    ∀ (t k : Nat) (R : List Int32) (x3 : Option Value), N ≤ k + t → k ≤ 17 → R.length = 40 → (∀ i, i < N → R.getD i 0 = if i < k ∨ N - k ≤ i then xs.getD (N - 1 - i) 0 else xs.getD i 0) →
      mc_E RX1 cX1_turnRow 4 (mc_JM none false 1 0 0 (fun r' w' => r' = none ∧ ∃ R, R.length = 40 ∧ R.take N = xs.reverse ∧ w' = (WW s a q u (mc_up c 5 R) h m b n d z))) 9 [some (.ref 17), some (.int (nI k)), some (.int (nI N - nI (k + 1))), x3] [] (WW s a q u (mc_up c 5 R) h m b n d z) 0 0 := by
  have DONE : ∀ (k : Nat) (R : List Int32) (x3 : Option Value), N ≤ 2 * k + 1 → k ≤ 17 → R.length = 40 → (∀ i, i < N → R.getD i 0 = if i < k ∨ N - k ≤ i then xs.getD (N - 1 - i) 0 else xs.getD i 0) → mc_E RX1 cX1_turnRow 4 (mc_JM none false 1 0 0 (fun r' w' => r' = none ∧ ∃ R, R.length = 40 ∧ R.take N = xs.reverse ∧ w' = (WW s a q u (mc_up c 5 R) h m b n d z))) 9 [some (.ref 17), some (.int (nI k)), some (.int (nI N - nI (k + 1))), x3] [] (WW s a q u (mc_up c 5 R) h m b n d z) 0 0 := by
    intro k R x3 hk hk17 hR hx
    have hfin : R.take N = xs.reverse := by
      refine tk_of (by rw [List.length_reverse]; exact hN) (by omega) fun i hi => ?_
      rw [hx i hi, rv_get (by omega), ← hN]
      by_cases h1 : i < k ∨ N - k ≤ i
      · rw [if_pos h1]
      · rw [if_neg h1]; congr 1; omega
    have g1 : nI N - nI (k + 1) ≤ nI k := by
      rw [Int32.le_iff_toInt_le, pk_sub_toInt (by omega) (by omega), nI_toInt (by omega)]; omega
    refine e_iloadn (pc := 9) dX1_turnRow_9 rfl ?_
    refine e_iloadn (pc := 10) dX1_turnRow_10 rfl ?_
    refine e_icmp_ge (pc := 11) dX1_turnRow_11 (t := 58) (by decide) (fun _ => ?_) (fun c_11 => absurd g1 c_11)
    exact e_vret (pc := 58) dX1_turnRow_58 rfl (Nat.le_refl _) (Nat.le_refl _) ⟨rfl, R, hR, hfin, rfl⟩
  intro t
  induction t with
  | zero => intro k R x3 hk hk17 hR hx; exact DONE k R x3 (by omega) hk17 hR hx
  | succ t ih =>
    intro k R x3 hk hk17 hR hx
    by_cases hk2 : N ≤ 2 * k + 1
    · exact DONE k R x3 hk2 hk17 hR hx
    have g2 : nI N - nI (k + 1) = nI (N - (k + 1)) := pk_sub (by omega)
    have e5 : ∀ l : List Int32, (mc_up c 5 l) 5 = l := fun l => rfl
    have v1 : ((mc_up c 5 R) 5).getD (nI k).toNatClampNeg 0 = xs.getD k 0 := by rw [e5, nIc (by omega), hx k (by omega), if_neg (by omega)]
    have v2 : ((mc_up c 5 R) 5).getD (nI N - nI (k + 1)).toNatClampNeg 0 = xs.getD (N - (k + 1)) 0 := by rw [e5, g2, nIc (by omega), hx _ (by omega), if_neg (by omega)]
    have i1 : vp_in (nI k) ((mc_up c 5 R) 5).length := by rw [e5, hR]; exact vp_in_nI (by omega) (by decide)
    have i2 : vp_in (nI N - nI (k + 1)) ((mc_up c 5 R) 5).length := by rw [e5, hR, g2]; exact vp_in_nI (by omega) (by decide)
    refine e_iloadn (pc := 9) dX1_turnRow_9 rfl ?_
    refine e_iloadn (pc := 10) dX1_turnRow_10 rfl ?_
    refine e_icmp_ge (pc := 11) dX1_turnRow_11 (t := 58) (by decide) (fun c_11 => absurd c_11 (by rw [g2]; exact nI_ge (by omega) (by omega))) (fun _ => ?_)
    refine e_iloadn (pc := 14) dX1_turnRow_14 rfl ?_
    refine e_aloadn (pc := 15) dX1_turnRow_15 rfl ?_
    refine e_get (pc := 16) dX1_turnRow_16 fX1_18 rfl rfl ?_
    refine e_alen (pc := 19) dX1_turnRow_19 rfl (show Int32.ofNat ((mc_up c 5 R) 5).length = nI 40 by rw [e5, hR]; rfl) ?_
    refine e_icmp_ge (pc := 20) dX1_turnRow_20 (t := 58) (by decide) (fun c_20 => absurd c_20 (by rw [g2]; exact nI_ge (by omega) (by decide))) (fun _ => ?_)
    refine e_aloadn (pc := 23) dX1_turnRow_23 rfl ?_
    refine e_get (pc := 24) dX1_turnRow_24 fX1_18 rfl rfl ?_
    refine e_iloadn (pc := 27) dX1_turnRow_27 rfl ?_
    refine aldv_row (pc := 28) dX1_turnRow_28 i1 v1 ?_
    refine e_isn3 (pc := 29) dX1_turnRow_29 (Nat.le_of_ble_eq_true rfl) rfl ?_
    refine e_aloadn (pc := 30) dX1_turnRow_30 rfl ?_
    refine e_get (pc := 31) dX1_turnRow_31 fX1_18 rfl rfl ?_
    refine e_iloadn (pc := 34) dX1_turnRow_34 rfl ?_
    refine e_aloadn (pc := 35) dX1_turnRow_35 rfl ?_
    refine e_get (pc := 36) dX1_turnRow_36 fX1_18 rfl rfl ?_
    refine e_iloadn (pc := 39) dX1_turnRow_39 rfl ?_
    refine aldv_row (pc := 40) dX1_turnRow_40 i2 v2 ?_
    refine ast_row (pc := 41) dX1_turnRow_41 i1 ?_
    refine e_aloadn (pc := 42) dX1_turnRow_42 rfl ?_
    refine e_get (pc := 43) dX1_turnRow_43 fX1_18 rfl rfl ?_
    refine e_iloadn (pc := 46) dX1_turnRow_46 rfl ?_
    refine e_iloadn (pc := 47) dX1_turnRow_47 rfl ?_
    refine ast_row (pc := 48) dX1_turnRow_48 (by show vp_in _ (List.set _ _ _).length; rw [List.length_set]; exact i2) ?_
    refine e_incC1 (pc := 49) dX1_turnRow_49 (nI_1 k) (Nat.le_of_ble_eq_true rfl) rfl ?_
    refine e_incC2 (pc := 52) dX1_turnRow_52 nI_m1 (Nat.le_of_ble_eq_true rfl) rfl ?_
    refine e_goto (pc := 55) dX1_turnRow_55 (t := 9) (by decide) ?_
    refine e_w (w2 := (WW s a q u (mc_up c 5 ((R.set k (xs.getD (N - (k + 1)) 0)).set (N - (k + 1)) (xs.getD k 0))) h m b n d z)) (by simp only [up_up, up_at]; rw [g2, nIc (by omega), nIc (by omega)]) ?_
    refine ih (k + 1) _ _ (by omega) (by omega) (by rw [List.length_set, List.length_set]; exact hR) (fun i hi => ?_)
    rw [gD_set (by rw [List.length_set]; omega), gD_set (by omega), hx i hi]
    by_cases h1 : i = N - (k + 1)
    · rw [if_pos h1, if_pos (by omega)]; congr 1; omega
    · rw [if_neg h1]
      by_cases h2 : i = k
      · rw [if_pos h2, if_pos (by omega)]; congr 1; omega
      · rw [if_neg h2]
        by_cases h3 : i < k ∨ N - k ≤ i
        · rw [if_pos h3, if_pos (by omega)]
        · rw [if_neg h3, if_neg (by omega)]
theorem sp_x_turn {s u m n : Nat → Int32} {a c b d : Nat → List Int32} {q : List (Option Nat)} {h : Nat} {z : mc_W} {xs : List Int32} (hF : xRw u c xs) : mc_T yX1_turnRow cX1_turnRow 4 none 1 [.ref 17] (WW s a q u c h m b n d z) none (fun w' => ∃ R, R.length = 40 ∧ R.take xs.length = xs.reverse ∧ w' = (WW s a q u (mc_up c 5 R) h m b n d z)) := by
  refine mc_start (own := RX1) (ini := false) rfl (by decide +kernel) (fun h => by cases h) (Nat.le_of_ble_eq_true rfl) ?_
  show mc_E _ _ _ _ _ [some (.ref 17), none, none, none] [] _ _ _
  refine e_iconst (v := 0) (pc := 0) dX1_turnRow_0 (by decide) ?_
  refine e_isn1 (pc := 1) dX1_turnRow_1 (Nat.le_of_ble_eq_true rfl) rfl ?_
  refine e_aloadn (pc := 2) dX1_turnRow_2 rfl ?_
  refine e_get (pc := 3) dX1_turnRow_3 fX1_61 rfl rfl ?_
  refine e_iconst (v := 1) (pc := 6) dX1_turnRow_6 (by decide) ?_
  refine e_isub (pc := 7) dX1_turnRow_7 ?_
  refine e_isn2 (pc := 8) dX1_turnRow_8 (Nat.le_of_ble_eq_true rfl) rfl ?_
  refine e_w (w2 := (WW s a q u (mc_up c 5 (c 5)) h m b n d z)) (by rw [mc_up_self]) ?_
  rw [hF.1]
  exact lp_x_turn rfl hF.2.2.2 xs.length 0 (c 5) _ (by omega) (by omega) hF.2.2.1 (fun i hi => by rw [if_neg (by omega)]; exact tk_get hF.2.1 hi)
set_option maxHeartbeats 1000000 in
theorem lp_x_write {s u m n : Nat → Int32} {a c b d : Nat → List Int32} {q : List (Option Nat)} {h : Nat} {z : mc_W} {Post : Option Value → mc_W → Prop} {v : Int32} {g : Nat} {full : List Int32} (hg : 2 ≤ g) (hg2 : g ≤ 12) (hf : full.length ≤ 17)
    (hK : ∀ (R : List Int32) (x4 : Option Value), R.length = 40 → R.take full.length = full → mc_E RX1 cX1_write 5 (mc_JM none false 6 0 0 Post) 76 [some (.ref 17), some (.int v), some (.int (nI g)), some (.int (nI 0)), x4] [] (WW s a q (mc_up u 7 (nI full.length)) (mc_up c 5 R) h m b n d z) 0 0) :
    ∀ (f left : Nat) (done R : List Int32) (x4 : Option Value), left < 2 ^ f → f ≤ 17 → R.length = 40 → R.take done.length = done → done ++ (ydg g f left).map nI = full →
      mc_E RX1 cX1_write 5 (mc_JM none false 6 0 0 Post) 20 [some (.ref 17), some (.int v), some (.int (nI g)), some (.int (nI left)), x4] [] (WW s a q (mc_up u 7 (nI done.length)) (mc_up c 5 R) h m b n d z) 0 0 := by
  intro f
  induction f with
  | zero =>
    intro left done R x4 hl _ hR hx hfu
    have e0 : left = 0 := by simp at hl; omega
    subst e0
    rw [ydg_0, List.map_nil, List.append_nil] at hfu
    subst hfu
    refine e_iloadn (pc := 20) dX1_write_20 rfl ?_
    refine e_if_le (pc := 21) dX1_write_21 (t := 76) (by decide) (fun _ => ?_) (fun c_21 => absurd (by decide) c_21)
    exact hK _ _ hR hx
  | succ f ih =>
    intro left done R x4 hl hf17 hR hx hfu
    by_cases e0 : left = 0
    · subst e0
      rw [ydg_0, List.map_nil, List.append_nil] at hfu
      subst hfu
      refine e_iloadn (pc := 20) dX1_write_20 rfl ?_
      refine e_if_le (pc := 21) dX1_write_21 (t := 76) (by decide) (fun _ => ?_) (fun c_21 => absurd (by decide) c_21)
      exact hK _ _ hR hx
    have hp : 2 ^ (f + 1) ≤ 2 ^ 17 := Nat.pow_le_pow_right (by decide) hf17
    have hL31 : left < 2 ^ 31 := by omega
    have hdl : done.length < 17 := by
      have := congrArg List.length hfu
      rw [List.length_append, List.length_map] at this
      have h2 : 1 ≤ (ydg g (f + 1) left).length := by unfold ydg; rw [if_neg e0]; simp
      omega
    have e5 : ∀ l : List Int32, (mc_up c 5 l) 5 = l := fun l => rfl
    have e7 : ∀ x : Int32, (mc_up u 7 x) 7 = x := fun l => rfl
    have r1 : nI left - 1 - (nI left - 1) / nI g * nI g = nI ((left - 1) % g) := by rw [nI_sub1 (by omega)]; exact pk_rem (by omega) (by omega) (by omega)
    have hm : (left - 1) % g < g := Nat.mod_lt _ (by omega)
    have hm2 : (left - 1) % g ≤ left - 1 := Nat.mod_le _ _
    have r2 : (nI left - nI ((left - 1) % g + 1)) / nI g = nI ((left - ((left - 1) % g + 1)) / g) := by rw [pk_sub (by omega)]; exact pk_div (by omega) (by omega) (by omega)
    have i1 : vp_in ((mc_up u 7 (nI done.length)) 7) ((mc_up c 5 R) 5).length := by rw [e7, e5, hR]; exact vp_in_nI (by omega) (by decide)
    have gz : ¬ nI g = 0 := nI_ne0 (by omega) (by omega)
    refine e_iloadn (pc := 20) dX1_write_20 rfl ?_
    refine e_if_le (pc := 21) dX1_write_21 (t := 76) (by decide) (fun c_21 => absurd c_21 (nI_nle (by omega) hL31)) (fun _ => ?_)
    refine e_aloadn (pc := 24) dX1_write_24 rfl ?_
    refine e_get (pc := 25) dX1_write_25 fX1_61 rfl rfl ?_
    refine e_aloadn (pc := 28) dX1_write_28 rfl ?_
    refine e_get (pc := 29) dX1_write_29 fX1_18 rfl rfl ?_
    refine e_alen (pc := 32) dX1_write_32 rfl (show Int32.ofNat ((mc_up c 5 R) 5).length = nI 40 by rw [e5, hR]; rfl) ?_
    refine e_icmp_ge (pc := 33) dX1_write_33 (t := 76) (by decide) (fun c_33 => absurd c_33 (by rw [e7]; exact nI_ge (by omega) (by decide))) (fun _ => ?_)
    refine e_iloadn (pc := 36) dX1_write_36 rfl ?_
    refine e_iconst (v := 1) (pc := 37) dX1_write_37 (by decide) ?_
    refine e_isub (pc := 38) dX1_write_38 ?_
    refine e_iloadn (pc := 39) dX1_write_39 rfl ?_
    refine e_irem (pc := 40) dX1_write_40 gz ?_
    refine e_top (r1) ?_
    refine e_iconst (v := 1) (pc := 41) dX1_write_41 (by decide) ?_
    refine e_iadd (pc := 42) dX1_write_42 ?_
    refine e_top (nI_1 _) ?_
    refine e_isw4 (pc := 43) dX1_write_43 (Nat.le_of_ble_eq_true rfl) rfl ?_
    refine e_aloadn (pc := 45) dX1_write_45 rfl ?_
    refine e_get (pc := 46) dX1_write_46 fX1_18 rfl rfl ?_
    refine e_aloadn (pc := 49) dX1_write_49 rfl ?_
    refine e_get (pc := 50) dX1_write_50 fX1_61 rfl rfl ?_
    refine e_iload (pc := 53) dX1_write_53 rfl ?_
    refine ast_row (pc := 55) dX1_write_55 i1 ?_
    refine e_aloadn (pc := 56) dX1_write_56 rfl ?_
    refine e_dup (pc := 57) dX1_write_57 rfl ?_
    refine e_get (pc := 58) dX1_write_58 fX1_61 rfl rfl ?_
    refine e_iconst (v := 1) (pc := 61) dX1_write_61 (by decide) ?_
    refine e_iadd (pc := 62) dX1_write_62 ?_
    refine put_hand_many (pc := 63) dX1_write_63 pX1_61 ?_
    refine e_iloadn (pc := 66) dX1_write_66 rfl ?_
    refine e_iload (pc := 67) dX1_write_67 rfl ?_
    refine e_isub (pc := 69) dX1_write_69 ?_
    refine e_iloadn (pc := 70) dX1_write_70 rfl ?_
    refine e_idiv (pc := 71) dX1_write_71 gz ?_
    refine e_top (r2) ?_
    refine e_isn3 (pc := 72) dX1_write_72 (Nat.le_of_ble_eq_true rfl) rfl ?_
    refine e_goto (pc := 73) dX1_write_73 (t := 20) (by decide) ?_
    refine e_w (w2 := (WW s a q (mc_up u 7 (nI (done.length + 1))) (mc_up c 5 (R.set done.length (nI ((left - 1) % g + 1)))) h m b n d z)) (by rw [up_up, e5, up_up, e7, nIc (by omega), nI_1]) ?_
    have q1 : nI (done.length + 1) = nI (done ++ [nI ((left - 1) % g + 1)]).length := by rw [List.length_append]; rfl
    rw [q1]
    refine ih _ (done ++ [nI ((left - 1) % g + 1)]) _ _ (ydg_next hg e0 hl) (by omega) (by rw [List.length_set]; exact hR) ?_ ?_
    · rw [List.length_append]
      show (R.set done.length _).take (done.length + 1) = _
      rw [tk_set _ _ _ (by omega), hx]
    · rw [← hfu, List.append_assoc]
      congr 1
      show _ = (ydg g (f + 1) left).map nI
      conv => rhs; unfold ydg
      rw [if_neg e0]
      rfl
theorem up_up2 {α : Type} {f : Nat → α} {k : Nat} {x y : α} : mc_up (mc_up f k x) k y = mc_up f k y := up_up
theorem sp_x_write {s u m n : Nat → Int32} {a c b d : Nat → List Int32} {q : List (Option Nat)} {h : Nat} {z : mc_W} {K mo nu ba ye : Int32} {sg : Nat → List Int32} {v : Int32} (hH : xHd q z h u c K mo nu ba ye sg) (hmB : 0 ≤ (hmk K mo nu ba ye sg v).toInt ∧ (hmk K mo nu ba ye sg v).toInt < 131072) : mc_T yX1_write cX1_write 5 none 6 [.ref 17, .int v] (WW s a q u c h m b n d z) none (fun w1 => ∃ u1 c1, xHd q z h u1 c1 K mo nu ba ye sg ∧ xKc c c1 ∧ xRw u1 c1 (hwr K mo nu ba ye sg v) ∧ w1 = (WW s a q u1 c1 h m b n d z)) := by
  refine mc_start (own := RX1) (ini := false) rfl (by decide +kernel) (fun h => by cases h) (Nat.le_of_ble_eq_true rfl) ?_
  show mc_E _ _ _ _ _ [some (.ref 17), some (.int v), none, none, none] [] _ _ _
  obtain ⟨⟨cd, sa, ca, hX, hR⟩, hK, ⟨x2, x3, hc3⟩, h48, h40, hK5, hm9, hb12⟩ := id hH
  refine e_iconst (v := 2) (pc := 0) dX1_write_0 (by decide) ?_
  refine e_aloadn (pc := 1) dX1_write_1 rfl ?_
  refine e_cvD (pc := 2) (sp_x_figures hH) dX1_write_2 kX1_53 rfl rfl rfl rfl rfl (mc_CR_of (Nat.le_of_ble_eq_true rfl) (Nat.le_of_ble_eq_true rfl) (Nat.le_refl _) (Nat.le_refl _)) (Nat.le_of_ble_eq_true rfl) ?_
  refine e_max (pc := 5) dX1_write_5 mX1_29 (mc_JR_of (Nat.le_of_ble_eq_true rfl) (Nat.le_refl _) (Nat.le_refl _) (Nat.le_of_ble_eq_true rfl)) ?_
  rw [hfg_max, hfg_ba (hfg_in hm9 hb12).1]
  refine e_top ((nI_back (x := yy_fg K mo ba) (by have := hfg_in (K := K) hm9 hb12; omega))) ?_
  refine e_isn2 (pc := 8) dX1_write_8 (Nat.le_of_ble_eq_true rfl) rfl ?_
  refine e_aloadn (pc := 9) dX1_write_9 rfl ?_
  refine e_iloadn (pc := 10) dX1_write_10 rfl ?_
  refine e_cvX (pc := 11) (sp_x_makes hH) dX1_write_11 kX1_57 rfl rfl rfl rfl rfl (mc_CR_of (Nat.le_of_ble_eq_true rfl) (Nat.le_of_ble_eq_true rfl) (Nat.le_refl _) (Nat.le_refl _)) (Nat.le_of_ble_eq_true rfl) (fun w1 hw1 => ?_)
  obtain ⟨c1, hH1, hk1, hr5, rfl⟩ := hw1
  refine e_top ((nI_back hmB.1)) ?_
  refine e_isn3 (pc := 14) dX1_write_14 (Nat.le_of_ble_eq_true rfl) rfl ?_
  refine e_aloadn (pc := 15) dX1_write_15 rfl ?_
  refine e_iconst (v := 0) (pc := 16) dX1_write_16 (by decide) ?_
  refine put_hand_many (pc := 17) dX1_write_17 pX1_61 ?_
  have eg := hfg_in (K := K) hm9 hb12
  have e1 := tnc (x := yy_fg K mo ba) (by omega)
  have e2 := tnc hmB.1
  obtain ⟨hT1, hK1, hc1, h481, h401, hr1⟩ := id hH1
  refine e_w (w2 := (WW s a q (mc_up (mc_up u 7 0) 7 (nI ([] : List Int32).length)) (mc_up c1 5 (c1 5)) h m b n d z)) rfl ?_
  refine lp_x_write (u := mc_up u 7 0) (c := c1) (full := hfull K mo nu ba ye sg v) (by omega) (by omega) (hfull_len K mo nu ba ye sg v) (fun R x4 hR hx => ?_) 17 _ [] (c1 5) none (by omega) (by omega) h401 rfl rfl
  refine e_aloadn (pc := 76) dX1_write_76 rfl ?_
  refine e_cvD (pc := 77) (sp_x_isTurned (u := (mc_up (mc_up u 7 0) 7 (nI (hfull K mo nu ba ye sg v).length))) (c := mc_up c1 5 R) ⟨hT1, hK1, hc1, h481, hR, hr1⟩) dX1_write_77 kX1_64 rfl rfl rfl rfl rfl (mc_CR_of (Nat.le_of_ble_eq_true rfl) (Nat.le_of_ble_eq_true rfl) (Nat.le_refl _) (Nat.le_refl _)) (Nat.le_of_ble_eq_true rfl) ?_
  refine e_if_ne (pc := 80) dX1_write_80 (t := 87) (by decide) (fun c_80 => ?_) (fun c_80 => ?_)
  · skip
    exact e_vret (pc := 87) dX1_write_87 rfl (Nat.le_refl _) (Nat.le_refl _) ⟨rfl, (mc_up (mc_up u 7 0) 7 (nI (hfull K mo nu ba ye sg v).length)), mc_up c1 5 R, ⟨hT1, hK1, hc1, h481, hR, hr1⟩, hk1, by unfold hwr; rw [if_pos (mc_b1.mp c_80)]; exact ⟨rfl, hx, hR, hfull_len K mo nu ba ye sg v⟩, rfl⟩
  · skip
    refine e_aloadn (pc := 83) dX1_write_83 rfl ?_
    refine e_cvY (pc := 84) (sp_x_turn (u := (mc_up (mc_up u 7 0) 7 (nI (hfull K mo nu ba ye sg v).length))) (c := mc_up c1 5 R) (xs := hfull K mo nu ba ye sg v) ⟨rfl, hx, hR, hfull_len K mo nu ba ye sg v⟩) dX1_write_84 kX1_68 rfl rfl rfl rfl rfl (mc_CR_of (Nat.le_of_ble_eq_true rfl) (Nat.le_of_ble_eq_true rfl) (Nat.le_refl _) (Nat.le_refl _)) (Nat.le_of_ble_eq_true rfl) (fun w1 hw1 => ?_)
    obtain ⟨R2, hR2, hx2, rfl⟩ := hw1
    exact e_vret (pc := 87) dX1_write_87 rfl (Nat.le_refl _) (Nat.le_refl _) ⟨rfl, (mc_up (mc_up u 7 0) 7 (nI (hfull K mo nu ba ye sg v).length)), mc_up (mc_up c1 5 R) 5 R2, ⟨hT1, hK1, hc1, h481, hR2, hr1⟩, hk1, by unfold hwr; rw [if_neg (by rw [mc_b0.mp c_80]; decide)]; exact ⟨by rw [List.length_reverse]; rfl, by rw [List.length_reverse]; exact hx2, hR2, by rw [List.length_reverse]; exact hfull_len K mo nu ba ye sg v⟩, rfl⟩
theorem sp_x_many {s u m n : Nat → Int32} {a c b d : Nat → List Int32} {q : List (Option Nat)} {h : Nat} {z : mc_W} : mc_D yX1_many cX1_many 1 (some .int) 1 [.ref 17] (WW s a q u c h m b n d z) (some (.int (u 7))) (WW s a q u c h m b n d z) := by
  refine mc_start (own := RX1) (ini := false) rfl (by decide +kernel) (fun h => by cases h) (Nat.le_of_ble_eq_true rfl) ?_
  show mc_E _ _ _ _ _ [some (.ref 17)] [] _ _ _
  refine e_aloadn (pc := 0) dX1_many_0 rfl ?_
  refine e_get (pc := 1) dX1_many_1 fX1_61 rfl rfl ?_
  exact e_iret (pc := 4) dX1_many_4 rfl (Nat.le_refl _) (Nat.le_refl _) ⟨rfl, rfl⟩
theorem sp_x_written {s u m n : Nat → Int32} {a c b d : Nat → List Int32} {q : List (Option Nat)} {h : Nat} {z : mc_W} {xs : List Int32} {i : Int32} {j : Nat} (hF : xRw u c xs) (hi : i = nI j) (hj : j < xs.length) : mc_D yX1_written cX1_written 2 (some .int) 1 [.ref 17, .int i] (WW s a q u c h m b n d z) (some (.int (xs.getD j 0))) (WW s a q u c h m b n d z) := by
  refine mc_start (own := RX1) (ini := false) rfl (by decide +kernel) (fun h => by cases h) (Nat.le_of_ble_eq_true rfl) ?_
  show mc_E _ _ _ _ _ [some (.ref 17), some (.int i)] [] _ _ _
  subst hi
  obtain ⟨h7, hx, h40, h17⟩ := hF
  refine e_iloadn (pc := 0) dX1_written_0 rfl ?_
  refine e_if_lt (pc := 1) dX1_written_1 (t := 30) (by decide) (fun c_1 => absurd c_1 (nI_pos (by omega))) (fun _ => ?_)
  refine e_iloadn (pc := 4) dX1_written_4 rfl ?_
  refine e_aloadn (pc := 5) dX1_written_5 rfl ?_
  refine e_get (pc := 6) dX1_written_6 fX1_61 rfl rfl ?_
  refine e_icmp_ge (pc := 9) dX1_written_9 (t := 30) (by decide) (fun c_9 => absurd c_9 (by rw [h7]; exact nI_ge hj (by omega))) (fun _ => ?_)
  refine e_iloadn (pc := 12) dX1_written_12 rfl ?_
  refine e_aloadn (pc := 13) dX1_written_13 rfl ?_
  refine e_get (pc := 14) dX1_written_14 fX1_18 rfl rfl ?_
  refine e_alen (pc := 17) dX1_written_17 rfl (show Int32.ofNat (c 5).length = nI 40 by rw [h40]; rfl) ?_
  refine e_icmp_ge (pc := 18) dX1_written_18 (t := 30) (by decide) (fun c_18 => absurd c_18 (nI_ge (by omega) (by decide))) (fun _ => ?_)
  refine e_aloadn (pc := 21) dX1_written_21 rfl ?_
  refine e_get (pc := 22) dX1_written_22 fX1_18 rfl rfl ?_
  refine e_iloadn (pc := 25) dX1_written_25 rfl ?_
  refine aldv_row (x := xs.getD j 0) (pc := 26) dX1_written_26 (by rw [h40]; exact vp_in_nI (by omega) (by decide)) (by rw [nIc (by omega)]; exact tk_get hx hj) ?_
  refine e_goto (pc := 27) dX1_written_27 (t := 31) (by decide) ?_
  exact e_iret (pc := 31) dX1_written_31 rfl (Nat.le_refl _) (Nat.le_refl _) ⟨rfl, rfl⟩
theorem lp_x_reads {s u m n : Nat → Int32} {a c b d : Nat → List Int32} {q : List (Option Nat)} {h : Nat} {z : mc_W} {g : Int32} {tf : Bool} {xs ys : List Int32} {V : Int64} (hF : xRw u c xs) (hys : ys = if tf = true then xs.reverse else xs) :
    ∀ (r done : List Int32) (k : Nat) (acc : Int64), ys = done ++ r → k = done.length → r.foldl (yrs g) acc = V →
      mc_E RX1 cX1_readWith 6 (mc_JM (some .long) false 2 0 0 (fun r' w' => r' = some (.long V) ∧ w' = (WW s a q u c h m b n d z))) 5 [some (.ref 17), some (.int g), some (.int (mc_b tf)), some (.long acc), none, some (.int (nI k))] [] (WW s a q u c h m b n d z) 0 0 := by
  have hx4 := hF.2.2.2
  have h7 := hF.1
  have hyl : ys.length = xs.length := by rw [hys]; split <;> simp
  intro r
  induction r with
  | nil =>
    intro done k acc h1 h2 h3
    have hk : k = xs.length := by rw [h2, ← hyl, h1]; simp
    have h3 : acc = V := h3
    subst h3
    refine e_iload (pc := 5) dX1_readWith_5 rfl ?_
    refine e_aloadn (pc := 7) dX1_readWith_7 rfl ?_
    refine e_get (pc := 8) dX1_readWith_8 fX1_61 rfl rfl ?_
    refine e_icmp_ge (pc := 11) dX1_readWith_11 (t := 55) (by decide) (fun _ => ?_) (fun c_11 => absurd (by rw [h7, hk]; exact nI_le (Nat.le_refl _) (by omega)) c_11)
    refine e_lloadn (pc := 55) dX1_readWith_55 rfl ?_
    exact e_lret (pc := 56) dX1_readWith_56 rfl (Nat.le_refl _) (Nat.le_refl _) ⟨rfl, rfl⟩
  | cons f0 r ih =>
    intro done k acc h1 h2 h3
    have hk : k < xs.length := by rw [h2, ← hyl, h1]; simp
    have hyk : ys.getD k 0 = f0 := by rw [h1, h2, List.getD_eq_getElem?_getD, List.getElem?_append_right (Nat.le_refl _), Nat.sub_self]; rfl
    have g2 : u 7 - 1 - nI k = nI (xs.length - 1 - k) := by rw [h7, nI_sub1 (by omega), pk_sub (by omega)]
    have vT : ¬ mc_b tf = 0 → xs.getD (xs.length - 1 - k) 0 = f0 := fun q => by
      rw [← hyk, hys, if_pos (mc_b1.mp q), rv_get hk]
    have vF : mc_b tf = 0 → xs.getD k 0 = f0 := fun q => by
      rw [← hyk, hys, if_neg (by rw [mc_b0.mp q]; decide)]
    have h3 : r.foldl (yrs g) (yrs g acc f0) = V := h3
    have hW : ∀ i j, i = nI j → j < xs.length → xs.getD j 0 = f0 → mc_D yX1_written cX1_written 2 (some .int) 1 [.ref 17, .int i] (WW s a q u c h m b n d z) (some (.int f0)) (WW s a q u c h m b n d z) := fun i j q1 q2 q3 => by rw [← q3]; exact sp_x_written hF q1 q2
    refine e_iload (pc := 5) dX1_readWith_5 rfl ?_
    refine e_aloadn (pc := 7) dX1_readWith_7 rfl ?_
    refine e_get (pc := 8) dX1_readWith_8 fX1_61 rfl rfl ?_
    refine e_icmp_ge (pc := 11) dX1_readWith_11 (t := 55) (by decide) (fun c_11 => absurd c_11 (by rw [h7]; exact nI_ge (by omega) (by omega))) (fun _ => ?_)
    refine e_lloadn (pc := 14) dX1_readWith_14 rfl ?_
    refine e_iloadn (pc := 15) dX1_readWith_15 rfl ?_
    refine e_i2l (pc := 16) dX1_readWith_16 ?_
    refine e_lmul (pc := 17) dX1_readWith_17 ?_
    refine e_aloadn (pc := 18) dX1_readWith_18 rfl ?_
    refine e_iloadn (pc := 19) dX1_readWith_19 rfl ?_
    refine e_if_eq (pc := 20) dX1_readWith_20 (t := 35) (by decide) (fun c_20 => ?_) (fun c_20 => ?_)
    · skip
      refine e_iload (pc := 35) dX1_readWith_35 rfl ?_
      refine e_cvD (pc := 37) (by first | exact hW _ k rfl hk (vF c_20) | exact hW _ (xs.length - 1 - k) g2 (by omega) (vT c_20)) dX1_readWith_37 kX1_71 rfl rfl rfl rfl rfl (mc_CR_of (Nat.le_of_ble_eq_true rfl) (Nat.le_of_ble_eq_true rfl) (Nat.le_refl _) (Nat.le_refl _)) (Nat.le_of_ble_eq_true rfl) ?_
      refine e_i2l (pc := 40) dX1_readWith_40 ?_
      refine e_ladd (pc := 41) dX1_readWith_41 ?_
      refine e_ldc2 (pc := 42) dX1_readWith_42 qX1_88 ?_
      refine e_minl (pc := 45) dX1_readWith_45 mX1_90 (mc_JR_of (Nat.le_of_ble_eq_true rfl) (Nat.le_refl _) (Nat.le_refl _) (Nat.le_of_ble_eq_true rfl)) ?_
      refine e_lsn3 (pc := 48) dX1_readWith_48 (Nat.le_of_ble_eq_true rfl) rfl ?_
      refine e_incC5 (pc := 49) dX1_readWith_49 (nI_1 k) (Nat.le_of_ble_eq_true rfl) rfl ?_
      refine e_goto (pc := 52) dX1_readWith_52 (t := 5) (by decide) ?_
      exact ih (done ++ [f0]) (k + 1) _ (by rw [h1]; simp) (by rw [h2]; simp) h3
    · skip
      refine e_aloadn (pc := 23) dX1_readWith_23 rfl ?_
      refine e_get (pc := 24) dX1_readWith_24 fX1_61 rfl rfl ?_
      refine e_iconst (v := 1) (pc := 27) dX1_readWith_27 (by decide) ?_
      refine e_isub (pc := 28) dX1_readWith_28 ?_
      refine e_iload (pc := 29) dX1_readWith_29 rfl ?_
      refine e_isub (pc := 31) dX1_readWith_31 ?_
      refine e_goto (pc := 32) dX1_readWith_32 (t := 37) (by decide) ?_
      refine e_cvD (pc := 37) (by first | exact hW _ k rfl hk (vF c_20) | exact hW _ (xs.length - 1 - k) g2 (by omega) (vT c_20)) dX1_readWith_37 kX1_71 rfl rfl rfl rfl rfl (mc_CR_of (Nat.le_of_ble_eq_true rfl) (Nat.le_of_ble_eq_true rfl) (Nat.le_refl _) (Nat.le_refl _)) (Nat.le_of_ble_eq_true rfl) ?_
      refine e_i2l (pc := 40) dX1_readWith_40 ?_
      refine e_ladd (pc := 41) dX1_readWith_41 ?_
      refine e_ldc2 (pc := 42) dX1_readWith_42 qX1_88 ?_
      refine e_minl (pc := 45) dX1_readWith_45 mX1_90 (mc_JR_of (Nat.le_of_ble_eq_true rfl) (Nat.le_refl _) (Nat.le_refl _) (Nat.le_of_ble_eq_true rfl)) ?_
      refine e_lsn3 (pc := 48) dX1_readWith_48 (Nat.le_of_ble_eq_true rfl) rfl ?_
      refine e_incC5 (pc := 49) dX1_readWith_49 (nI_1 k) (Nat.le_of_ble_eq_true rfl) rfl ?_
      refine e_goto (pc := 52) dX1_readWith_52 (t := 5) (by decide) ?_
      exact ih (done ++ [f0]) (k + 1) _ (by rw [h1]; simp) (by rw [h2]; simp) h3
theorem sp_x_readWith {s u m n : Nat → Int32} {a c b d : Nat → List Int32} {q : List (Option Nat)} {h : Nat} {z : mc_W} {g : Int32} {tf : Bool} {xs : List Int32} (hF : xRw u c xs) : mc_D yX1_readWith cX1_readWith 6 (some .long) 2 [.ref 17, .int g, .int (mc_b tf)] (WW s a q u c h m b n d z) (some (.long (yrd g (if tf = true then xs.reverse else xs)))) (WW s a q u c h m b n d z) := by
  refine mc_start (own := RX1) (ini := false) rfl (by decide +kernel) (fun h => by cases h) (Nat.le_of_ble_eq_true rfl) ?_
  show mc_E _ _ _ _ _ [some (.ref 17), some (.int g), some (.int (mc_b tf)), none, none, none] [] _ _ _
  refine e_lconst (v := 0) (pc := 0) dX1_readWith_0 (by decide) ?_
  refine e_lsn3 (pc := 1) dX1_readWith_1 (Nat.le_of_ble_eq_true rfl) rfl ?_
  refine e_iconst (v := 0) (pc := 2) dX1_readWith_2 (by decide) ?_
  refine e_isw5 (pc := 3) dX1_readWith_3 (Nat.le_of_ble_eq_true rfl) rfl ?_
  exact lp_x_reads hF rfl _ [] 0 0 rfl rfl rfl
theorem sp_x_readHim {s u m n : Nat → Int32} {a c b d : Nat → List Int32} {q : List (Option Nat)} {h : Nat} {z : mc_W} {K mo nu ba ye : Int32} {sg : Nat → List Int32} {xs : List Int32} (hH : xHd q z h u c K mo nu ba ye sg) (hF : xRw u c xs) : mc_D yX1_readHimself cX1_readHimself 1 (some .long) 3 [.ref 17] (WW s a q u c h m b n d z) (some (.long (yrd (yy_fg K mo ba) (if yy_it K = true then xs.reverse else xs)))) (WW s a q u c h m b n d z) := by
  refine mc_start (own := RX1) (ini := false) rfl (by decide +kernel) (fun h => by cases h) (Nat.le_of_ble_eq_true rfl) ?_
  show mc_E _ _ _ _ _ [some (.ref 17)] [] _ _ _
  refine e_aloadn (pc := 0) dX1_readHimself_0 rfl ?_
  refine e_aloadn (pc := 1) dX1_readHimself_1 rfl ?_
  refine e_cvD (pc := 2) (sp_x_figures hH) dX1_readHimself_2 kX1_53 rfl rfl rfl rfl rfl (mc_CR_of (Nat.le_of_ble_eq_true rfl) (Nat.le_of_ble_eq_true rfl) (Nat.le_refl _) (Nat.le_refl _)) (Nat.le_of_ble_eq_true rfl) ?_
  refine e_aloadn (pc := 5) dX1_readHimself_5 rfl ?_
  refine e_cvD (pc := 6) (sp_x_isTurned hH) dX1_readHimself_6 kX1_64 rfl rfl rfl rfl rfl (mc_CR_of (Nat.le_of_ble_eq_true rfl) (Nat.le_of_ble_eq_true rfl) (Nat.le_refl _) (Nat.le_refl _)) (Nat.le_of_ble_eq_true rfl) ?_
  refine e_cvD (pc := 9) (sp_x_readWith hF) dX1_readHimself_9 kX1_93 rfl rfl rfl rfl rfl (mc_CR_of (Nat.le_of_ble_eq_true rfl) (Nat.le_of_ble_eq_true rfl) (Nat.le_refl _) (Nat.le_refl _)) (Nat.le_of_ble_eq_true rfl) ?_
  exact e_lret (pc := 12) dX1_readHimself_12 rfl (Nat.le_refl _) (Nat.le_refl _) ⟨rfl, rfl⟩
theorem sp_x_readPl {s u m n : Nat → Int32} {a c b d : Nat → List Int32} {q : List (Option Nat)} {h : Nat} {z : mc_W} {K mo nu ba ye : Int32} {sg : Nat → List Int32} {xs : List Int32} (hH : xHd q z h u c K mo nu ba ye sg) (hF : xRw u c xs) : mc_D yX1_readPlainly cX1_readPlainly 1 (some .long) 3 [.ref 17] (WW s a q u c h m b n d z) (some (.long (yrd ba xs))) (WW s a q u c h m b n d z) := by
  refine mc_start (own := RX1) (ini := false) rfl (by decide +kernel) (fun h => by cases h) (Nat.le_of_ble_eq_true rfl) ?_
  show mc_E _ _ _ _ _ [some (.ref 17)] [] _ _ _
  obtain ⟨⟨cd, sa, ca, hX, hR⟩, hK, ⟨x2, x3, hc3⟩, h48, h40, hK5, hm9, hb12⟩ := id hH
  refine e_aloadn (pc := 0) dX1_readPlainly_0 rfl ?_
  refine e_aloadn (pc := 1) dX1_readPlainly_1 rfl ?_
  refine e_get (pc := 2) dX1_readPlainly_2 fX1_11 rfl rfl ?_
  refine e_iconst (v := 4) (pc := 5) dX1_readPlainly_5 (by decide) ?_
  refine aldv_names (pc := 6) dX1_readPlainly_6 (vi6 hc3 (by decide +kernel)) (show (c 3).getD _ 0 = ba by rw [hc3]; rfl) ?_
  refine e_iconst (v := 0) (pc := 7) dX1_readPlainly_7 (by decide) ?_
  refine e_cvD (pc := 8) (sp_x_readWith (tf := false) hF) dX1_readPlainly_8 kX1_93 rfl rfl rfl rfl rfl (mc_CR_of (Nat.le_of_ble_eq_true rfl) (Nat.le_of_ble_eq_true rfl) (Nat.le_refl _) (Nat.le_refl _)) (Nat.le_of_ble_eq_true rfl) ?_
  exact e_lret (pc := 11) dX1_readPlainly_11 rfl (Nat.le_refl _) (Nat.le_refl _) ⟨rfl, rfl⟩
end Zj_69_x10
section Zj_6a_x11
/-! ===== sums, figures, readings, what is paid ===== -/
theorem wn_in {x b : Int32} (hb : 0 ≤ b.toInt) : 0 ≤ (yy_wn x 0 b).toInt ∧ (yy_wn x 0 b).toInt ≤ b.toInt := by
  unfold yy_wn
  by_cases h1 : x < 0
  · rw [if_pos h1, i0]; omega
  · rw [if_neg h1]
    by_cases h2 : b < x
    · rw [if_pos h2]; omega
    · rw [if_neg h2]; rw [Int32.lt_iff_toInt_lt, i0] at h1; rw [Int32.lt_iff_toInt_lt] at h2; omega
theorem hask_in {mo nu ba ye : Int32} {sg : Nat → List Int32} {p : Nat} {v o : Int32} : 0 ≤ (hask mo nu ba ye sg p v o).toInt ∧ (hask mo nu ba ye sg p v o).toInt ≤ 99999 := by
  unfold hask
  by_cases hp : p = 1
  · rw [if_pos hp]; have := wn_in (x := yev [mo, nu, v, o, ba, ye] (sg p) []) (b := 100) (by decide); have : (100 : Int32).toInt = 100 := rfl; omega
  · rw [if_neg hp]; have := wn_in (x := yev [mo, nu, v, o, ba, ye] (sg p) []) (b := 99999) (by decide); have : (99999 : Int32).toInt = 99999 := rfl; omega
theorem hmk_in {K mo nu ba ye : Int32} {sg : Nat → List Int32} {v : Int32} (hm : 0 ≤ mo.toInt ∧ mo.toInt ≤ 9) (hv : 0 ≤ v.toInt ∧ v.toInt ≤ 99999) : 0 ≤ (hmk K mo nu ba ye sg v).toInt ∧ (hmk K mo nu ba ye sg v).toInt < 131072 := by
  have k0 : 0 ≤ (hmk0 mo nu ba ye sg v).toInt ∧ (hmk0 mo nu ba ye sg v).toInt ≤ 99999 := by
    unfold hmk0; split
    · exact hask_in
    · exact hv
  have kb : 0 ≤ (if v - v / 10 * 10 = 0 then (1 : Int32) else 0).toInt ∧ (if v - v / 10 * 10 = 0 then (1 : Int32) else 0).toInt ≤ 1 := by split <;> decide
  have e1 : (hmk0 mo nu ba ye sg v + (if v - v / 10 * 10 = 0 then (1 : Int32) else 0)).toInt = (hmk0 mo nu ba ye sg v).toInt + (if v - v / 10 * 10 = 0 then (1 : Int32) else 0).toInt := i32_add (by omega) (by omega)
  unfold hmk
  split
  · omega
  · split
    · omega
    · split
      · rw [i32_add (by omega) (by omega), e1]; omega
      · rw [i32_add (by omega) (by decide), i0]; omega
theorem wi_num {v : Int32} (h : mc_wi v 0 99999 = true) : 0 ≤ v.toInt ∧ v.toInt ≤ 99999 := by
  rw [mc_wi_iff] at h; exact h
theorem xHd.mk {q : List (Option Nat)} {z : mc_W} {h : Nat} {u : Nat → Int32} {c : Nat → List Int32} {K mo nu ba ye : Int32} {sg : Nat → List Int32} (hH : xHd q z h u c K mo nu ba ye sg) {v : Int32} (hv : 0 ≤ v.toInt ∧ v.toInt ≤ 99999) : 0 ≤ (hmk K mo nu ba ye sg v).toInt ∧ (hmk K mo nu ba ye sg v).toInt < 131072 := hmk_in hH.2.2.2.2.2.2.1 hv
theorem xOK.c {s : Nat → Int32} {a : Nat → List Int32} {q : List (Option Nat)} {c c1 : Nat → List Int32} {z : mc_W} {T : Nat} {sg : Nat → Nat → List Int32} (h : xOK s a q c z T sg) (h1 : xC c1) : xOK s a q c1 z T sg :=
  ⟨h.1, h.2.1, h.2.2.1, h.2.2.2.1, h.2.2.2.2.1, h1, h.2.2.2.2.2.2⟩
theorem wn_big {x : Int32} (hx : 0 ≤ x.toInt) : (if (9999 : Int32) < x then 9999 else x) = yy_wn x 0 9999 := by
  have h : ¬ x < 0 := fun q => by rw [Int32.lt_iff_toInt_lt, i0] at q; omega
  unfold yy_wn; rw [if_neg h]
abbrev xmk (s : Nat → Int32) (a : Nat → List Int32) (sg : Nat → List Int32) (k v : Int32) : Int32 := hmk (gt (a 0) k) (gt (a 1) k) k (s 0) (s 1) sg v
abbrev xwr (s : Nat → Int32) (a : Nat → List Int32) (sg : Nat → List Int32) (k v : Int32) : List Int32 := hwr (gt (a 0) k) (gt (a 1) k) k (s 0) (s 1) sg v
abbrev xfg (s : Nat → Int32) (a : Nat → List Int32) (k : Int32) : Int32 := yy_fg (gt (a 0) k) (gt (a 1) k) (s 0)
abbrev xask (s : Nat → Int32) (a : Nat → List Int32) (sg : Nat → List Int32) (p : Nat) (k v o : Int32) : Int32 := hask (gt (a 1) k) k (s 0) (s 1) sg p v o
def xadds (s : Nat → Int32) (a : Nat → List Int32) (sg : Nat → List Int32) (k x y : Int32) : Int64 := if mc_wi k 0 (s 2 - 1) = false then -5 else if (mc_wi x 0 99999 && mc_wi y 0 99999) = false then -7 else (xmk s a sg k x).toInt64 + (xmk s a sg k y).toInt64
def xfig (s : Nat → Int32) (a : Nat → List Int32) (sg : Nat → List Int32) (k v w : Int32) : Int32 :=
  if mc_wi k 0 (s 2 - 1) = false then -5 else if (mc_wi v 0 99999 && mc_wi w 0 40) = false then -7
  else if w = 0 then nI (xwr s a sg k v).length else if nI (xwr s a sg k v).length < w then -1 else (xwr s a sg k v).getD (w - 1).toNatClampNeg 0
def xplain (s : Nat → Int32) (a : Nat → List Int32) (sg : Nat → List Int32) (k v : Int32) : Int64 := if mc_wi k 0 (s 2 - 1) = false then -5 else if mc_wi v 0 99999 = false then -7 else yrd (s 0) (xwr s a sg k v)
def xreads (s : Nat → Int32) (a : Nat → List Int32) (sg : Nat → List Int32) (w v : Int32) : Int64 :=
  if (mc_wi (w / 100) 0 (s 2 - 1) && mc_wi (w - w / 100 * 100) 0 (s 2 - 1)) = false then -5 else if mc_wi v 0 99999 = false then -7
  else yrd (xfg s a (w / 100)) (if yy_it (gt (a 0) (w / 100)) = true then (xwr s a sg (w - w / 100 * 100) v).reverse else xwr s a sg (w - w / 100 * 100) v)
def xsure (s : Nat → Int32) (a : Nat → List Int32) (sg : Nat → List Int32) (k v : Int32) : Int64 := if mc_wi k 0 (s 2 - 1) = false then -5 else if mc_wi v 0 99999 = false then -7 else ysr (xask s a sg 1 k v 0) (xwr s a sg k v).length 1000000000
def xpyc (s : Nat → Int32) (a : Nat → List Int32) (k fg mu : Int32) : Int32 :=
  if mc_wi k 0 (s 2 - 1) = false then -6 else if yy_fo (fg / 10) (fg - fg / 10 * 10) = false then -5 else if mc_wi mu 0 9999 = false then -7
  else if gt (a 3) (6 * (fg / 10) + (fg - fg / 10 * 10)) - mu < 0 then -3 else 0
def xpyv (s : Nat → Int32) (a : Nat → List Int32) (sg : Nat → List Int32) (k fg mu : Int32) : Int32 :=
  if gt (a 3) (6 * (fg / 10) + (fg - fg / 10 * 10)) - mu = 0 then yy_wn (xmk s a sg k 0) 0 9999 else gt (a 3) (6 * (fg / 10) + (fg - fg / 10 * 10)) - mu
def xpay (s : Nat → Int32) (a : Nat → List Int32) (sg : Nat → List Int32) (k fg mu : Int32) : Int32 := if xpyc s a k fg mu = 0 then xpyv s a sg k fg mu else xpyc s a k fg mu
def xpya (s : Nat → Int32) (a : Nat → List Int32) (sg : Nat → List Int32) (k fg mu : Int32) : Nat → List Int32 := if xpyc s a k fg mu = 0 then mc_up a 3 ((a 3).set (6 * (fg / 10) + (fg - fg / 10 * 10)).toNatClampNeg (xpyv s a sg k fg mu)) else a
theorem sp_x_adds {s u m n : Nat → Int32} {a c b d : Nat → List Int32} {q : List (Option Nat)} {h : Nat} {z : mc_W} {T : Nat} {sg : Nat → Nat → List Int32} {k x y : Int32} (hO : xOK s a q c z T sg) : mc_T yX6_adds cX6_adds 5 (some .long) 6 [.ref 0, .int k, .int x, .int y] (WW s a q u c h m b n d z) (some (.long (xadds s a (sg (tl s)) k x y))) (fun w1 => ∃ u1 c1 h1, xC c1 ∧ w1 = (WW s a q u1 c1 h1 m b n d z)) := by
  refine mc_start (own := RX6) (ini := false) rfl (by decide +kernel) (fun h => by cases h) (Nat.le_of_ble_eq_true rfl) ?_
  show mc_E _ _ _ _ _ [some (.ref 0), some (.int k), some (.int x), some (.int y), none] [] _ _ _
  refine e_aloadn (pc := 0) dX6_adds_0 rfl ?_
  refine e_iloadn (pc := 1) dX6_adds_1 rfl ?_
  refine e_cvD (pc := 2) (sp_x_isClerk hO.2.1) dX6_adds_2 kX6_115 rfl rfl rfl rfl rfl (mc_CR_of (Nat.le_of_ble_eq_true rfl) (Nat.le_of_ble_eq_true rfl) (Nat.le_refl _) (Nat.le_refl _)) (Nat.le_of_ble_eq_true rfl) ?_
  refine e_if_ne (pc := 5) dX6_adds_5 (t := 12) (by decide) (fun c_5 => ?_) (fun c_5 => ?_)
  · skip
    refine e_iloadn (pc := 12) dX6_adds_12 rfl ?_
    refine e_csD (pc := 13) (sp_isNumber) dX6_adds_13 kX6_118 rfl rfl (mc_CR_of (Nat.le_of_ble_eq_true rfl) (Nat.le_of_ble_eq_true rfl) (Nat.le_refl _) (Nat.le_refl _)) (Nat.le_of_ble_eq_true rfl) ?_
    refine e_if_eq (pc := 16) dX6_adds_16 (t := 26) (by decide) (fun c_16 => ?_) (fun c_16 => ?_)
    · skip
      refine e_ldc2 (pc := 26) dX6_adds_26 qX6_147 ?_
      exact e_lret (pc := 29) dX6_adds_29 rfl (Nat.le_refl _) (Nat.le_refl _) ⟨by unfold xadds; rw [if_neg (by rw [mc_b1.mp c_5]; decide), if_pos (by simp only [mc_b0, mc_b1, Bool.not_eq_false] at *; simp_all)], u, c, h, hO.2.2.2.2.2.1, rfl⟩
    · skip
      refine e_iloadn (pc := 19) dX6_adds_19 rfl ?_
      refine e_csD (pc := 20) (sp_isNumber) dX6_adds_20 kX6_118 rfl rfl (mc_CR_of (Nat.le_of_ble_eq_true rfl) (Nat.le_of_ble_eq_true rfl) (Nat.le_refl _) (Nat.le_refl _)) (Nat.le_of_ble_eq_true rfl) ?_
      refine e_if_ne (pc := 23) dX6_adds_23 (t := 30) (by decide) (fun c_23 => ?_) (fun c_23 => ?_)
      · skip
        refine e_aloadn (pc := 30) dX6_adds_30 rfl ?_
        refine e_iloadn (pc := 31) dX6_adds_31 rfl ?_
        refine e_cvX (pc := 32) (sp_x_handOf hO (mc_b1.mp c_5)) dX6_adds_32 kX6_121 rfl rfl rfl rfl rfl (mc_CR_of (Nat.le_of_ble_eq_true rfl) (Nat.le_of_ble_eq_true rfl) (Nat.le_refl _) (Nat.le_refl _)) (Nat.le_of_ble_eq_true rfl) (fun w1 hw1 => ?_)
        obtain ⟨u1, c1, hH, hk1, rfl⟩ := hw1
        refine e_asw4 (pc := 35) dX6_adds_35 (Nat.le_of_ble_eq_true rfl) rfl ?_
        refine e_aload (pc := 37) dX6_adds_37 rfl ?_
        refine e_iloadn (pc := 39) dX6_adds_39 rfl ?_
        refine e_cvX (pc := 40) (sp_x_makes hH) dX6_adds_40 kX6_157 rfl rfl rfl rfl rfl (mc_CR_of (Nat.le_of_ble_eq_true rfl) (Nat.le_of_ble_eq_true rfl) (Nat.le_refl _) (Nat.le_refl _)) (Nat.le_of_ble_eq_true rfl) (fun w1 hw1 => ?_)
        obtain ⟨c2, hH2, hk2, -, rfl⟩ := hw1
        refine e_i2l (pc := 43) dX6_adds_43 ?_
        refine e_aload (pc := 44) dX6_adds_44 rfl ?_
        refine e_iloadn (pc := 46) dX6_adds_46 rfl ?_
        refine e_cvX (pc := 47) (sp_x_makes hH2) dX6_adds_47 kX6_157 rfl rfl rfl rfl rfl (mc_CR_of (Nat.le_of_ble_eq_true rfl) (Nat.le_of_ble_eq_true rfl) (Nat.le_refl _) (Nat.le_refl _)) (Nat.le_of_ble_eq_true rfl) (fun w1 hw1 => ?_)
        obtain ⟨c3, hH3, hk3, -, rfl⟩ := hw1
        refine e_i2l (pc := 50) dX6_adds_50 ?_
        refine e_ladd (pc := 51) dX6_adds_51 ?_
        exact e_lret (pc := 52) dX6_adds_52 rfl (Nat.le_refl _) (Nat.le_refl _) ⟨by unfold xadds; rw [if_neg (by rw [mc_b1.mp c_5]; decide), if_neg (by simp only [mc_b0, mc_b1, Bool.not_eq_false] at *; simp_all)]; try rfl, u1, c3, _, hH3.C ((hk1.trans hk2).trans hk3) hO.2.2.2.2.2.1, rfl⟩
      · skip
        refine e_ldc2 (pc := 26) dX6_adds_26 qX6_147 ?_
        exact e_lret (pc := 29) dX6_adds_29 rfl (Nat.le_refl _) (Nat.le_refl _) ⟨by unfold xadds; rw [if_neg (by rw [mc_b1.mp c_5]; decide), if_pos (by simp only [mc_b0, mc_b1, Bool.not_eq_false] at *; simp_all)], u, c, h, hO.2.2.2.2.2.1, rfl⟩
  · skip
    refine e_ldc2 (pc := 8) dX6_adds_8 qX6_145 ?_
    exact e_lret (pc := 11) dX6_adds_11 rfl (Nat.le_refl _) (Nat.le_refl _) ⟨by unfold xadds; rw [if_pos (mc_b0.mp c_5)], u, c, h, hO.2.2.2.2.2.1, rfl⟩
theorem sp_x_plain {s u m n : Nat → Int32} {a c b d : Nat → List Int32} {q : List (Option Nat)} {h : Nat} {z : mc_W} {T : Nat} {sg : Nat → Nat → List Int32} {k v : Int32} (hO : xOK s a q c z T sg) : mc_T yX6_plain cX6_plain 4 (some .long) 7 [.ref 0, .int k, .int v] (WW s a q u c h m b n d z) (some (.long (xplain s a (sg (tl s)) k v))) (fun w1 => ∃ u1 c1 h1, xC c1 ∧ w1 = (WW s a q u1 c1 h1 m b n d z)) := by
  refine mc_start (own := RX6) (ini := false) rfl (by decide +kernel) (fun h => by cases h) (Nat.le_of_ble_eq_true rfl) ?_
  show mc_E _ _ _ _ _ [some (.ref 0), some (.int k), some (.int v), none] [] _ _ _
  refine e_aloadn (pc := 0) dX6_plain_0 rfl ?_
  refine e_iloadn (pc := 1) dX6_plain_1 rfl ?_
  refine e_cvD (pc := 2) (sp_x_isClerk hO.2.1) dX6_plain_2 kX6_115 rfl rfl rfl rfl rfl (mc_CR_of (Nat.le_of_ble_eq_true rfl) (Nat.le_of_ble_eq_true rfl) (Nat.le_refl _) (Nat.le_refl _)) (Nat.le_of_ble_eq_true rfl) ?_
  refine e_if_ne (pc := 5) dX6_plain_5 (t := 12) (by decide) (fun c_5 => ?_) (fun c_5 => ?_)
  · skip
    refine e_iloadn (pc := 12) dX6_plain_12 rfl ?_
    refine e_csD (pc := 13) (sp_isNumber) dX6_plain_13 kX6_118 rfl rfl (mc_CR_of (Nat.le_of_ble_eq_true rfl) (Nat.le_of_ble_eq_true rfl) (Nat.le_refl _) (Nat.le_refl _)) (Nat.le_of_ble_eq_true rfl) ?_
    refine e_if_ne (pc := 16) dX6_plain_16 (t := 23) (by decide) (fun c_16 => ?_) (fun c_16 => ?_)
    · skip
      refine e_aloadn (pc := 23) dX6_plain_23 rfl ?_
      refine e_iloadn (pc := 24) dX6_plain_24 rfl ?_
      refine e_cvX (pc := 25) (sp_x_handOf hO (mc_b1.mp c_5)) dX6_plain_25 kX6_121 rfl rfl rfl rfl rfl (mc_CR_of (Nat.le_of_ble_eq_true rfl) (Nat.le_of_ble_eq_true rfl) (Nat.le_refl _) (Nat.le_refl _)) (Nat.le_of_ble_eq_true rfl) (fun w1 hw1 => ?_)
      obtain ⟨u1, c1, hH, hk1, rfl⟩ := hw1
      refine e_asn3 (pc := 28) dX6_plain_28 (Nat.le_of_ble_eq_true rfl) rfl ?_
      refine e_aloadn (pc := 29) dX6_plain_29 rfl ?_
      refine e_iloadn (pc := 30) dX6_plain_30 rfl ?_
      refine e_cvY (pc := 31) (sp_x_write hH (hH.mk (wi_num (mc_b1.mp c_16)))) dX6_plain_31 kX6_135 rfl rfl rfl rfl rfl (mc_CR_of (Nat.le_of_ble_eq_true rfl) (Nat.le_of_ble_eq_true rfl) (Nat.le_refl _) (Nat.le_refl _)) (Nat.le_of_ble_eq_true rfl) (fun w1 hw1 => ?_)
      obtain ⟨u2, c2, hH2, hk2, hF, rfl⟩ := hw1
      refine e_aloadn (pc := 34) dX6_plain_34 rfl ?_
      refine e_cvD (pc := 35) (sp_x_readPl hH2 hF) dX6_plain_35 kX6_153 rfl rfl rfl rfl rfl (mc_CR_of (Nat.le_of_ble_eq_true rfl) (Nat.le_of_ble_eq_true rfl) (Nat.le_refl _) (Nat.le_refl _)) (Nat.le_of_ble_eq_true rfl) ?_
      exact e_lret (pc := 38) dX6_plain_38 rfl (Nat.le_refl _) (Nat.le_refl _) ⟨by unfold xplain; rw [if_neg (by rw [mc_b1.mp c_5]; decide), if_neg (by simp only [mc_b0, mc_b1, Bool.not_eq_false] at *; simp_all)]; try rfl, u2, c2, _, hH2.C (hk1.trans hk2) hO.2.2.2.2.2.1, rfl⟩
    · skip
      refine e_ldc2 (pc := 19) dX6_plain_19 qX6_147 ?_
      exact e_lret (pc := 22) dX6_plain_22 rfl (Nat.le_refl _) (Nat.le_refl _) ⟨by unfold xplain; rw [if_neg (by rw [mc_b1.mp c_5]; decide), if_pos (by simp only [mc_b0, mc_b1, Bool.not_eq_false] at *; simp_all)], u, c, h, hO.2.2.2.2.2.1, rfl⟩
  · skip
    refine e_ldc2 (pc := 8) dX6_plain_8 qX6_145 ?_
    exact e_lret (pc := 11) dX6_plain_11 rfl (Nat.le_refl _) (Nat.le_refl _) ⟨by unfold xplain; rw [if_pos (mc_b0.mp c_5)], u, c, h, hO.2.2.2.2.2.1, rfl⟩
theorem sp_x_figure {s u m n : Nat → Int32} {a c b d : Nat → List Int32} {q : List (Option Nat)} {h : Nat} {z : mc_W} {T : Nat} {sg : Nat → Nat → List Int32} {k v w : Int32} (hO : xOK s a q c z T sg) : mc_T yX6_figure cX6_figure 5 (some .int) 7 [.ref 0, .int k, .int v, .int w] (WW s a q u c h m b n d z) (some (.int (xfig s a (sg (tl s)) k v w))) (fun w1 => ∃ u1 c1 h1, xC c1 ∧ w1 = (WW s a q u1 c1 h1 m b n d z)) := by
  refine mc_start (own := RX6) (ini := false) rfl (by decide +kernel) (fun h => by cases h) (Nat.le_of_ble_eq_true rfl) ?_
  show mc_E _ _ _ _ _ [some (.ref 0), some (.int k), some (.int v), some (.int w), none] [] _ _ _
  have hw1 : mc_wi w 0 40 = true → ¬ w = 0 → w - 1 = nI (w - 1).toNatClampNeg ∧ ∀ {N : Nat}, w ≤ nI N → (w - 1).toNatClampNeg < N := fun q1 q2 => by
    rw [mc_wi_iff, i0, show (40 : Int32).toInt = 40 from rfl] at q1
    have q3 : ¬ w.toInt = 0 := fun r => q2 (Int32.toInt_inj.mp r)
    have e : (w - 1).toInt = w.toInt - 1 := by rw [i32_sub (by omega) (by decide), i1]
    refine ⟨nI_back (by omega), fun {N} h => ?_⟩
    have t := tnc (x := w - 1) (by omega)
    by_cases hN : N < 41
    · rw [Int32.le_iff_toInt_le, nI_toInt (by omega)] at h; omega
    · omega
  refine e_aloadn (pc := 0) dX6_figure_0 rfl ?_
  refine e_iloadn (pc := 1) dX6_figure_1 rfl ?_
  refine e_cvD (pc := 2) (sp_x_isClerk hO.2.1) dX6_figure_2 kX6_115 rfl rfl rfl rfl rfl (mc_CR_of (Nat.le_of_ble_eq_true rfl) (Nat.le_of_ble_eq_true rfl) (Nat.le_refl _) (Nat.le_refl _)) (Nat.le_of_ble_eq_true rfl) ?_
  refine e_if_ne (pc := 5) dX6_figure_5 (t := 11) (by decide) (fun c_5 => ?_) (fun c_5 => ?_)
  · skip
    refine e_iloadn (pc := 11) dX6_figure_11 rfl ?_
    refine e_csD (pc := 12) (sp_isNumber) dX6_figure_12 kX6_118 rfl rfl (mc_CR_of (Nat.le_of_ble_eq_true rfl) (Nat.le_of_ble_eq_true rfl) (Nat.le_refl _) (Nat.le_refl _)) (Nat.le_of_ble_eq_true rfl) ?_
    refine e_if_eq (pc := 15) dX6_figure_15 (t := 28) (by decide) (fun c_15 => ?_) (fun c_15 => ?_)
    · skip
      refine e_bipush (v := -7) (pc := 28) dX6_figure_28 (by decide) ?_
      exact e_iret (pc := 30) dX6_figure_30 rfl (Nat.le_refl _) (Nat.le_refl _) ⟨by unfold xfig; rw [if_neg (by rw [mc_b1.mp c_5]; decide), if_pos (by simp only [mc_b0, mc_b1, Bool.not_eq_false] at *; simp_all)], u, c, h, hO.2.2.2.2.2.1, rfl⟩
    · skip
      refine e_iloadn (pc := 18) dX6_figure_18 rfl ?_
      refine e_iconst (v := 0) (pc := 19) dX6_figure_19 (by decide) ?_
      refine e_bipush (v := 40) (pc := 20) dX6_figure_20 (by decide) ?_
      refine e_csD (pc := 22) (sp_isWithin) dX6_figure_22 kX6_86 rfl rfl (mc_CR_of (Nat.le_of_ble_eq_true rfl) (Nat.le_of_ble_eq_true rfl) (Nat.le_refl _) (Nat.le_refl _)) (Nat.le_of_ble_eq_true rfl) ?_
      refine e_if_ne (pc := 25) dX6_figure_25 (t := 31) (by decide) (fun c_25 => ?_) (fun c_25 => ?_)
      · skip
        refine e_aloadn (pc := 31) dX6_figure_31 rfl ?_
        refine e_iloadn (pc := 32) dX6_figure_32 rfl ?_
        refine e_cvX (pc := 33) (sp_x_handOf hO (mc_b1.mp c_5)) dX6_figure_33 kX6_121 rfl rfl rfl rfl rfl (mc_CR_of (Nat.le_of_ble_eq_true rfl) (Nat.le_of_ble_eq_true rfl) (Nat.le_refl _) (Nat.le_refl _)) (Nat.le_of_ble_eq_true rfl) (fun w1 hw1 => ?_)
        obtain ⟨u1, c1, hH, hk1, rfl⟩ := hw1
        refine e_asw4 (pc := 36) dX6_figure_36 (Nat.le_of_ble_eq_true rfl) rfl ?_
        refine e_aload (pc := 38) dX6_figure_38 rfl ?_
        refine e_iloadn (pc := 40) dX6_figure_40 rfl ?_
        refine e_cvY (pc := 41) (sp_x_write hH (hH.mk (wi_num (mc_b1.mp c_15)))) dX6_figure_41 kX6_135 rfl rfl rfl rfl rfl (mc_CR_of (Nat.le_of_ble_eq_true rfl) (Nat.le_of_ble_eq_true rfl) (Nat.le_refl _) (Nat.le_refl _)) (Nat.le_of_ble_eq_true rfl) (fun w1 hw1 => ?_)
        obtain ⟨u2, c2, hH2, hk2, hF, rfl⟩ := hw1
        refine e_iloadn (pc := 44) dX6_figure_44 rfl ?_
        refine e_if_ne (pc := 45) dX6_figure_45 (t := 54) (by decide) (fun c_45 => ?_) (fun c_45 => ?_)
        · skip
          refine e_iloadn (pc := 54) dX6_figure_54 rfl ?_
          refine e_aload (pc := 55) dX6_figure_55 rfl ?_
          refine e_cvD (pc := 57) (sp_x_many) dX6_figure_57 kX6_138 rfl rfl rfl rfl rfl (mc_CR_of (Nat.le_of_ble_eq_true rfl) (Nat.le_of_ble_eq_true rfl) (Nat.le_refl _) (Nat.le_refl _)) (Nat.le_of_ble_eq_true rfl) ?_
          rw [hF.1]
          refine e_icmp_le (pc := 60) dX6_figure_60 (t := 67) (by decide) (fun c_60 => ?_) (fun c_60 => ?_)
          · skip
            refine e_aload (pc := 67) dX6_figure_67 rfl ?_
            refine e_iloadn (pc := 69) dX6_figure_69 rfl ?_
            refine e_iconst (v := 1) (pc := 70) dX6_figure_70 (by decide) ?_
            refine e_isub (pc := 71) dX6_figure_71 ?_
            refine e_cvD (pc := 72) (sp_x_written (j := (w - 1).toNatClampNeg) hF (hw1 (mc_b1.mp c_25) c_45).1 ((hw1 (mc_b1.mp c_25) c_45).2 c_60)) dX6_figure_72 kX6_141 rfl rfl rfl rfl rfl (mc_CR_of (Nat.le_of_ble_eq_true rfl) (Nat.le_of_ble_eq_true rfl) (Nat.le_refl _) (Nat.le_refl _)) (Nat.le_of_ble_eq_true rfl) ?_
            exact e_iret (pc := 75) dX6_figure_75 rfl (Nat.le_refl _) (Nat.le_refl _) ⟨by unfold xfig; rw [if_neg (by rw [mc_b1.mp c_5]; decide), if_neg (by simp only [mc_b0, mc_b1, Bool.not_eq_false] at *; simp_all)]; rw [if_neg c_45, if_neg (Int32.not_lt.mpr c_60)]; try rfl, u2, c2, _, hH2.C (hk1.trans hk2) hO.2.2.2.2.2.1, rfl⟩
          · skip
            refine e_iconst (v := -1) (pc := 63) dX6_figure_63 (by decide) ?_
            refine e_goto (pc := 64) dX6_figure_64 (t := 75) (by decide) ?_
            exact e_iret (pc := 75) dX6_figure_75 rfl (Nat.le_refl _) (Nat.le_refl _) ⟨by unfold xfig; rw [if_neg (by rw [mc_b1.mp c_5]; decide), if_neg (by simp only [mc_b0, mc_b1, Bool.not_eq_false] at *; simp_all)]; rw [if_neg c_45, if_pos (Int32.not_le.mp c_60)], u2, c2, _, hH2.C (hk1.trans hk2) hO.2.2.2.2.2.1, rfl⟩
        · skip
          refine e_aload (pc := 48) dX6_figure_48 rfl ?_
          refine e_cvD (pc := 50) (sp_x_many) dX6_figure_50 kX6_138 rfl rfl rfl rfl rfl (mc_CR_of (Nat.le_of_ble_eq_true rfl) (Nat.le_of_ble_eq_true rfl) (Nat.le_refl _) (Nat.le_refl _)) (Nat.le_of_ble_eq_true rfl) ?_
          rw [hF.1]
          exact e_iret (pc := 53) dX6_figure_53 rfl (Nat.le_refl _) (Nat.le_refl _) ⟨by unfold xfig; rw [if_neg (by rw [mc_b1.mp c_5]; decide), if_neg (by simp only [mc_b0, mc_b1, Bool.not_eq_false] at *; simp_all)]; rw [if_pos c_45]; try rfl, u2, c2, _, hH2.C (hk1.trans hk2) hO.2.2.2.2.2.1, rfl⟩
      · skip
        refine e_bipush (v := -7) (pc := 28) dX6_figure_28 (by decide) ?_
        exact e_iret (pc := 30) dX6_figure_30 rfl (Nat.le_refl _) (Nat.le_refl _) ⟨by unfold xfig; rw [if_neg (by rw [mc_b1.mp c_5]; decide), if_pos (by simp only [mc_b0, mc_b1, Bool.not_eq_false] at *; simp_all)], u, c, h, hO.2.2.2.2.2.1, rfl⟩
  · skip
    refine e_bipush (v := -5) (pc := 8) dX6_figure_8 (by decide) ?_
    exact e_iret (pc := 10) dX6_figure_10 rfl (Nat.le_refl _) (Nat.le_refl _) ⟨by unfold xfig; rw [if_pos (mc_b0.mp c_5)], u, c, h, hO.2.2.2.2.2.1, rfl⟩
theorem sp_x_readsC {s u m n : Nat → Int32} {a c b d : Nat → List Int32} {q : List (Option Nat)} {h : Nat} {z : mc_W} {T : Nat} {sg : Nat → Nat → List Int32} {w v : Int32} (hO : xOK s a q c z T sg) : mc_T yX6_reads cX6_reads 9 (some .long) 7 [.ref 0, .int w, .int v] (WW s a q u c h m b n d z) (some (.long (xreads s a (sg (tl s)) w v))) (fun w1 => ∃ u1 c1 h1, xC c1 ∧ w1 = (WW s a q u1 c1 h1 m b n d z)) := by
  refine mc_start (own := RX6) (ini := false) rfl (by decide +kernel) (fun h => by cases h) (Nat.le_of_ble_eq_true rfl) ?_
  show mc_E _ _ _ _ _ [some (.ref 0), some (.int w), some (.int v), none, none, none, none, none, none] [] _ _ _
  refine e_iloadn (pc := 0) dX6_reads_0 rfl ?_
  refine e_bipush (v := 100) (pc := 1) dX6_reads_1 (by decide) ?_
  refine e_idiv (pc := 3) dX6_reads_3 (by decide) ?_
  refine e_isn3 (pc := 4) dX6_reads_4 (Nat.le_of_ble_eq_true rfl) rfl ?_
  refine e_iloadn (pc := 5) dX6_reads_5 rfl ?_
  refine e_bipush (v := 100) (pc := 6) dX6_reads_6 (by decide) ?_
  refine e_irem (pc := 8) dX6_reads_8 (by decide) ?_
  refine e_isw4 (pc := 9) dX6_reads_9 (Nat.le_of_ble_eq_true rfl) rfl ?_
  refine e_aloadn (pc := 11) dX6_reads_11 rfl ?_
  refine e_iloadn (pc := 12) dX6_reads_12 rfl ?_
  refine e_cvD (pc := 13) (sp_x_isClerk hO.2.1) dX6_reads_13 kX6_115 rfl rfl rfl rfl rfl (mc_CR_of (Nat.le_of_ble_eq_true rfl) (Nat.le_of_ble_eq_true rfl) (Nat.le_refl _) (Nat.le_refl _)) (Nat.le_of_ble_eq_true rfl) ?_
  refine e_if_eq (pc := 16) dX6_reads_16 (t := 28) (by decide) (fun c_16 => ?_) (fun c_16 => ?_)
  · skip
    refine e_ldc2 (pc := 28) dX6_reads_28 qX6_145 ?_
    exact e_lret (pc := 31) dX6_reads_31 rfl (Nat.le_refl _) (Nat.le_refl _) ⟨by unfold xreads; rw [if_pos (by simp only [mc_b0, mc_b1, Bool.not_eq_false] at *; simp_all)], u, c, h, hO.2.2.2.2.2.1, rfl⟩
  · skip
    refine e_aloadn (pc := 19) dX6_reads_19 rfl ?_
    refine e_iload (pc := 20) dX6_reads_20 rfl ?_
    refine e_cvD (pc := 22) (sp_x_isClerk hO.2.1) dX6_reads_22 kX6_115 rfl rfl rfl rfl rfl (mc_CR_of (Nat.le_of_ble_eq_true rfl) (Nat.le_of_ble_eq_true rfl) (Nat.le_refl _) (Nat.le_refl _)) (Nat.le_of_ble_eq_true rfl) ?_
    refine e_if_ne (pc := 25) dX6_reads_25 (t := 32) (by decide) (fun c_25 => ?_) (fun c_25 => ?_)
    · skip
      refine e_iloadn (pc := 32) dX6_reads_32 rfl ?_
      refine e_csD (pc := 33) (sp_isNumber) dX6_reads_33 kX6_118 rfl rfl (mc_CR_of (Nat.le_of_ble_eq_true rfl) (Nat.le_of_ble_eq_true rfl) (Nat.le_refl _) (Nat.le_refl _)) (Nat.le_of_ble_eq_true rfl) ?_
      refine e_if_ne (pc := 36) dX6_reads_36 (t := 43) (by decide) (fun c_36 => ?_) (fun c_36 => ?_)
      · skip
        refine e_aloadn (pc := 43) dX6_reads_43 rfl ?_
        refine e_iloadn (pc := 44) dX6_reads_44 rfl ?_
        refine e_cvX (pc := 45) (sp_x_handOf hO (mc_b1.mp c_16)) dX6_reads_45 kX6_121 rfl rfl rfl rfl rfl (mc_CR_of (Nat.le_of_ble_eq_true rfl) (Nat.le_of_ble_eq_true rfl) (Nat.le_refl _) (Nat.le_refl _)) (Nat.le_of_ble_eq_true rfl) (fun w1 hw1 => ?_)
        obtain ⟨u1, c1, hH, hk1, rfl⟩ := hw1
        refine e_asw5 (pc := 48) dX6_reads_48 (Nat.le_of_ble_eq_true rfl) rfl ?_
        refine e_aload (pc := 50) dX6_reads_50 rfl ?_
        refine e_cvD (pc := 52) (sp_x_figures hH) dX6_reads_52 kX6_129 rfl rfl rfl rfl rfl (mc_CR_of (Nat.le_of_ble_eq_true rfl) (Nat.le_of_ble_eq_true rfl) (Nat.le_refl _) (Nat.le_refl _)) (Nat.le_of_ble_eq_true rfl) ?_
        refine e_isw6 (pc := 55) dX6_reads_55 (Nat.le_of_ble_eq_true rfl) rfl ?_
        refine e_aload (pc := 57) dX6_reads_57 rfl ?_
        refine e_cvD (pc := 59) (sp_x_isTurned hH) dX6_reads_59 kX6_132 rfl rfl rfl rfl rfl (mc_CR_of (Nat.le_of_ble_eq_true rfl) (Nat.le_of_ble_eq_true rfl) (Nat.le_refl _) (Nat.le_refl _)) (Nat.le_of_ble_eq_true rfl) ?_
        refine e_isw7 (pc := 62) dX6_reads_62 (Nat.le_of_ble_eq_true rfl) rfl ?_
        refine e_aloadn (pc := 64) dX6_reads_64 rfl ?_
        refine e_iload (pc := 65) dX6_reads_65 rfl ?_
        refine e_cvX (pc := 67) (sp_x_handOf (hO.c (hH.C hk1 hO.2.2.2.2.2.1)) (mc_b1.mp c_25)) dX6_reads_67 kX6_121 rfl rfl rfl rfl rfl (mc_CR_of (Nat.le_of_ble_eq_true rfl) (Nat.le_of_ble_eq_true rfl) (Nat.le_refl _) (Nat.le_refl _)) (Nat.le_of_ble_eq_true rfl) (fun w1 hw1 => ?_)
        obtain ⟨u2, c2, hH2, hk2, rfl⟩ := hw1
        refine e_asw8 (pc := 70) dX6_reads_70 (Nat.le_of_ble_eq_true rfl) rfl ?_
        refine e_aload (pc := 72) dX6_reads_72 rfl ?_
        refine e_iloadn (pc := 74) dX6_reads_74 rfl ?_
        refine e_cvY (pc := 75) (sp_x_write hH2 (hH2.mk (wi_num (mc_b1.mp c_36)))) dX6_reads_75 kX6_135 rfl rfl rfl rfl rfl (mc_CR_of (Nat.le_of_ble_eq_true rfl) (Nat.le_of_ble_eq_true rfl) (Nat.le_refl _) (Nat.le_refl _)) (Nat.le_of_ble_eq_true rfl) (fun w1 hw1 => ?_)
        obtain ⟨u3, c3, hH3, hk3, hF, rfl⟩ := hw1
        refine e_aload (pc := 78) dX6_reads_78 rfl ?_
        refine e_iload (pc := 80) dX6_reads_80 rfl ?_
        refine e_iload (pc := 82) dX6_reads_82 rfl ?_
        refine e_cvD (pc := 84) (sp_x_readWith hF) dX6_reads_84 kX6_149 rfl rfl rfl rfl rfl (mc_CR_of (Nat.le_of_ble_eq_true rfl) (Nat.le_of_ble_eq_true rfl) (Nat.le_refl _) (Nat.le_refl _)) (Nat.le_of_ble_eq_true rfl) ?_
        exact e_lret (pc := 87) dX6_reads_87 rfl (Nat.le_refl _) (Nat.le_refl _) ⟨by unfold xreads; rw [if_neg (show ¬ (mc_wi (w / 100) 0 (s 2 - 1) && mc_wi (w - w / 100 * 100) 0 (s 2 - 1)) = false by rw [mc_b1.mp c_16, mc_b1.mp c_25]; decide), if_neg (show ¬ mc_wi v 0 99999 = false by rw [mc_b1.mp c_36]; decide)]; try rfl, u3, c3, _, hH3.C ((hk1.trans hk2).trans hk3) hO.2.2.2.2.2.1, rfl⟩
      · skip
        refine e_ldc2 (pc := 39) dX6_reads_39 qX6_147 ?_
        exact e_lret (pc := 42) dX6_reads_42 rfl (Nat.le_refl _) (Nat.le_refl _) ⟨by unfold xreads; rw [if_neg (show ¬ (mc_wi (w / 100) 0 (s 2 - 1) && mc_wi (w - w / 100 * 100) 0 (s 2 - 1)) = false by rw [mc_b1.mp c_16, mc_b1.mp c_25]; decide), if_pos (mc_b0.mp c_36)], u, c, h, hO.2.2.2.2.2.1, rfl⟩
    · skip
      refine e_ldc2 (pc := 28) dX6_reads_28 qX6_145 ?_
      exact e_lret (pc := 31) dX6_reads_31 rfl (Nat.le_refl _) (Nat.le_refl _) ⟨by unfold xreads; rw [if_pos (by simp only [mc_b0, mc_b1, Bool.not_eq_false] at *; simp_all)], u, c, h, hO.2.2.2.2.2.1, rfl⟩
theorem lp_x_sure {s u m n : Nat → Int32} {a c b d : Nat → List Int32} {q : List (Option Nat)} {h : Nat} {z : mc_W} {Post : Option Value → mc_W → Prop} {k v x : Int32} {xs : List Int32} {V : Int64} (hF : xRw u c xs)
    (hK : mc_E RX6 cX6_sure 9 (mc_JM (some .long) false 7 0 0 Post) 81 [some (.ref 0), some (.int k), some (.int v), some (.ref 17), some (.long (100 - x).toInt64), none, some (.long V), none, some (.int (nI xs.length))] [] (WW s a q u c h m b n d z) 0 0) :
    ∀ (g i : Nat) (S : Int64), i + g = xs.length → ysr x g S = V →
      mc_E RX6 cX6_sure 9 (mc_JM (some .long) false 7 0 0 Post) 55 [some (.ref 0), some (.int k), some (.int v), some (.ref 17), some (.long (100 - x).toInt64), none, some (.long S), none, some (.int (nI i))] [] (WW s a q u c h m b n d z) 0 0 := by
  intro g
  induction g with
  | zero =>
    intro i S hi hV
    have e : i = xs.length := by omega
    subst e
    simp only [ysr] at hV
    subst hV
    refine e_iload (pc := 55) dX6_sure_55 rfl ?_
    refine e_aloadn (pc := 57) dX6_sure_57 rfl ?_
    refine e_cvD (pc := 58) (sp_x_many) dX6_sure_58 kX6_138 rfl rfl rfl rfl rfl (mc_CR_of (Nat.le_of_ble_eq_true rfl) (Nat.le_of_ble_eq_true rfl) (Nat.le_refl _) (Nat.le_refl _)) (Nat.le_of_ble_eq_true rfl) ?_
    rw [hF.1]
    refine e_icmp_ge (pc := 61) dX6_sure_61 (t := 81) (by decide) (fun _ => ?_) (fun c_61 => absurd (nI_le (Nat.le_refl _) (by have := hF.2.2.2; omega)) c_61)
    exact hK
  | succ g ih =>
    intro i S hi hV
    simp only [ysr] at hV
    have hi1 : i < xs.length := by omega
    have h17 := hF.2.2.2
    refine e_iload (pc := 55) dX6_sure_55 rfl ?_
    refine e_aloadn (pc := 57) dX6_sure_57 rfl ?_
    refine e_cvD (pc := 58) (sp_x_many) dX6_sure_58 kX6_138 rfl rfl rfl rfl rfl (mc_CR_of (Nat.le_of_ble_eq_true rfl) (Nat.le_of_ble_eq_true rfl) (Nat.le_refl _) (Nat.le_refl _)) (Nat.le_of_ble_eq_true rfl) ?_
    rw [hF.1]
    refine e_icmp_ge (pc := 61) dX6_sure_61 (t := 81) (by decide) (fun c_61 => absurd c_61 (nI_ge (by omega) (by omega))) (fun _ => ?_)
    refine e_lload (pc := 64) dX6_sure_64 rfl ?_
    refine e_lload (pc := 66) dX6_sure_66 rfl ?_
    refine e_lmul (pc := 68) dX6_sure_68 ?_
    refine e_ldc2 (pc := 69) dX6_sure_69 qX6_214 ?_
    refine e_ldiv (pc := 72) dX6_sure_72 (by decide) ?_
    refine e_lsw6 (pc := 73) dX6_sure_73 (Nat.le_of_ble_eq_true rfl) rfl ?_
    refine e_incC8 (pc := 75) dX6_sure_75 (nI_1 i) (Nat.le_of_ble_eq_true rfl) rfl ?_
    refine e_goto (pc := 78) dX6_sure_78 (t := 55) (by decide) ?_
    exact ih (i + 1) _ (by omega) hV
theorem sp_x_sure {s u m n : Nat → Int32} {a c b d : Nat → List Int32} {q : List (Option Nat)} {h : Nat} {z : mc_W} {T : Nat} {sg : Nat → Nat → List Int32} {k v : Int32} (hO : xOK s a q c z T sg) : mc_T yX6_sure cX6_sure 9 (some .long) 7 [.ref 0, .int k, .int v] (WW s a q u c h m b n d z) (some (.long (xsure s a (sg (tl s)) k v))) (fun w1 => ∃ u1 c1 h1, xC c1 ∧ w1 = (WW s a q u1 c1 h1 m b n d z)) := by
  refine mc_start (own := RX6) (ini := false) rfl (by decide +kernel) (fun h => by cases h) (Nat.le_of_ble_eq_true rfl) ?_
  show mc_E _ _ _ _ _ [some (.ref 0), some (.int k), some (.int v), none, none, none, none, none, none] [] _ _ _
  refine e_aloadn (pc := 0) dX6_sure_0 rfl ?_
  refine e_iloadn (pc := 1) dX6_sure_1 rfl ?_
  refine e_cvD (pc := 2) (sp_x_isClerk hO.2.1) dX6_sure_2 kX6_115 rfl rfl rfl rfl rfl (mc_CR_of (Nat.le_of_ble_eq_true rfl) (Nat.le_of_ble_eq_true rfl) (Nat.le_refl _) (Nat.le_refl _)) (Nat.le_of_ble_eq_true rfl) ?_
  refine e_if_ne (pc := 5) dX6_sure_5 (t := 12) (by decide) (fun c_5 => ?_) (fun c_5 => ?_)
  · skip
    refine e_iloadn (pc := 12) dX6_sure_12 rfl ?_
    refine e_csD (pc := 13) (sp_isNumber) dX6_sure_13 kX6_118 rfl rfl (mc_CR_of (Nat.le_of_ble_eq_true rfl) (Nat.le_of_ble_eq_true rfl) (Nat.le_refl _) (Nat.le_refl _)) (Nat.le_of_ble_eq_true rfl) ?_
    refine e_if_ne (pc := 16) dX6_sure_16 (t := 23) (by decide) (fun c_16 => ?_) (fun c_16 => ?_)
    · skip
      refine e_aloadn (pc := 23) dX6_sure_23 rfl ?_
      refine e_iloadn (pc := 24) dX6_sure_24 rfl ?_
      refine e_cvX (pc := 25) (sp_x_handOf hO (mc_b1.mp c_5)) dX6_sure_25 kX6_121 rfl rfl rfl rfl rfl (mc_CR_of (Nat.le_of_ble_eq_true rfl) (Nat.le_of_ble_eq_true rfl) (Nat.le_refl _) (Nat.le_refl _)) (Nat.le_of_ble_eq_true rfl) (fun w1 hw1 => ?_)
      obtain ⟨u1, c1, hH, hk1, rfl⟩ := hw1
      refine e_asn3 (pc := 28) dX6_sure_28 (Nat.le_of_ble_eq_true rfl) rfl ?_
      refine e_aloadn (pc := 29) dX6_sure_29 rfl ?_
      refine e_iloadn (pc := 30) dX6_sure_30 rfl ?_
      refine e_cvY (pc := 31) (sp_x_write hH (hH.mk (wi_num (mc_b1.mp c_16)))) dX6_sure_31 kX6_135 rfl rfl rfl rfl rfl (mc_CR_of (Nat.le_of_ble_eq_true rfl) (Nat.le_of_ble_eq_true rfl) (Nat.le_refl _) (Nat.le_refl _)) (Nat.le_of_ble_eq_true rfl) (fun w1 hw1 => ?_)
      obtain ⟨u2, c2, hH2, hk2, hF, rfl⟩ := hw1
      refine e_bipush (v := 100) (pc := 34) dX6_sure_34 (by decide) ?_
      refine e_aloadn (pc := 36) dX6_sure_36 rfl ?_
      refine e_iconst (v := 1) (pc := 37) dX6_sure_37 (by decide) ?_
      refine e_iloadn (pc := 38) dX6_sure_38 rfl ?_
      refine e_iconst (v := 0) (pc := 39) dX6_sure_39 (by decide) ?_
      refine e_cvX (pc := 40) (sp_x_says1 hH2) dX6_sure_40 kX6_125 rfl rfl rfl rfl rfl (mc_CR_of (Nat.le_of_ble_eq_true rfl) (Nat.le_of_ble_eq_true rfl) (Nat.le_refl _) (Nat.le_refl _)) (Nat.le_of_ble_eq_true rfl) (fun w1 hw1 => ?_)
      obtain ⟨c3, hH3, hk3, hr3, rfl⟩ := hw1
      refine e_isub (pc := 43) dX6_sure_43 ?_
      refine e_i2l (pc := 44) dX6_sure_44 ?_
      refine e_lsw4 (pc := 45) dX6_sure_45 (Nat.le_of_ble_eq_true rfl) rfl ?_
      refine e_ldc2 (pc := 47) dX6_sure_47 qX6_212 ?_
      refine e_lsw6 (pc := 50) dX6_sure_50 (Nat.le_of_ble_eq_true rfl) rfl ?_
      refine e_iconst (v := 0) (pc := 52) dX6_sure_52 (by decide) ?_
      refine e_isw8 (pc := 53) dX6_sure_53 (Nat.le_of_ble_eq_true rfl) rfl ?_
      have hF3 : xRw u2 c3 (xwr s a (sg (tl s)) k v) := ⟨hF.1, by rw [hr3]; exact hF.2.1, by rw [hr3]; exact hF.2.2.1, hF.2.2.2⟩
      refine lp_x_sure (V := ysr (xask s a (sg (tl s)) 1 k v 0) (xwr s a (sg (tl s)) k v).length 1000000000) hF3 ?_ (xwr s a (sg (tl s)) k v).length 0 1000000000 (by omega) rfl
      refine e_lload (pc := 81) dX6_sure_81 rfl ?_
      exact e_lret (pc := 83) dX6_sure_83 rfl (Nat.le_refl _) (Nat.le_refl _) ⟨by unfold xsure; rw [if_neg (by rw [mc_b1.mp c_5]; decide), if_neg (by simp only [mc_b0, mc_b1, Bool.not_eq_false] at *; simp_all)], u2, c3, _, hH3.C ((hk1.trans hk2).trans hk3) hO.2.2.2.2.2.1, rfl⟩
    · skip
      refine e_ldc2 (pc := 19) dX6_sure_19 qX6_147 ?_
      exact e_lret (pc := 22) dX6_sure_22 rfl (Nat.le_refl _) (Nat.le_refl _) ⟨by unfold xsure; rw [if_neg (by rw [mc_b1.mp c_5]; decide), if_pos (by simp only [mc_b0, mc_b1, Bool.not_eq_false] at *; simp_all)], u, c, h, hO.2.2.2.2.2.1, rfl⟩
  · skip
    refine e_ldc2 (pc := 8) dX6_sure_8 qX6_145 ?_
    exact e_lret (pc := 11) dX6_sure_11 rfl (Nat.le_refl _) (Nat.le_refl _) ⟨by unfold xsure; rw [if_pos (mc_b0.mp c_5)], u, c, h, hO.2.2.2.2.2.1, rfl⟩
theorem sp_x_pay {s u m n : Nat → Int32} {a c b d : Nat → List Int32} {q : List (Option Nat)} {h : Nat} {z : mc_W} {T : Nat} {sg : Nat → Nat → List Int32} {k fg mu : Int32} (hO : xOK s a q c z T sg) : mc_T yX6_pay cX6_pay 7 (some .int) 6 [.ref 0, .int k, .int fg, .int mu] (WW s a q u c h m b n d z) (some (.int (xpay s a (sg (tl s)) k fg mu))) (fun w1 => ∃ u1 c1 h1, xC c1 ∧ w1 = (WW s (xpya s a (sg (tl s)) k fg mu) q u1 c1 h1 m b n d z)) := by
  refine mc_start (own := RX6) (ini := false) rfl (by decide +kernel) (fun h => by cases h) (Nat.le_of_ble_eq_true rfl) ?_
  show mc_E _ _ _ _ _ [some (.ref 0), some (.int k), some (.int fg), some (.int mu), none, none, none] [] _ _ _
  have hL3 := hO.1.2.2.2.1
  have hD : ∀ x, xpyc s a k fg mu = x → ¬ x = 0 → xpay s a (sg (tl s)) k fg mu = x ∧ xpya s a (sg (tl s)) k fg mu = a := fun x q r => by
    unfold xpay xpya; rw [q, if_neg r, if_neg r]; exact ⟨rfl, rfl⟩
  have hE : xpyc s a k fg mu = 0 → xpay s a (sg (tl s)) k fg mu = xpyv s a (sg (tl s)) k fg mu ∧ xpya s a (sg (tl s)) k fg mu = mc_up a 3 ((a 3).set (6 * (fg / 10) + (fg - fg / 10 * 10)).toNatClampNeg (xpyv s a (sg (tl s)) k fg mu)) := fun q => by
    unfold xpay xpya; rw [q, if_pos rfl, if_pos rfl]; exact ⟨rfl, rfl⟩
  refine e_aloadn (pc := 0) dX6_pay_0 rfl ?_
  refine e_iloadn (pc := 1) dX6_pay_1 rfl ?_
  refine e_cvD (pc := 2) (sp_x_isClerk hO.2.1) dX6_pay_2 kX6_115 rfl rfl rfl rfl rfl (mc_CR_of (Nat.le_of_ble_eq_true rfl) (Nat.le_of_ble_eq_true rfl) (Nat.le_refl _) (Nat.le_refl _)) (Nat.le_of_ble_eq_true rfl) ?_
  refine e_if_ne (pc := 5) dX6_pay_5 (t := 11) (by decide) (fun c_5 => ?_) (fun c_5 => ?_)
  · skip
    refine e_iloadn (pc := 11) dX6_pay_11 rfl ?_
    refine e_bipush (v := 10) (pc := 12) dX6_pay_12 (by decide) ?_
    refine e_idiv (pc := 14) dX6_pay_14 (by decide) ?_
    refine e_isw4 (pc := 15) dX6_pay_15 (Nat.le_of_ble_eq_true rfl) rfl ?_
    refine e_iloadn (pc := 17) dX6_pay_17 rfl ?_
    refine e_bipush (v := 10) (pc := 18) dX6_pay_18 (by decide) ?_
    refine e_irem (pc := 20) dX6_pay_20 (by decide) ?_
    refine e_isw5 (pc := 21) dX6_pay_21 (Nat.le_of_ble_eq_true rfl) rfl ?_
    refine e_iload (pc := 23) dX6_pay_23 rfl ?_
    refine e_iload (pc := 25) dX6_pay_25 rfl ?_
    refine e_csD (pc := 27) (sp_areTwoFolk) dX6_pay_27 kX6_231 rfl rfl (mc_CR_of (Nat.le_of_ble_eq_true rfl) (Nat.le_of_ble_eq_true rfl) (Nat.le_refl _) (Nat.le_refl _)) (Nat.le_of_ble_eq_true rfl) ?_
    refine e_if_ne (pc := 30) dX6_pay_30 (t := 36) (by decide) (fun c_30 => ?_) (fun c_30 => ?_)
    · skip
      refine e_iloadn (pc := 36) dX6_pay_36 rfl ?_
      refine e_iconst (v := 0) (pc := 37) dX6_pay_37 (by decide) ?_
      refine e_sipush (v := 9999) (pc := 38) dX6_pay_38 (by decide) ?_
      refine e_csD (pc := 41) (sp_isWithin) dX6_pay_41 kX6_86 rfl rfl (mc_CR_of (Nat.le_of_ble_eq_true rfl) (Nat.le_of_ble_eq_true rfl) (Nat.le_refl _) (Nat.le_refl _)) (Nat.le_of_ble_eq_true rfl) ?_
      refine e_if_ne (pc := 44) dX6_pay_44 (t := 50) (by decide) (fun c_44 => ?_) (fun c_44 => ?_)
      · skip
        refine e_aloadn (pc := 50) dX6_pay_50 rfl ?_
        refine e_get (pc := 51) dX6_pay_51 fX6_55 rfl rfl ?_
        refine e_iload (pc := 54) dX6_pay_54 rfl ?_
        refine e_iload (pc := 56) dX6_pay_56 rfl ?_
        refine e_cvD (pc := 58) (sp_x_of hL3) dX6_pay_58 kX6_235 rfl rfl rfl rfl rfl (mc_CR_of (Nat.le_of_ble_eq_true rfl) (Nat.le_of_ble_eq_true rfl) (Nat.le_refl _) (Nat.le_refl _)) (Nat.le_of_ble_eq_true rfl) ?_
        rw [xof_fo (mc_b1.mp c_30)]
        refine e_iloadn (pc := 61) dX6_pay_61 rfl ?_
        refine e_isub (pc := 62) dX6_pay_62 ?_
        refine e_isw6 (pc := 63) dX6_pay_63 (Nat.le_of_ble_eq_true rfl) rfl ?_
        refine e_iload (pc := 65) dX6_pay_65 rfl ?_
        refine e_if_ge (pc := 67) dX6_pay_67 (t := 73) (by decide) (fun c_67 => ?_) (fun c_67 => ?_)
        · skip
          refine e_iload (pc := 73) dX6_pay_73 rfl ?_
          refine e_if_ne (pc := 75) dX6_pay_75 (t := 95) (by decide) (fun c_75 => ?_) (fun c_75 => ?_)
          · skip
            refine e_aloadn (pc := 95) dX6_pay_95 rfl ?_
            refine e_get (pc := 96) dX6_pay_96 fX6_55 rfl rfl ?_
            refine e_iload (pc := 99) dX6_pay_99 rfl ?_
            refine e_iload (pc := 101) dX6_pay_101 rfl ?_
            refine e_iload (pc := 103) dX6_pay_103 rfl ?_
            refine e_cvU (pc := 105) (sp_x_become hL3) dX6_pay_105 kX6_238 rfl rfl rfl rfl rfl (mc_CR_of (Nat.le_of_ble_eq_true rfl) (Nat.le_of_ble_eq_true rfl) (Nat.le_refl _) (Nat.le_refl _)) (Nat.le_of_ble_eq_true rfl) ?_
            rw [xbe, if_pos (mc_b1.mp c_30)]
            refine e_iload (pc := 108) dX6_pay_108 rfl ?_
            exact e_iret (pc := 110) dX6_pay_110 rfl (Nat.le_refl _) (Nat.le_refl _) (by have e0 : xpyc s a k fg mu = 0 := (by unfold xpyc; rw [if_neg (by rw [mc_b1.mp c_5]; decide), if_neg (by rw [mc_b1.mp c_30]; decide), if_neg (by rw [mc_b1.mp c_44]; decide), if_neg (Int32.not_lt.mpr c_67)]); have h2 := hE e0; rw [h2.1, h2.2]; exact ⟨by unfold xpyv; rw [if_neg c_75], u, c, h, hO.2.2.2.2.2.1, by unfold xpyv; rw [if_neg c_75]⟩)
          · skip
            refine e_aloadn (pc := 78) dX6_pay_78 rfl ?_
            refine e_iloadn (pc := 79) dX6_pay_79 rfl ?_
            refine e_cvX (pc := 80) (sp_x_handOf hO (mc_b1.mp c_5)) dX6_pay_80 kX6_121 rfl rfl rfl rfl rfl (mc_CR_of (Nat.le_of_ble_eq_true rfl) (Nat.le_of_ble_eq_true rfl) (Nat.le_refl _) (Nat.le_refl _)) (Nat.le_of_ble_eq_true rfl) (fun w1 hw1 => ?_)
            obtain ⟨u1, c1, hH, hk1, rfl⟩ := hw1
            refine e_iconst (v := 0) (pc := 83) dX6_pay_83 (by decide) ?_
            refine e_cvX (pc := 84) (sp_x_makes hH) dX6_pay_84 kX6_157 rfl rfl rfl rfl rfl (mc_CR_of (Nat.le_of_ble_eq_true rfl) (Nat.le_of_ble_eq_true rfl) (Nat.le_refl _) (Nat.le_refl _)) (Nat.le_of_ble_eq_true rfl) (fun w1 hw1 => ?_)
            obtain ⟨c2, hH2, hk2, -, rfl⟩ := hw1
            refine e_sipush (v := 9999) (pc := 87) dX6_pay_87 (by decide) ?_
            refine e_min (pc := 90) dX6_pay_90 mX6_242 (mc_JR_of (Nat.le_of_ble_eq_true rfl) (Nat.le_refl _) (Nat.le_refl _) (Nat.le_of_ble_eq_true rfl)) ?_
            rw [wn_big (hmk_in hH.2.2.2.2.2.2.1 (by decide)).1]
            refine e_isw6 (pc := 93) dX6_pay_93 (Nat.le_of_ble_eq_true rfl) rfl ?_
            refine e_aloadn (pc := 95) dX6_pay_95 rfl ?_
            refine e_get (pc := 96) dX6_pay_96 fX6_55 rfl rfl ?_
            refine e_iload (pc := 99) dX6_pay_99 rfl ?_
            refine e_iload (pc := 101) dX6_pay_101 rfl ?_
            refine e_iload (pc := 103) dX6_pay_103 rfl ?_
            refine e_cvU (pc := 105) (sp_x_become hL3) dX6_pay_105 kX6_238 rfl rfl rfl rfl rfl (mc_CR_of (Nat.le_of_ble_eq_true rfl) (Nat.le_of_ble_eq_true rfl) (Nat.le_refl _) (Nat.le_refl _)) (Nat.le_of_ble_eq_true rfl) ?_
            rw [xbe, if_pos (mc_b1.mp c_30)]
            refine e_iload (pc := 108) dX6_pay_108 rfl ?_
            exact e_iret (pc := 110) dX6_pay_110 rfl (Nat.le_refl _) (Nat.le_refl _) (by have e0 : xpyc s a k fg mu = 0 := (by unfold xpyc; rw [if_neg (by rw [mc_b1.mp c_5]; decide), if_neg (by rw [mc_b1.mp c_30]; decide), if_neg (by rw [mc_b1.mp c_44]; decide), if_neg (Int32.not_lt.mpr c_67)]); have h2 := hE e0; rw [h2.1, h2.2]; exact ⟨by unfold xpyv; rw [if_pos c_75], u1, c2, _, hH2.C (hk1.trans hk2) hO.2.2.2.2.2.1, by unfold xpyv; rw [if_pos c_75]⟩)
        · skip
          refine e_bipush (v := -3) (pc := 70) dX6_pay_70 (by decide) ?_
          exact e_iret (pc := 72) dX6_pay_72 rfl (Nat.le_refl _) (Nat.le_refl _) (by have := hD (-3) (by unfold xpyc; rw [if_neg (by rw [mc_b1.mp c_5]; decide), if_neg (by rw [mc_b1.mp c_30]; decide), if_neg (by rw [mc_b1.mp c_44]; decide), if_pos (Int32.not_le.mp c_67)]) (by decide); rw [this.1, this.2]; exact ⟨rfl, u, c, h, hO.2.2.2.2.2.1, rfl⟩)
      · skip
        refine e_bipush (v := -7) (pc := 47) dX6_pay_47 (by decide) ?_
        exact e_iret (pc := 49) dX6_pay_49 rfl (Nat.le_refl _) (Nat.le_refl _) (by have := hD (-7) (by unfold xpyc; rw [if_neg (by rw [mc_b1.mp c_5]; decide), if_neg (by rw [mc_b1.mp c_30]; decide), if_pos (mc_b0.mp c_44)]) (by decide); rw [this.1, this.2]; exact ⟨rfl, u, c, h, hO.2.2.2.2.2.1, rfl⟩)
    · skip
      refine e_bipush (v := -5) (pc := 33) dX6_pay_33 (by decide) ?_
      exact e_iret (pc := 35) dX6_pay_35 rfl (Nat.le_refl _) (Nat.le_refl _) (by have := hD (-5) (by unfold xpyc; rw [if_neg (by rw [mc_b1.mp c_5]; decide), if_pos (mc_b0.mp c_30)]) (by decide); rw [this.1, this.2]; exact ⟨rfl, u, c, h, hO.2.2.2.2.2.1, rfl⟩)
  · skip
    refine e_bipush (v := -6) (pc := 8) dX6_pay_8 (by decide) ?_
    exact e_iret (pc := 10) dX6_pay_10 rfl (Nat.le_refl _) (Nat.le_refl _) (by have := hD (-6) (by unfold xpyc; rw [if_pos (mc_b0.mp c_5)]) (by decide); rw [this.1, this.2]; exact ⟨rfl, u, c, h, hO.2.2.2.2.2.1, rfl⟩)
end Zj_6a_x11
section Zj_6b_x12
/-! ===== apart, alike, slips, lots ===== -/
def xoI (M : Int32 → Int32) (mo v : Int32) : Int32 := if 0 ≤ M v + M (v + mo) - (v + (v + mo)) then M v + M (v + mo) - (v + (v + mo)) else -(M v + M (v + mo) - (v + (v + mo)))
def xapl (M : Int32 → Int32) (mo w : Int32) : Nat → Nat → Int32
  | 0, _ => if w = 0 then -1 else 0
  | f + 1, v => if xoI M mo (nI v) = 0 then xapl M mo w f (v + 1) else if w = 0 then nI v else xoI M mo (nI v)
def xap (s : Nat → Int32) (a : Nat → List Int32) (sg : Nat → List Int32) (k mo w : Int32) : Int32 := if mc_wi k 0 (s 2 - 1) = false then -5 else if (mc_wi mo 0 999 && mc_wi w 0 1) = false then -7 else xapl (xmk s a sg k) mo w 1000 0
theorem lp_x_apart {s u m n : Nat → Int32} {a b d : Nat → List Int32} {q : List (Option Nat)} {h : Nat} {z : mc_W} {c0 : Nat → List Int32} {k mo w V K nu mm ba ye : Int32} {sg : Nat → List Int32} (hc0 : xC c0) :
    ∀ (f i : Nat) (c : Nat → List Int32) (x6 x7 : Option Value), xHd q z h u c K mm nu ba ye sg → xKc c0 c → i + f = 1000 → xapl (hmk K mm nu ba ye sg) mo w f i = V →
      mc_E RX6 cX6_apart 8 (mc_JM (some .int) false 7 0 0 (fun r' w' => r' = some (.int V) ∧ ∃ u1 c1 h1, xC c1 ∧ w' = (WW s a q u1 c1 h1 m b n d z))) 42 [some (.ref 0), some (.int k), some (.int mo), some (.int w), some (.ref 17), some (.int (nI i)), x6, x7] [] (WW s a q u c h m b n d z) 0 0 := by
  intro f
  induction f with
  | zero =>
    intro i c x6 x7 hH hk hi hV
    have e : i = 1000 := by omega
    subst e
    simp only [xapl] at hV
    refine e_iload (pc := 42) dX6_apart_42 rfl ?_
    refine e_sipush (v := 999) (pc := 44) dX6_apart_44 (by decide) ?_
    refine e_icmp_gt (pc := 47) dX6_apart_47 (t := 105) (by decide) (fun _ => ?_) (fun c_47 => absurd (by decide) c_47)
    refine e_iloadn (pc := 105) dX6_apart_105 rfl ?_
    refine e_if_ne (pc := 106) dX6_apart_106 (t := 113) (by decide) (fun c_106 => ?_) (fun c_106 => ?_)
    · skip
      refine e_iconst (v := 0) (pc := 113) dX6_apart_113 (by decide) ?_
      exact e_iret (pc := 114) dX6_apart_114 rfl (Nat.le_refl _) (Nat.le_refl _) ⟨by rw [← hV, if_neg c_106], u, c, h, hH.C hk hc0, rfl⟩
    · skip
      refine e_iconst (v := -1) (pc := 109) dX6_apart_109 (by decide) ?_
      refine e_goto (pc := 110) dX6_apart_110 (t := 114) (by decide) ?_
      exact e_iret (pc := 114) dX6_apart_114 rfl (Nat.le_refl _) (Nat.le_refl _) ⟨by rw [← hV, if_pos c_106], u, c, h, hH.C hk hc0, rfl⟩
  | succ f ih =>
    intro i c x6 x7 hH hk hi hV
    simp only [xapl] at hV
    have hi2 : i < 1000 := by omega
    refine e_iload (pc := 42) dX6_apart_42 rfl ?_
    refine e_sipush (v := 999) (pc := 44) dX6_apart_44 (by decide) ?_
    refine e_icmp_gt (pc := 47) dX6_apart_47 (t := 105) (by decide) (fun c_47 => absurd c_47 (fun q => absurd (nI_le (a := i) (b := 999) (by omega) (by decide)) (Int32.not_le.mpr q))) (fun _ => ?_)
    refine e_iload (pc := 50) dX6_apart_50 rfl ?_
    refine e_iloadn (pc := 52) dX6_apart_52 rfl ?_
    refine e_iadd (pc := 53) dX6_apart_53 ?_
    refine e_isw6 (pc := 54) dX6_apart_54 (Nat.le_of_ble_eq_true rfl) rfl ?_
    refine e_aload (pc := 56) dX6_apart_56 rfl ?_
    refine e_iload (pc := 58) dX6_apart_58 rfl ?_
    refine e_cvX (pc := 60) (sp_x_makes hH) dX6_apart_60 kX6_157 rfl rfl rfl rfl rfl (mc_CR_of (Nat.le_of_ble_eq_true rfl) (Nat.le_of_ble_eq_true rfl) (Nat.le_refl _) (Nat.le_refl _)) (Nat.le_of_ble_eq_true rfl) (fun w1 hw1 => ?_)
    obtain ⟨c1, hH1, hk1, -, rfl⟩ := hw1
    refine e_aload (pc := 63) dX6_apart_63 rfl ?_
    refine e_iload (pc := 65) dX6_apart_65 rfl ?_
    refine e_cvX (pc := 67) (sp_x_makes hH1) dX6_apart_67 kX6_157 rfl rfl rfl rfl rfl (mc_CR_of (Nat.le_of_ble_eq_true rfl) (Nat.le_of_ble_eq_true rfl) (Nat.le_refl _) (Nat.le_refl _)) (Nat.le_of_ble_eq_true rfl) (fun w1 hw1 => ?_)
    obtain ⟨c2, hH2, hk2, -, rfl⟩ := hw1
    refine e_iadd (pc := 70) dX6_apart_70 ?_
    refine e_iload (pc := 71) dX6_apart_71 rfl ?_
    refine e_iload (pc := 73) dX6_apart_73 rfl ?_
    refine e_iadd (pc := 75) dX6_apart_75 ?_
    refine e_isub (pc := 76) dX6_apart_76 ?_
    refine e_abs (pc := 77) dX6_apart_77 mX6_163 (mc_JR_of (Nat.le_of_ble_eq_true rfl) (Nat.le_refl _) (Nat.le_refl _) (Nat.le_of_ble_eq_true rfl)) ?_
    refine e_top (y := xoI (hmk K mm nu ba ye sg) mo (nI i)) rfl ?_
    refine e_isw7 (pc := 80) dX6_apart_80 (Nat.le_of_ble_eq_true rfl) rfl ?_
    refine e_iload (pc := 82) dX6_apart_82 rfl ?_
    refine e_if_eq (pc := 84) dX6_apart_84 (t := 99) (by decide) (fun c_84 => ?_) (fun c_84 => ?_)
    · skip
      refine e_incC5 (pc := 99) dX6_apart_99 (nI_1 i) (Nat.le_of_ble_eq_true rfl) rfl ?_
      refine e_goto (pc := 102) dX6_apart_102 (t := 42) (by decide) ?_
      exact ih (i + 1) c2 _ _ hH2 ((hk.trans hk1).trans hk2) (by omega) (by rw [← hV, if_pos c_84])
    · skip
      refine e_iloadn (pc := 87) dX6_apart_87 rfl ?_
      refine e_if_ne (pc := 88) dX6_apart_88 (t := 96) (by decide) (fun c_88 => ?_) (fun c_88 => ?_)
      · skip
        refine e_iload (pc := 96) dX6_apart_96 rfl ?_
        exact e_iret (pc := 98) dX6_apart_98 rfl (Nat.le_refl _) (Nat.le_refl _) ⟨by rw [← hV, if_neg c_84, if_neg c_88], u, c2, h, hH2.C ((hk.trans hk1).trans hk2) hc0, rfl⟩
      · skip
        refine e_iload (pc := 91) dX6_apart_91 rfl ?_
        refine e_goto (pc := 93) dX6_apart_93 (t := 98) (by decide) ?_
        exact e_iret (pc := 98) dX6_apart_98 rfl (Nat.le_refl _) (Nat.le_refl _) ⟨by rw [← hV, if_neg c_84, if_pos c_88], u, c2, h, hH2.C ((hk.trans hk1).trans hk2) hc0, rfl⟩
theorem sp_x_apart {s u m n : Nat → Int32} {a c b d : Nat → List Int32} {q : List (Option Nat)} {h : Nat} {z : mc_W} {T : Nat} {sg : Nat → Nat → List Int32} {k mo w : Int32} (hO : xOK s a q c z T sg) : mc_T yX6_apart cX6_apart 8 (some .int) 7 [.ref 0, .int k, .int mo, .int w] (WW s a q u c h m b n d z) (some (.int (xap s a (sg (tl s)) k mo w))) (fun w1 => ∃ u1 c1 h1, xC c1 ∧ w1 = (WW s a q u1 c1 h1 m b n d z)) := by
  refine mc_start (own := RX6) (ini := false) rfl (by decide +kernel) (fun h => by cases h) (Nat.le_of_ble_eq_true rfl) ?_
  show mc_E _ _ _ _ _ [some (.ref 0), some (.int k), some (.int mo), some (.int w), none, none, none, none] [] _ _ _
  refine e_aloadn (pc := 0) dX6_apart_0 rfl ?_
  refine e_iloadn (pc := 1) dX6_apart_1 rfl ?_
  refine e_cvD (pc := 2) (sp_x_isClerk hO.2.1) dX6_apart_2 kX6_115 rfl rfl rfl rfl rfl (mc_CR_of (Nat.le_of_ble_eq_true rfl) (Nat.le_of_ble_eq_true rfl) (Nat.le_refl _) (Nat.le_refl _)) (Nat.le_of_ble_eq_true rfl) ?_
  refine e_if_ne (pc := 5) dX6_apart_5 (t := 11) (by decide) (fun c_5 => ?_) (fun c_5 => ?_)
  · skip
    refine e_iloadn (pc := 11) dX6_apart_11 rfl ?_
    refine e_iconst (v := 0) (pc := 12) dX6_apart_12 (by decide) ?_
    refine e_sipush (v := 999) (pc := 13) dX6_apart_13 (by decide) ?_
    refine e_csD (pc := 16) (sp_isWithin) dX6_apart_16 kX6_86 rfl rfl (mc_CR_of (Nat.le_of_ble_eq_true rfl) (Nat.le_of_ble_eq_true rfl) (Nat.le_refl _) (Nat.le_refl _)) (Nat.le_of_ble_eq_true rfl) ?_
    refine e_if_eq (pc := 19) dX6_apart_19 (t := 29) (by decide) (fun c_19 => ?_) (fun c_19 => ?_)
    · skip
      refine e_bipush (v := -7) (pc := 29) dX6_apart_29 (by decide) ?_
      exact e_iret (pc := 31) dX6_apart_31 rfl (Nat.le_refl _) (Nat.le_refl _) ⟨by unfold xap; rw [if_neg (by rw [mc_b1.mp c_5]; decide), if_pos (by simp only [mc_b0, mc_b1, Bool.not_eq_false] at *; simp_all)], u, c, h, hO.2.2.2.2.2.1, rfl⟩
    · skip
      refine e_iloadn (pc := 22) dX6_apart_22 rfl ?_
      refine e_csD (pc := 23) (sp_isTwofold) dX6_apart_23 kX6_160 rfl rfl (mc_CR_of (Nat.le_of_ble_eq_true rfl) (Nat.le_of_ble_eq_true rfl) (Nat.le_refl _) (Nat.le_refl _)) (Nat.le_of_ble_eq_true rfl) ?_
      refine e_if_ne (pc := 26) dX6_apart_26 (t := 32) (by decide) (fun c_26 => ?_) (fun c_26 => ?_)
      · skip
        refine e_aloadn (pc := 32) dX6_apart_32 rfl ?_
        refine e_iloadn (pc := 33) dX6_apart_33 rfl ?_
        refine e_cvX (pc := 34) (sp_x_handOf hO (mc_b1.mp c_5)) dX6_apart_34 kX6_121 rfl rfl rfl rfl rfl (mc_CR_of (Nat.le_of_ble_eq_true rfl) (Nat.le_of_ble_eq_true rfl) (Nat.le_refl _) (Nat.le_refl _)) (Nat.le_of_ble_eq_true rfl) (fun w1 hw1 => ?_)
        obtain ⟨u1, c1, hH, hk1, rfl⟩ := hw1
        refine e_asw4 (pc := 37) dX6_apart_37 (Nat.le_of_ble_eq_true rfl) rfl ?_
        refine e_iconst (v := 0) (pc := 39) dX6_apart_39 (by decide) ?_
        refine e_isw5 (pc := 40) dX6_apart_40 (Nat.le_of_ble_eq_true rfl) rfl ?_
        have e : xap s a (sg (tl s)) k mo w = xapl (xmk s a (sg (tl s)) k) mo w 1000 0 := by unfold xap; rw [if_neg (by rw [mc_b1.mp c_5]; decide), if_neg (by simp only [mc_b0, mc_b1, Bool.not_eq_false] at *; simp_all)]
        rw [e]
        exact lp_x_apart hO.2.2.2.2.2.1 1000 0 c1 _ _ hH hk1 (by omega) rfl
      · skip
        refine e_bipush (v := -7) (pc := 29) dX6_apart_29 (by decide) ?_
        exact e_iret (pc := 31) dX6_apart_31 rfl (Nat.le_refl _) (Nat.le_refl _) ⟨by unfold xap; rw [if_neg (by rw [mc_b1.mp c_5]; decide), if_pos (by simp only [mc_b0, mc_b1, Bool.not_eq_false] at *; simp_all)], u, c, h, hO.2.2.2.2.2.1, rfl⟩
  · skip
    refine e_bipush (v := -5) (pc := 8) dX6_apart_8 (by decide) ?_
    exact e_iret (pc := 10) dX6_apart_10 rfl (Nat.le_refl _) (Nat.le_refl _) ⟨by unfold xap; rw [if_pos (mc_b0.mp c_5)], u, c, h, hO.2.2.2.2.2.1, rfl⟩
theorem hl1 (l : List Int32) (h : l.length ≤ 17) (h0 : ¬ nI l.length = 0) : nI l.length - 1 = nI (l.length - 1) ∧ l.length - 1 < l.length := by
  have : ¬ l.length = 0 := fun q => h0 (by rw [q]; rfl)
  exact ⟨nI_sub1 (by omega), by omega⟩
theorem hl0 (l : List Int32) (h : l.length ≤ 17) (h0 : nI l.length = 0) : l.length = 0 := (nI_eq (a := l.length) (b := 0) (by omega) (by decide)).mp h0
theorem sp_x_lastF {s u m n : Nat → Int32} {a c b d : Nat → List Int32} {q : List (Option Nat)} {h : Nat} {z : mc_W} {K mo nu ba ye : Int32} {sg : Nat → List Int32} {y : Int32} (hH : xHd q z h u c K mo nu ba ye sg) (hy : -99999 ≤ y.toInt ∧ y.toInt ≤ 99999) : mc_T yX6_lastFigureOf cX6_lastFigureOf 2 (some .int) 7 [.ref 17, .int y] (WW s a q u c h m b n d z) (some (.int (ylst (hwr K mo nu ba ye sg (yab y))))) (fun w1 => ∃ u1 c1, xHd q z h u1 c1 K mo nu ba ye sg ∧ xKc c c1 ∧ w1 = (WW s a q u1 c1 h m b n d z)) := by
  refine mc_start (own := RX6) (ini := false) rfl (by decide +kernel) (fun h => by cases h) (Nat.le_of_ble_eq_true rfl) ?_
  show mc_E _ _ _ _ _ [some (.ref 17), some (.int y)] [] _ _ _
  have ey : (if 0 ≤ y then y else -y) = yab y := by
    unfold yab
    by_cases q : y < 0
    · rw [if_pos q, if_neg (Int32.not_le.mpr q)]
    · rw [if_neg q, if_pos (Int32.not_lt.mp q)]
  have by0 : 0 ≤ (yab y).toInt ∧ (yab y).toInt ≤ 99999 := by
    unfold yab
    by_cases q : y < 0
    · rw [if_pos q]
      have ng : (-y : Int32).toInt = -y.toInt := by rw [Int32.toInt_neg, Int.bmod_eq_of_le] <;> omega
      rw [Int32.lt_iff_toInt_lt, i0] at q
      rw [ng]; omega
    · rw [if_neg q]; rw [Int32.lt_iff_toInt_lt, i0] at q; omega
  refine e_aloadn (pc := 0) dX6_lastFigureOf_0 rfl ?_
  refine e_iloadn (pc := 1) dX6_lastFigureOf_1 rfl ?_
  refine e_abs (pc := 2) dX6_lastFigureOf_2 mX6_163 (mc_JR_of (Nat.le_of_ble_eq_true rfl) (Nat.le_refl _) (Nat.le_refl _) (Nat.le_of_ble_eq_true rfl)) ?_
  rw [ey]
  refine e_cvY (pc := 5) (sp_x_write hH (hH.mk by0)) dX6_lastFigureOf_5 kX6_135 rfl rfl rfl rfl rfl (mc_CR_of (Nat.le_of_ble_eq_true rfl) (Nat.le_of_ble_eq_true rfl) (Nat.le_refl _) (Nat.le_refl _)) (Nat.le_of_ble_eq_true rfl) (fun w1 hw1 => ?_)
  obtain ⟨u2, c2, hH2, hk2, hF, rfl⟩ := hw1
  refine e_aloadn (pc := 8) dX6_lastFigureOf_8 rfl ?_
  refine e_cvD (pc := 9) (sp_x_many) dX6_lastFigureOf_9 kX6_138 rfl rfl rfl rfl rfl (mc_CR_of (Nat.le_of_ble_eq_true rfl) (Nat.le_of_ble_eq_true rfl) (Nat.le_refl _) (Nat.le_refl _)) (Nat.le_of_ble_eq_true rfl) ?_
  rw [hF.1]
  refine e_if_ne (pc := 12) dX6_lastFigureOf_12 (t := 19) (by decide) (fun c_12 => ?_) (fun c_12 => ?_)
  · skip
    refine e_aloadn (pc := 19) dX6_lastFigureOf_19 rfl ?_
    refine e_aloadn (pc := 20) dX6_lastFigureOf_20 rfl ?_
    refine e_cvD (pc := 21) (sp_x_many) dX6_lastFigureOf_21 kX6_138 rfl rfl rfl rfl rfl (mc_CR_of (Nat.le_of_ble_eq_true rfl) (Nat.le_of_ble_eq_true rfl) (Nat.le_refl _) (Nat.le_refl _)) (Nat.le_of_ble_eq_true rfl) ?_
    rw [hF.1]
    refine e_iconst (v := 1) (pc := 24) dX6_lastFigureOf_24 (by decide) ?_
    refine e_isub (pc := 25) dX6_lastFigureOf_25 ?_
    refine e_cvD (pc := 26) (sp_x_written (j := (hwr K mo nu ba ye sg (yab y)).length - 1) hF (hl1 _ hF.2.2.2 c_12).1 (hl1 _ hF.2.2.2 c_12).2) dX6_lastFigureOf_26 kX6_141 rfl rfl rfl rfl rfl (mc_CR_of (Nat.le_of_ble_eq_true rfl) (Nat.le_of_ble_eq_true rfl) (Nat.le_refl _) (Nat.le_refl _)) (Nat.le_of_ble_eq_true rfl) ?_
    exact e_iret (pc := 29) dX6_lastFigureOf_29 rfl (Nat.le_refl _) (Nat.le_refl _) ⟨rfl, u2, c2, hH2, hk2, rfl⟩
  · skip
    refine e_iconst (v := 0) (pc := 15) dX6_lastFigureOf_15 (by decide) ?_
    refine e_goto (pc := 16) dX6_lastFigureOf_16 (t := 29) (by decide) ?_
    exact e_iret (pc := 29) dX6_lastFigureOf_29 rfl (Nat.le_refl _) (Nat.le_refl _) ⟨by have h0 := hl0 _ hF.2.2.2 c_12; unfold ylst; rw [List.getD_eq_getElem?_getD, List.getElem?_eq_none (by omega)]; rfl, u2, c2, hH2, hk2, rfl⟩
theorem yr_999 {Y : Int32} {i : Nat} (hy : yy_yr Y = true) (hi : 1 ≤ i ∧ i ≤ 200) : (-998 ≤ (yy_ay (yy_az Y + nI i)).toInt ∧ (yy_ay (yy_az Y + nI i)).toInt ≤ 1200) ∧ (yy_yr (yy_ay (yy_az Y + nI i)) = true ↔ yy_ay (yy_az Y + nI i) ≤ 999) := by
  have f1 := yr_rng hy
  have ti := nI_toInt (n := i) (by omega)
  have f2 : -998 ≤ (yy_az Y).toInt ∧ (yy_az Y).toInt ≤ 999 := by
    unfold yy_az
    by_cases q : Y < 0
    · rw [if_pos q, i32_add (by omega) (by decide), i1]
      rw [Int32.lt_iff_toInt_lt, i0] at q; omega
    · rw [if_neg q]; rw [Int32.lt_iff_toInt_lt, i0] at q; omega
  have e : (yy_az Y + nI i).toInt = (yy_az Y).toInt + i := by rw [i32_add (by omega) (by omega), ti]
  have g : (yy_ay (yy_az Y + nI i)).toInt = if (yy_az Y).toInt + i < 1 then (yy_az Y).toInt + i - 1 else (yy_az Y).toInt + i := by
    unfold yy_ay
    by_cases q : yy_az Y + nI i < 1
    · have q2 := q
      rw [Int32.lt_iff_toInt_lt, e, i1] at q2
      rw [if_pos q, if_pos q2, i32_sub (by omega) (by decide), e, i1]
    · have q2 := q
      rw [Int32.lt_iff_toInt_lt, e, i1] at q2
      rw [if_neg q, if_neg q2, e]
  have nz : ¬ (yy_ay (yy_az Y + nI i)).toInt = 0 := by rw [g]; split <;> omega
  have b1 : -998 ≤ (yy_ay (yy_az Y + nI i)).toInt ∧ (yy_ay (yy_az Y + nI i)).toInt ≤ 1200 := by rw [g]; split <;> omega
  refine ⟨b1, ?_⟩
  unfold yy_yr
  rw [Bool.and_eq_true, mc_wi_iff, Int32.le_iff_toInt_le, show (-999 : Int32).toInt = -999 from rfl, show (999 : Int32).toInt = 999 from rfl]
  refine ⟨fun q => q.1.2, fun q => ⟨⟨by omega, q⟩, ?_⟩⟩
  rw [bne_iff_ne]
  exact fun r => nz (by rw [r]; rfl)
def xlf (s : Nat → Int32) (a : Nat → List Int32) (sg : Nat → List Int32) (k y : Int32) : Int32 := ylst (xwr s a sg k (yab y))
def xaY (s : Nat → Int32) (i : Nat) : Int32 := yy_ay (yy_az (s 1) + nI i)
def xali (s : Nat → Int32) (a : Nat → List Int32) (sg : Nat → List Int32) (k yrs : Int32) : Int32 × Int32 := yalf (xaY s) (fun i => xlf s a sg k (xaY s i)) (xlf s a sg k (s 1)) (yrs.toNatClampNeg - 1) 1 0 (-100001)
def xalike (s : Nat → Int32) (a : Nat → List Int32) (sg : Nat → List Int32) (k yrs w : Int32) : Int32 :=
  if mc_wi k 0 (s 2 - 1) = false then -100005 else if (mc_wi yrs 1 200 && mc_wi w 0 1) = false then -100007
  else if w = 0 then (xali s a sg k yrs).1 else (xali s a sg k yrs).2
theorem lp_x_alike {s m n : Nat → Int32} {a b d : Nat → List Int32} {q : List (Option Nat)} {h : Nat} {z : mc_W} {c0 : Nat → List Int32} {k w la K nu mm ba ye : Int32} {sg : Nat → List Int32} {N : Nat} {V : Int32 × Int32} (hc0 : xC c0) (hy : yy_yr (s 1) = true) (hN : N ≤ 200) :
    ∀ (f i : Nat) (cn fi : Int32) (u : Nat → Int32) (c : Nat → List Int32) (x9 : Option Value), xHd q z h u c K mm nu ba ye sg → xKc c0 c → 1 ≤ i → i + f = N → yalf (xaY s) (fun i => ylst (hwr K mm nu ba ye sg (yab (xaY s i)))) la f i cn fi = V →
      mc_E RX6 cX6_alike 10 (mc_JM (some .int) false 8 0 0 (fun r' w' => r' = some (.int (if w = 0 then V.1 else V.2)) ∧ ∃ u1 c1 h1, xC c1 ∧ w' = (WW s a q u1 c1 h1 m b n d z))) 63 [some (.ref 0), some (.int k), some (.int (nI N)), some (.int w), some (.ref 17), some (.int la), some (.int fi), some (.int cn), some (.int (nI i)), x9] [] (WW s a q u c h m b n d z) 0 0 := by
  intro f
  induction f with
  | zero =>
    intro i cn fi u c x9 hH hk h1 hi hV
    have e : i = N := by omega
    subst e
    simp only [yalf] at hV
    subst hV
    refine e_iload (pc := 63) dX6_alike_63 rfl ?_
    refine e_iloadn (pc := 65) dX6_alike_65 rfl ?_
    refine e_icmp_ge (pc := 66) dX6_alike_66 (t := 122) (by decide) (fun _ => ?_) (fun c_66 => absurd (nI_le (Nat.le_refl _) (by omega)) c_66)
    refine e_iloadn (pc := 122) dX6_alike_122 rfl ?_
    refine e_if_ne (pc := 123) dX6_alike_123 (t := 131) (by decide) (fun c_123 => ?_) (fun c_123 => ?_)
    · skip
      refine e_iload (pc := 131) dX6_alike_131 rfl ?_
      exact e_iret (pc := 133) dX6_alike_133 rfl (Nat.le_refl _) (Nat.le_refl _) ⟨by rw [if_neg c_123], u, c, h, hH.C hk hc0, rfl⟩
    · skip
      refine e_iload (pc := 126) dX6_alike_126 rfl ?_
      refine e_goto (pc := 128) dX6_alike_128 (t := 133) (by decide) ?_
      exact e_iret (pc := 133) dX6_alike_133 rfl (Nat.le_refl _) (Nat.le_refl _) ⟨by rw [if_pos c_123], u, c, h, hH.C hk hc0, rfl⟩
  | succ f ih =>
    intro i cn fi u c x9 hH hk h1 hi hV
    simp only [yalf] at hV
    have hi2 : i < N := by omega
    have hyr : (-998 ≤ (xaY s i).toInt ∧ (xaY s i).toInt ≤ 1200) ∧ (yy_yr (xaY s i) = true ↔ xaY s i ≤ 999) := yr_999 hy (i := i) ⟨h1, by omega⟩
    have ti := nI_toInt (n := i) (by omega)
    have eY : xx_yp (xx_py (s 1) + nI i) = xaY s i := xx_behind hy (by omega)
    refine e_iload (pc := 63) dX6_alike_63 rfl ?_
    refine e_iloadn (pc := 65) dX6_alike_65 rfl ?_
    refine e_icmp_ge (pc := 66) dX6_alike_66 (t := 122) (by decide) (fun c_66 => absurd c_66 (nI_ge hi2 (by omega))) (fun _ => ?_)
    refine e_aloadn (pc := 69) dX6_alike_69 rfl ?_
    refine e_get (pc := 70) dX6_alike_70 fX6_13 rfl rfl ?_
    refine e_csD (pc := 73) (sp_placeOfYear) dX6_alike_73 kX6_262 rfl rfl (mc_CR_of (Nat.le_of_ble_eq_true rfl) (Nat.le_of_ble_eq_true rfl) (Nat.le_refl _) (Nat.le_refl _)) (Nat.le_of_ble_eq_true rfl) ?_
    refine e_iload (pc := 76) dX6_alike_76 rfl ?_
    refine e_iadd (pc := 78) dX6_alike_78 ?_
    refine e_csD (pc := 79) (sp_yearAtPlace) dX6_alike_79 kX6_265 rfl rfl (mc_CR_of (Nat.le_of_ble_eq_true rfl) (Nat.le_of_ble_eq_true rfl) (Nat.le_refl _) (Nat.le_refl _)) (Nat.le_of_ble_eq_true rfl) ?_
    rw [eY]
    refine e_isw9 (pc := 82) dX6_alike_82 (Nat.le_of_ble_eq_true rfl) rfl ?_
    refine e_iload (pc := 84) dX6_alike_84 rfl ?_
    refine e_csD (pc := 86) (sp_isYear) dX6_alike_86 kX6_90 rfl rfl (mc_CR_of (Nat.le_of_ble_eq_true rfl) (Nat.le_of_ble_eq_true rfl) (Nat.le_refl _) (Nat.le_refl _)) (Nat.le_of_ble_eq_true rfl) ?_
    refine e_if_eq (pc := 89) dX6_alike_89 (t := 116) (by decide) (fun c_89 => ?_) (fun c_89 => ?_)
    · skip
      refine e_incC8 (pc := 116) dX6_alike_116 (nI_1 i) (Nat.le_of_ble_eq_true rfl) rfl ?_
      refine e_goto (pc := 119) dX6_alike_119 (t := 63) (by decide) ?_
      exact ih (i + 1) _ _ _ _ _ hH hk (by omega) (by omega) (by rw [← hV, if_neg (fun q => by rw [hyr.2.mpr q.1] at c_89; exact absurd c_89 (by decide)), Int32.add_zero])
    · skip
      refine e_aload (pc := 92) dX6_alike_92 rfl ?_
      refine e_iload (pc := 94) dX6_alike_94 rfl ?_
      refine e_csX (pc := 96) (sp_x_lastF (y := xaY s i) hH (by omega)) dX6_alike_96 kX6_271 rfl rfl (mc_CR_of (Nat.le_of_ble_eq_true rfl) (Nat.le_of_ble_eq_true rfl) (Nat.le_refl _) (Nat.le_refl _)) (Nat.le_of_ble_eq_true rfl) (fun w1 hw1 => ?_)
      obtain ⟨u1, c1, hH1, hk1, rfl⟩ := hw1
      refine e_iload (pc := 99) dX6_alike_99 rfl ?_
      refine e_icmp_ne (pc := 101) dX6_alike_101 (t := 116) (by decide) (fun c_101 => ?_) (fun c_101 => ?_)
      · skip
        refine e_incC8 (pc := 116) dX6_alike_116 (nI_1 i) (Nat.le_of_ble_eq_true rfl) rfl ?_
        refine e_goto (pc := 119) dX6_alike_119 (t := 63) (by decide) ?_
        exact ih (i + 1) _ _ _ _ _ hH1 (hk.trans hk1) (by omega) (by omega) (by rw [← hV, if_neg (fun q => c_101 q.2), Int32.add_zero])
      · skip
        refine e_iload (pc := 104) dX6_alike_104 rfl ?_
        refine e_if_ne (pc := 106) dX6_alike_106 (t := 113) (by decide) (fun c_106 => ?_) (fun c_106 => ?_)
        · skip
          refine e_incC7 (pc := 113) dX6_alike_113 (show cn + Int32.ofInt 1 = cn + 1 from rfl) (Nat.le_of_ble_eq_true rfl) rfl ?_
          refine e_incC8 (pc := 116) dX6_alike_116 (nI_1 i) (Nat.le_of_ble_eq_true rfl) rfl ?_
          refine e_goto (pc := 119) dX6_alike_119 (t := 63) (by decide) ?_
          exact ih (i + 1) _ _ _ _ _ hH1 (hk.trans hk1) (by omega) (by omega) (by rw [← hV, if_pos ⟨hyr.2.mp (mc_b1.mp c_89), c_101⟩, if_neg c_106])
        · skip
          refine e_iload (pc := 109) dX6_alike_109 rfl ?_
          refine e_isw6 (pc := 111) dX6_alike_111 (Nat.le_of_ble_eq_true rfl) rfl ?_
          refine e_incC7 (pc := 113) dX6_alike_113 (show cn + Int32.ofInt 1 = cn + 1 from rfl) (Nat.le_of_ble_eq_true rfl) rfl ?_
          refine e_incC8 (pc := 116) dX6_alike_116 (nI_1 i) (Nat.le_of_ble_eq_true rfl) rfl ?_
          refine e_goto (pc := 119) dX6_alike_119 (t := 63) (by decide) ?_
          exact ih (i + 1) _ _ _ _ _ hH1 (hk.trans hk1) (by omega) (by omega) (by rw [← hV, if_pos ⟨hyr.2.mp (mc_b1.mp c_89), c_101⟩, if_pos c_106])
theorem sp_x_alike {s u m n : Nat → Int32} {a c b d : Nat → List Int32} {q : List (Option Nat)} {h : Nat} {z : mc_W} {T : Nat} {sg : Nat → Nat → List Int32} {k yrs w : Int32} (hy : yy_yr (s 1) = true) (hO : xOK s a q c z T sg) : mc_T yX6_alike cX6_alike 10 (some .int) 8 [.ref 0, .int k, .int yrs, .int w] (WW s a q u c h m b n d z) (some (.int (xalike s a (sg (tl s)) k yrs w))) (fun w1 => ∃ u1 c1 h1, xC c1 ∧ w1 = (WW s a q u1 c1 h1 m b n d z)) := by
  refine mc_start (own := RX6) (ini := false) rfl (by decide +kernel) (fun h => by cases h) (Nat.le_of_ble_eq_true rfl) ?_
  show mc_E _ _ _ _ _ [some (.ref 0), some (.int k), some (.int yrs), some (.int w), none, none, none, none, none, none] [] _ _ _
  refine e_aloadn (pc := 0) dX6_alike_0 rfl ?_
  refine e_iloadn (pc := 1) dX6_alike_1 rfl ?_
  refine e_cvD (pc := 2) (sp_x_isClerk hO.2.1) dX6_alike_2 kX6_115 rfl rfl rfl rfl rfl (mc_CR_of (Nat.le_of_ble_eq_true rfl) (Nat.le_of_ble_eq_true rfl) (Nat.le_refl _) (Nat.le_refl _)) (Nat.le_of_ble_eq_true rfl) ?_
  refine e_if_ne (pc := 5) dX6_alike_5 (t := 12) (by decide) (fun c_5 => ?_) (fun c_5 => ?_)
  · skip
    refine e_iloadn (pc := 12) dX6_alike_12 rfl ?_
    refine e_iconst (v := 1) (pc := 13) dX6_alike_13 (by decide) ?_
    refine e_sipush (v := 200) (pc := 14) dX6_alike_14 (by decide) ?_
    refine e_csD (pc := 17) (sp_isWithin) dX6_alike_17 kX6_86 rfl rfl (mc_CR_of (Nat.le_of_ble_eq_true rfl) (Nat.le_of_ble_eq_true rfl) (Nat.le_refl _) (Nat.le_refl _)) (Nat.le_of_ble_eq_true rfl) ?_
    refine e_if_eq (pc := 20) dX6_alike_20 (t := 30) (by decide) (fun c_20 => ?_) (fun c_20 => ?_)
    · skip
      refine e_ldcw (pc := 30) dX6_alike_30 qX6_270 ?_
      exact e_iret (pc := 33) dX6_alike_33 rfl (Nat.le_refl _) (Nat.le_refl _) ⟨by unfold xalike; rw [if_neg (by rw [mc_b1.mp c_5]; decide), if_pos (by simp only [mc_b0, mc_b1, Bool.not_eq_false] at *; simp_all)], u, c, h, hO.2.2.2.2.2.1, rfl⟩
    · skip
      refine e_iloadn (pc := 23) dX6_alike_23 rfl ?_
      refine e_csD (pc := 24) (sp_isTwofold) dX6_alike_24 kX6_160 rfl rfl (mc_CR_of (Nat.le_of_ble_eq_true rfl) (Nat.le_of_ble_eq_true rfl) (Nat.le_refl _) (Nat.le_refl _)) (Nat.le_of_ble_eq_true rfl) ?_
      refine e_if_ne (pc := 27) dX6_alike_27 (t := 34) (by decide) (fun c_27 => ?_) (fun c_27 => ?_)
      · skip
        refine e_aloadn (pc := 34) dX6_alike_34 rfl ?_
        refine e_iloadn (pc := 35) dX6_alike_35 rfl ?_
        refine e_cvX (pc := 36) (sp_x_handOf hO (mc_b1.mp c_5)) dX6_alike_36 kX6_121 rfl rfl rfl rfl rfl (mc_CR_of (Nat.le_of_ble_eq_true rfl) (Nat.le_of_ble_eq_true rfl) (Nat.le_refl _) (Nat.le_refl _)) (Nat.le_of_ble_eq_true rfl) (fun w1 hw1 => ?_)
        obtain ⟨u1, c1, hH, hk1, rfl⟩ := hw1
        refine e_asw4 (pc := 39) dX6_alike_39 (Nat.le_of_ble_eq_true rfl) rfl ?_
        refine e_aload (pc := 41) dX6_alike_41 rfl ?_
        refine e_aloadn (pc := 43) dX6_alike_43 rfl ?_
        refine e_get (pc := 44) dX6_alike_44 fX6_13 rfl rfl ?_
        refine e_csX (pc := 47) (sp_x_lastF (y := s 1) hH (by have := yr_rng hy; omega)) dX6_alike_47 kX6_271 rfl rfl (mc_CR_of (Nat.le_of_ble_eq_true rfl) (Nat.le_of_ble_eq_true rfl) (Nat.le_refl _) (Nat.le_refl _)) (Nat.le_of_ble_eq_true rfl) (fun w1 hw1 => ?_)
        obtain ⟨u2, c2, hH2, hk2, rfl⟩ := hw1
        refine e_isw5 (pc := 50) dX6_alike_50 (Nat.le_of_ble_eq_true rfl) rfl ?_
        refine e_ldcw (pc := 52) dX6_alike_52 qX6_268 ?_
        refine e_isw6 (pc := 55) dX6_alike_55 (Nat.le_of_ble_eq_true rfl) rfl ?_
        refine e_iconst (v := 0) (pc := 57) dX6_alike_57 (by decide) ?_
        refine e_isw7 (pc := 58) dX6_alike_58 (Nat.le_of_ble_eq_true rfl) rfl ?_
        refine e_iconst (v := 1) (pc := 60) dX6_alike_60 (by decide) ?_
        refine e_isw8 (pc := 61) dX6_alike_61 (Nat.le_of_ble_eq_true rfl) rfl ?_
        have e : xalike s a (sg (tl s)) k yrs w = if w = 0 then (xali s a (sg (tl s)) k yrs).1 else (xali s a (sg (tl s)) k yrs).2 := by unfold xalike; rw [if_neg (by rw [mc_b1.mp c_5]; decide), if_neg (by simp only [mc_b0, mc_b1, Bool.not_eq_false] at *; simp_all)]
        have hyrs := mc_wi_iff.mp (mc_b1.mp c_20)
        rw [i1, show (200 : Int32).toInt = 200 from rfl] at hyrs
        have ty := tnc (x := yrs) (by omega)
        rw [e]
        obtain ⟨N, hN⟩ : ∃ N, yrs.toNatClampNeg = N := ⟨_, rfl⟩
        have ey : yrs = nI N := by rw [← hN]; exact nI_back (by omega)
        subst ey
        exact lp_x_alike hO.2.2.2.2.2.1 hy (by omega) (N - 1) 1 0 (-100001) u2 c2 _ hH2 (hk1.trans hk2) (by omega) (by omega) (by unfold xali; rw [hN]; rfl)
      · skip
        refine e_ldcw (pc := 30) dX6_alike_30 qX6_270 ?_
        exact e_iret (pc := 33) dX6_alike_33 rfl (Nat.le_refl _) (Nat.le_refl _) ⟨by unfold xalike; rw [if_neg (by rw [mc_b1.mp c_5]; decide), if_pos (by simp only [mc_b0, mc_b1, Bool.not_eq_false] at *; simp_all)], u, c, h, hO.2.2.2.2.2.1, rfl⟩
  · skip
    refine e_ldcw (pc := 8) dX6_alike_8 qX6_269 ?_
    exact e_iret (pc := 11) dX6_alike_11 rfl (Nat.le_refl _) (Nat.le_refl _) ⟨by unfold xalike; rw [if_pos (mc_b0.mp c_5)], u, c, h, hO.2.2.2.2.2.1, rfl⟩
/-- a figure slips -/
def xsd (g f : Int32) : Int32 := if f < g then f + 1 else f - 1
theorem take_set {l xs : List Int32} {j : Nat} {x : Int32} (h : l.take xs.length = xs) (hj : j < xs.length) : (l.set j x).take xs.length = xs.set j x := by
  rw [List.take_set, h]
theorem xRw.set {u : Nat → Int32} {c c1 : Nat → List Int32} {xs : List Int32} {j : Nat} {x : Int32} (h : xRw u c xs) (hj : j < xs.length) (h5 : c1 5 = (c 5).set j x) : xRw u c1 (xs.set j x) :=
  ⟨by rw [List.length_set]; exact h.1, by rw [List.length_set, h5]; exact take_set h.2.1 hj, by rw [h5, List.length_set]; exact h.2.2.1, by rw [List.length_set]; exact h.2.2.2⟩
theorem sp_x_putBack {s u m n : Nat → Int32} {a c b d : Nat → List Int32} {q : List (Option Nat)} {h : Nat} {z : mc_W} {K mo nu ba ye : Int32} {sg : Nat → List Int32} {xs : List Int32} {i x : Int32} {j : Nat} (hH : xHd q z h u c K mo nu ba ye sg) (hF : xRw u c xs) (hi : i = nI j) (hj : j < xs.length) : mc_T yX1_putBack cX1_putBack 3 none 1 [.ref 17, .int i, .int x] (WW s a q u c h m b n d z) none (fun w1 => ∃ c1, xHd q z h u c1 K mo nu ba ye sg ∧ xKc c c1 ∧ xRw u c1 (xs.set j x) ∧ w1 = (WW s a q u c1 h m b n d z)) := by
  refine mc_start (own := RX1) (ini := false) rfl (by decide +kernel) (fun h => by cases h) (Nat.le_of_ble_eq_true rfl) ?_
  show mc_E _ _ _ _ _ [some (.ref 17), some (.int i), some (.int x)] [] _ _ _
  subst hi
  have h17 := hF.2.2.2
  obtain ⟨hT, hK, hc3, h48, h40, hr⟩ := id hH
  refine e_iloadn (pc := 0) dX1_putBack_0 rfl ?_
  refine e_if_lt (pc := 1) dX1_putBack_1 (t := 28) (by decide) (fun c_1 => absurd c_1 (nI_pos (by omega))) (fun _ => ?_)
  refine e_iloadn (pc := 4) dX1_putBack_4 rfl ?_
  refine e_aloadn (pc := 5) dX1_putBack_5 rfl ?_
  refine e_get (pc := 6) dX1_putBack_6 fX1_61 rfl rfl ?_
  refine e_icmp_ge (pc := 9) dX1_putBack_9 (t := 28) (by decide) (fun c_9 => absurd c_9 (by rw [hF.1]; exact nI_ge hj (by omega))) (fun _ => ?_)
  refine e_iloadn (pc := 12) dX1_putBack_12 rfl ?_
  refine e_aloadn (pc := 13) dX1_putBack_13 rfl ?_
  refine e_get (pc := 14) dX1_putBack_14 fX1_18 rfl rfl ?_
  refine e_alen (pc := 17) dX1_putBack_17 rfl (show Int32.ofNat (c 5).length = nI 40 by rw [h40]; rfl) ?_
  refine e_icmp_ge (pc := 18) dX1_putBack_18 (t := 28) (by decide) (fun c_18 => absurd c_18 (nI_ge (by omega) (by decide))) (fun _ => ?_)
  refine e_aloadn (pc := 21) dX1_putBack_21 rfl ?_
  refine e_get (pc := 22) dX1_putBack_22 fX1_18 rfl rfl ?_
  refine e_iloadn (pc := 25) dX1_putBack_25 rfl ?_
  refine e_iloadn (pc := 26) dX1_putBack_26 rfl ?_
  refine ast_row (pc := 27) dX1_putBack_27 (by rw [h40]; exact vp_in_nI (by omega) (by decide)) ?_
  exact e_vret (pc := 28) dX1_putBack_28 rfl (Nat.le_refl _) (Nat.le_refl _) ⟨rfl, mc_up c 5 ((c 5).set j x), ⟨hT, hK, hc3, h48, by show ((c 5).set j x).length = 40; rw [List.length_set]; exact h40, hr⟩, ⟨rfl, rfl, rfl⟩, hF.set hj rfl, by rw [nIc (by omega)]⟩
theorem sp_x_slipAt {s u m n : Nat → Int32} {a c b d : Nat → List Int32} {q : List (Option Nat)} {h : Nat} {z : mc_W} {K mo nu ba ye : Int32} {sg : Nat → List Int32} {xs : List Int32} {i : Int32} {j : Nat} (hH : xHd q z h u c K mo nu ba ye sg) (hF : xRw u c xs) (hi : i = nI j) (hj : j < xs.length) : mc_T yX1_slipAt cX1_slipAt 3 none 3 [.ref 17, .int i] (WW s a q u c h m b n d z) none (fun w1 => ∃ c1, xHd q z h u c1 K mo nu ba ye sg ∧ xKc c c1 ∧ xRw u c1 (xs.set j (xsd (yy_fg K mo ba) (xs.getD j 0))) ∧ w1 = (WW s a q u c1 h m b n d z)) := by
  refine mc_start (own := RX1) (ini := false) rfl (by decide +kernel) (fun h => by cases h) (Nat.le_of_ble_eq_true rfl) ?_
  show mc_E _ _ _ _ _ [some (.ref 17), some (.int i), none] [] _ _ _
  refine e_aloadn (pc := 0) dX1_slipAt_0 rfl ?_
  refine e_iloadn (pc := 1) dX1_slipAt_1 rfl ?_
  refine e_cvD (pc := 2) (sp_x_written hF hi hj) dX1_slipAt_2 kX1_71 rfl rfl rfl rfl rfl (mc_CR_of (Nat.le_of_ble_eq_true rfl) (Nat.le_of_ble_eq_true rfl) (Nat.le_refl _) (Nat.le_refl _)) (Nat.le_of_ble_eq_true rfl) ?_
  refine e_isn2 (pc := 5) dX1_slipAt_5 (Nat.le_of_ble_eq_true rfl) rfl ?_
  refine e_aloadn (pc := 6) dX1_slipAt_6 rfl ?_
  refine e_iloadn (pc := 7) dX1_slipAt_7 rfl ?_
  refine e_iloadn (pc := 8) dX1_slipAt_8 rfl ?_
  refine e_aloadn (pc := 9) dX1_slipAt_9 rfl ?_
  refine e_cvD (pc := 10) (sp_x_figures hH) dX1_slipAt_10 kX1_53 rfl rfl rfl rfl rfl (mc_CR_of (Nat.le_of_ble_eq_true rfl) (Nat.le_of_ble_eq_true rfl) (Nat.le_refl _) (Nat.le_refl _)) (Nat.le_of_ble_eq_true rfl) ?_
  refine e_icmp_ge (pc := 13) dX1_slipAt_13 (t := 22) (by decide) (fun c_13 => ?_) (fun c_13 => ?_)
  · skip
    refine e_iloadn (pc := 22) dX1_slipAt_22 rfl ?_
    refine e_iconst (v := 1) (pc := 23) dX1_slipAt_23 (by decide) ?_
    refine e_isub (pc := 24) dX1_slipAt_24 ?_
    refine e_cvY (pc := 25) (sp_x_putBack hH hF hi hj) dX1_slipAt_25 kX1_74 rfl rfl rfl rfl rfl (mc_CR_of (Nat.le_of_ble_eq_true rfl) (Nat.le_of_ble_eq_true rfl) (Nat.le_refl _) (Nat.le_refl _)) (Nat.le_of_ble_eq_true rfl) (fun w1 hw1 => ?_)
    obtain ⟨c1, hH1, hk1, hF1, rfl⟩ := hw1
    exact e_vret (pc := 28) dX1_slipAt_28 rfl (Nat.le_refl _) (Nat.le_refl _) ⟨rfl, c1, hH1, hk1, by unfold xsd; rw [if_neg (Int32.not_lt.mpr c_13)]; exact hF1, rfl⟩
  · skip
    refine e_iloadn (pc := 16) dX1_slipAt_16 rfl ?_
    refine e_iconst (v := 1) (pc := 17) dX1_slipAt_17 (by decide) ?_
    refine e_iadd (pc := 18) dX1_slipAt_18 ?_
    refine e_goto (pc := 19) dX1_slipAt_19 (t := 25) (by decide) ?_
    refine e_cvY (pc := 25) (sp_x_putBack hH hF hi hj) dX1_slipAt_25 kX1_74 rfl rfl rfl rfl rfl (mc_CR_of (Nat.le_of_ble_eq_true rfl) (Nat.le_of_ble_eq_true rfl) (Nat.le_refl _) (Nat.le_refl _)) (Nat.le_of_ble_eq_true rfl) (fun w1 hw1 => ?_)
    obtain ⟨c1, hH1, hk1, hF1, rfl⟩ := hw1
    exact e_vret (pc := 28) dX1_slipAt_28 rfl (Nat.le_refl _) (Nat.le_refl _) ⟨rfl, c1, hH1, hk1, by unfold xsd; rw [if_pos (Int32.not_le.mp c_13)]; exact hF1, rfl⟩
def xself (K mo ba : Int32) (xs : List Int32) : Int64 := yrd (yy_fg K mo ba) (if yy_it K = true then xs.reverse else xs)
def xabl (x : Int64) : Int64 := if 0 < x then x else -x
def xslo (K mo ba : Int32) (xs : List Int32) (i : Nat) : Int64 := xabl (xself K mo ba (xs.set i (xsd (yy_fg K mo ba) (xs.getD i 0))) - xself K mo ba xs)
def xslip (s : Nat → Int32) (a : Nat → List Int32) (sg : Nat → List Int32) (k v w : Int32) : Int64 :=
  if mc_wi k 0 (s 2 - 1) = false then -5 else if (mc_wi v 0 99999 && mc_wi w 0 1) = false then -7
  else if w = 0 then (ymost (xslo (gt (a 0) k) (gt (a 1) k) (s 0) (xwr s a sg k v)) (xwr s a sg k v).length 0 (-1) 0).1.toInt64 else (ymost (xslo (gt (a 0) k) (gt (a 1) k) (s 0) (xwr s a sg k v)) (xwr s a sg k v).length 0 (-1) 0).2
theorem set_bk (xs : List Int32) (j : Nat) (y : Int32) : (xs.set j y).set j (xs.getD j 0) = xs := by
  refine li_ext (by rw [List.length_set, List.length_set]) fun i hi => ?_
  rw [List.length_set, List.length_set] at hi
  rw [List.set_set]
  by_cases hj : j < xs.length
  · rw [gD_set hj]
    by_cases e : i = j
    · rw [if_pos e, e]
    · rw [if_neg e]
  · rw [List.set_eq_of_length_le (by omega)]
theorem lp_x_slip {s u m n : Nat → Int32} {a b d : Nat → List Int32} {q : List (Option Nat)} {h : Nat} {z : mc_W} {c0 : Nat → List Int32} {k v w K nu mm ba ye : Int32} {sg : Nat → List Int32} {xs : List Int32} {V : Int32 × Int64} (hc0 : xC c0) :
    ∀ (f i : Nat) (be : Int32) (mx : Int64) (c : Nat → List Int32) (x11 x12 : Option Value), xHd q z h u c K mm nu ba ye sg → xKc c0 c → xRw u c xs → i + f = xs.length → ymost (xslo K mm ba xs) f i be mx = V →
      mc_E RX6 cX6_slip 14 (mc_JM (some .long) false 8 0 0 (fun r' w' => r' = some (.long (if w = 0 then V.1.toInt64 else V.2)) ∧ ∃ u1 c1 h1, xC c1 ∧ w' = (WW s a q u1 c1 h1 m b n d z))) 59 [some (.ref 0), some (.int k), some (.int v), some (.int w), some (.ref 17), some (.long (xself K mm ba xs)), none, some (.int be), some (.long mx), none, some (.int (nI i)), x11, x12, none] [] (WW s a q u c h m b n d z) 0 0 := by
  intro f
  induction f with
  | zero =>
    intro i be mx c x11 x12 hH hk hF hi hV
    have h17 := hF.2.2.2
    have e : i = xs.length := by omega
    subst e
    simp only [ymost] at hV
    subst hV
    refine e_iload (pc := 59) dX6_slip_59 rfl ?_
    refine e_aload (pc := 61) dX6_slip_61 rfl ?_
    refine e_cvD (pc := 63) (sp_x_many) dX6_slip_63 kX6_138 rfl rfl rfl rfl rfl (mc_CR_of (Nat.le_of_ble_eq_true rfl) (Nat.le_of_ble_eq_true rfl) (Nat.le_refl _) (Nat.le_refl _)) (Nat.le_of_ble_eq_true rfl) ?_
    rw [hF.1]
    refine e_icmp_ge (pc := 66) dX6_slip_66 (t := 135) (by decide) (fun _ => ?_) (fun c_66 => absurd (nI_le (Nat.le_refl _) (by omega)) c_66)
    refine e_iloadn (pc := 135) dX6_slip_135 rfl ?_
    refine e_if_ne (pc := 136) dX6_slip_136 (t := 145) (by decide) (fun c_136 => ?_) (fun c_136 => ?_)
    · skip
      refine e_lload (pc := 145) dX6_slip_145 rfl ?_
      exact e_lret (pc := 147) dX6_slip_147 rfl (Nat.le_refl _) (Nat.le_refl _) ⟨by rw [if_neg c_136], u, c, h, hH.C hk hc0, rfl⟩
    · skip
      refine e_iload (pc := 139) dX6_slip_139 rfl ?_
      refine e_i2l (pc := 141) dX6_slip_141 ?_
      refine e_goto (pc := 142) dX6_slip_142 (t := 147) (by decide) ?_
      exact e_lret (pc := 147) dX6_slip_147 rfl (Nat.le_refl _) (Nat.le_refl _) ⟨by rw [if_pos c_136], u, c, h, hH.C hk hc0, rfl⟩
  | succ f ih =>
    intro i be mx c x11 x12 hH hk hF hi hV
    have h17 := hF.2.2.2
    simp only [ymost] at hV
    have hi2 : i < xs.length := by omega
    have hi3 : ∀ y, i < (xs.set i y).length := fun y => by rw [List.length_set]; exact hi2
    refine e_iload (pc := 59) dX6_slip_59 rfl ?_
    refine e_aload (pc := 61) dX6_slip_61 rfl ?_
    refine e_cvD (pc := 63) (sp_x_many) dX6_slip_63 kX6_138 rfl rfl rfl rfl rfl (mc_CR_of (Nat.le_of_ble_eq_true rfl) (Nat.le_of_ble_eq_true rfl) (Nat.le_refl _) (Nat.le_refl _)) (Nat.le_of_ble_eq_true rfl) ?_
    rw [hF.1]
    refine e_icmp_ge (pc := 66) dX6_slip_66 (t := 135) (by decide) (fun c_66 => absurd c_66 (nI_ge hi2 (by omega))) (fun _ => ?_)
    refine e_aload (pc := 69) dX6_slip_69 rfl ?_
    refine e_iload (pc := 71) dX6_slip_71 rfl ?_
    refine e_cvD (pc := 73) (sp_x_written hF rfl hi2) dX6_slip_73 kX6_141 rfl rfl rfl rfl rfl (mc_CR_of (Nat.le_of_ble_eq_true rfl) (Nat.le_of_ble_eq_true rfl) (Nat.le_refl _) (Nat.le_refl _)) (Nat.le_of_ble_eq_true rfl) ?_
    refine e_isw11 (pc := 76) dX6_slip_76 (Nat.le_of_ble_eq_true rfl) rfl ?_
    refine e_aload (pc := 78) dX6_slip_78 rfl ?_
    refine e_iload (pc := 80) dX6_slip_80 rfl ?_
    refine e_cvY (pc := 82) (sp_x_slipAt hH hF rfl hi2) dX6_slip_82 kX6_205 rfl rfl rfl rfl rfl (mc_CR_of (Nat.le_of_ble_eq_true rfl) (Nat.le_of_ble_eq_true rfl) (Nat.le_refl _) (Nat.le_refl _)) (Nat.le_of_ble_eq_true rfl) (fun w1 hw1 => ?_)
    obtain ⟨c1, hH1, hk1, hF1, rfl⟩ := hw1
    refine e_aload (pc := 85) dX6_slip_85 rfl ?_
    refine e_cvD (pc := 87) (sp_x_readHim hH1 hF1) dX6_slip_87 kX6_202 rfl rfl rfl rfl rfl (mc_CR_of (Nat.le_of_ble_eq_true rfl) (Nat.le_of_ble_eq_true rfl) (Nat.le_refl _) (Nat.le_refl _)) (Nat.le_of_ble_eq_true rfl) ?_
    refine e_lload (pc := 90) dX6_slip_90 rfl ?_
    refine e_lsub (pc := 92) dX6_slip_92 ?_
    refine e_absl (pc := 93) dX6_slip_93 mX6_183 (mc_JR_of (Nat.le_of_ble_eq_true rfl) (Nat.le_refl _) (Nat.le_refl _) (Nat.le_of_ble_eq_true rfl)) ?_
    refine e_topl (y := xslo K mm ba xs i) rfl ?_
    refine e_lsw12 (pc := 96) dX6_slip_96 (Nat.le_of_ble_eq_true rfl) rfl ?_
    refine e_aload (pc := 98) dX6_slip_98 rfl ?_
    refine e_iload (pc := 100) dX6_slip_100 rfl ?_
    refine e_iload (pc := 102) dX6_slip_102 rfl ?_
    refine e_cvY (pc := 104) (sp_x_putBack (x := xs.getD i 0) hH1 hF1 rfl (hi3 _)) dX6_slip_104 kX6_208 rfl rfl rfl rfl rfl (mc_CR_of (Nat.le_of_ble_eq_true rfl) (Nat.le_of_ble_eq_true rfl) (Nat.le_refl _) (Nat.le_refl _)) (Nat.le_of_ble_eq_true rfl) (fun w1 hw1 => ?_)
    obtain ⟨c2, hH2, hk2, hF2, rfl⟩ := hw1
    refine e_iload (pc := 107) dX6_slip_107 rfl ?_
    refine e_iconst (v := -1) (pc := 109) dX6_slip_109 (by decide) ?_
    refine e_icmp_eq (pc := 110) dX6_slip_110 (t := 121) (by decide) (fun c_110 => ?_) (fun c_110 => ?_)
    · skip
      refine e_iload (pc := 121) dX6_slip_121 rfl ?_
      refine e_isw7 (pc := 123) dX6_slip_123 (Nat.le_of_ble_eq_true rfl) rfl ?_
      refine e_lload (pc := 125) dX6_slip_125 rfl ?_
      refine e_lsw8 (pc := 127) dX6_slip_127 (Nat.le_of_ble_eq_true rfl) rfl ?_
      refine e_incC10 (pc := 129) dX6_slip_129 (nI_1 i) (Nat.le_of_ble_eq_true rfl) rfl ?_
      refine e_goto (pc := 132) dX6_slip_132 (t := 59) (by decide) ?_
      exact ih (i + 1) _ _ _ _ _ hH2 ((hk.trans hk1).trans hk2) (by have hb := hF2; rw [set_bk xs i _] at hb; exact hb) (by omega) (by rw [← hV, if_pos (Or.inl c_110)])
    · skip
      refine e_lload (pc := 113) dX6_slip_113 rfl ?_
      refine e_lload (pc := 115) dX6_slip_115 rfl ?_
      refine e_lcmp (pc := 117) dX6_slip_117 ?_
      refine e_if_le (pc := 118) dX6_slip_118 (t := 129) (by decide) (fun c_118 => ?_) (fun c_118 => ?_)
      · skip
        refine e_incC10 (pc := 129) dX6_slip_129 (nI_1 i) (Nat.le_of_ble_eq_true rfl) rfl ?_
        refine e_goto (pc := 132) dX6_slip_132 (t := 59) (by decide) ?_
        exact ih (i + 1) _ _ _ _ _ hH2 ((hk.trans hk1).trans hk2) (by have hb := hF2; rw [set_bk xs i _] at hb; exact hb) (by omega) (by rw [← hV, if_neg (fun q => q.elim c_110 (fun r => absurd (mc_cmp_gt.mpr r) (Int32.not_lt.mpr c_118)))])
      · skip
        refine e_iload (pc := 121) dX6_slip_121 rfl ?_
        refine e_isw7 (pc := 123) dX6_slip_123 (Nat.le_of_ble_eq_true rfl) rfl ?_
        refine e_lload (pc := 125) dX6_slip_125 rfl ?_
        refine e_lsw8 (pc := 127) dX6_slip_127 (Nat.le_of_ble_eq_true rfl) rfl ?_
        refine e_incC10 (pc := 129) dX6_slip_129 (nI_1 i) (Nat.le_of_ble_eq_true rfl) rfl ?_
        refine e_goto (pc := 132) dX6_slip_132 (t := 59) (by decide) ?_
        exact ih (i + 1) _ _ _ _ _ hH2 ((hk.trans hk1).trans hk2) (by have hb := hF2; rw [set_bk xs i _] at hb; exact hb) (by omega) (by rw [← hV, if_pos (Or.inr (mc_cmp_gt.mp (Int32.not_le.mp c_118)))])
theorem sp_x_slip {s u m n : Nat → Int32} {a c b d : Nat → List Int32} {q : List (Option Nat)} {h : Nat} {z : mc_W} {T : Nat} {sg : Nat → Nat → List Int32} {k v w : Int32} (hO : xOK s a q c z T sg) : mc_T yX6_slip cX6_slip 14 (some .long) 8 [.ref 0, .int k, .int v, .int w] (WW s a q u c h m b n d z) (some (.long (xslip s a (sg (tl s)) k v w))) (fun w1 => ∃ u1 c1 h1, xC c1 ∧ w1 = (WW s a q u1 c1 h1 m b n d z)) := by
  refine mc_start (own := RX6) (ini := false) rfl (by decide +kernel) (fun h => by cases h) (Nat.le_of_ble_eq_true rfl) ?_
  show mc_E _ _ _ _ _ [some (.ref 0), some (.int k), some (.int v), some (.int w), none, none, none, none, none, none, none, none, none, none] [] _ _ _
  refine e_aloadn (pc := 0) dX6_slip_0 rfl ?_
  refine e_iloadn (pc := 1) dX6_slip_1 rfl ?_
  refine e_cvD (pc := 2) (sp_x_isClerk hO.2.1) dX6_slip_2 kX6_115 rfl rfl rfl rfl rfl (mc_CR_of (Nat.le_of_ble_eq_true rfl) (Nat.le_of_ble_eq_true rfl) (Nat.le_refl _) (Nat.le_refl _)) (Nat.le_of_ble_eq_true rfl) ?_
  refine e_if_ne (pc := 5) dX6_slip_5 (t := 12) (by decide) (fun c_5 => ?_) (fun c_5 => ?_)
  · skip
    refine e_iloadn (pc := 12) dX6_slip_12 rfl ?_
    refine e_csD (pc := 13) (sp_isNumber) dX6_slip_13 kX6_118 rfl rfl (mc_CR_of (Nat.le_of_ble_eq_true rfl) (Nat.le_of_ble_eq_true rfl) (Nat.le_refl _) (Nat.le_refl _)) (Nat.le_of_ble_eq_true rfl) ?_
    refine e_if_eq (pc := 16) dX6_slip_16 (t := 26) (by decide) (fun c_16 => ?_) (fun c_16 => ?_)
    · skip
      refine e_ldc2 (pc := 26) dX6_slip_26 qX6_147 ?_
      exact e_lret (pc := 29) dX6_slip_29 rfl (Nat.le_refl _) (Nat.le_refl _) ⟨by unfold xslip; rw [if_neg (by rw [mc_b1.mp c_5]; decide), if_pos (by simp only [mc_b0, mc_b1, Bool.not_eq_false] at *; simp_all)], u, c, h, hO.2.2.2.2.2.1, rfl⟩
    · skip
      refine e_iloadn (pc := 19) dX6_slip_19 rfl ?_
      refine e_csD (pc := 20) (sp_isTwofold) dX6_slip_20 kX6_160 rfl rfl (mc_CR_of (Nat.le_of_ble_eq_true rfl) (Nat.le_of_ble_eq_true rfl) (Nat.le_refl _) (Nat.le_refl _)) (Nat.le_of_ble_eq_true rfl) ?_
      refine e_if_ne (pc := 23) dX6_slip_23 (t := 30) (by decide) (fun c_23 => ?_) (fun c_23 => ?_)
      · skip
        refine e_aloadn (pc := 30) dX6_slip_30 rfl ?_
        refine e_iloadn (pc := 31) dX6_slip_31 rfl ?_
        refine e_cvX (pc := 32) (sp_x_handOf hO (mc_b1.mp c_5)) dX6_slip_32 kX6_121 rfl rfl rfl rfl rfl (mc_CR_of (Nat.le_of_ble_eq_true rfl) (Nat.le_of_ble_eq_true rfl) (Nat.le_refl _) (Nat.le_refl _)) (Nat.le_of_ble_eq_true rfl) (fun w1 hw1 => ?_)
        obtain ⟨u1, c1, hH, hk1, rfl⟩ := hw1
        refine e_asw4 (pc := 35) dX6_slip_35 (Nat.le_of_ble_eq_true rfl) rfl ?_
        refine e_aload (pc := 37) dX6_slip_37 rfl ?_
        refine e_iloadn (pc := 39) dX6_slip_39 rfl ?_
        refine e_cvY (pc := 40) (sp_x_write hH (hH.mk (wi_num (mc_b1.mp c_16)))) dX6_slip_40 kX6_135 rfl rfl rfl rfl rfl (mc_CR_of (Nat.le_of_ble_eq_true rfl) (Nat.le_of_ble_eq_true rfl) (Nat.le_refl _) (Nat.le_refl _)) (Nat.le_of_ble_eq_true rfl) (fun w1 hw1 => ?_)
        obtain ⟨u2, c2, hH2, hk2, hF, rfl⟩ := hw1
        refine e_aload (pc := 43) dX6_slip_43 rfl ?_
        refine e_cvD (pc := 45) (sp_x_readHim hH2 hF) dX6_slip_45 kX6_202 rfl rfl rfl rfl rfl (mc_CR_of (Nat.le_of_ble_eq_true rfl) (Nat.le_of_ble_eq_true rfl) (Nat.le_refl _) (Nat.le_refl _)) (Nat.le_of_ble_eq_true rfl) ?_
        refine e_lsw5 (pc := 48) dX6_slip_48 (Nat.le_of_ble_eq_true rfl) rfl ?_
        refine e_iconst (v := -1) (pc := 50) dX6_slip_50 (by decide) ?_
        refine e_isw7 (pc := 51) dX6_slip_51 (Nat.le_of_ble_eq_true rfl) rfl ?_
        refine e_lconst (v := 0) (pc := 53) dX6_slip_53 (by decide) ?_
        refine e_lsw8 (pc := 54) dX6_slip_54 (Nat.le_of_ble_eq_true rfl) rfl ?_
        refine e_iconst (v := 0) (pc := 56) dX6_slip_56 (by decide) ?_
        refine e_isw10 (pc := 57) dX6_slip_57 (Nat.le_of_ble_eq_true rfl) rfl ?_
        have e : xslip s a (sg (tl s)) k v w = if w = 0 then (ymost (xslo (gt (a 0) k) (gt (a 1) k) (s 0) (xwr s a (sg (tl s)) k v)) (xwr s a (sg (tl s)) k v).length 0 (-1) 0).1.toInt64 else (ymost (xslo (gt (a 0) k) (gt (a 1) k) (s 0) (xwr s a (sg (tl s)) k v)) (xwr s a (sg (tl s)) k v).length 0 (-1) 0).2 := by unfold xslip; rw [if_neg (by rw [mc_b1.mp c_5]; decide), if_neg (by simp only [mc_b0, mc_b1, Bool.not_eq_false] at *; simp_all)]
        rw [e]
        exact lp_x_slip hO.2.2.2.2.2.1 _ 0 (-1) 0 c2 _ _ hH2 (hk1.trans hk2) hF (Nat.zero_add _) rfl
      · skip
        refine e_ldc2 (pc := 26) dX6_slip_26 qX6_147 ?_
        exact e_lret (pc := 29) dX6_slip_29 rfl (Nat.le_refl _) (Nat.le_refl _) ⟨by unfold xslip; rw [if_neg (by rw [mc_b1.mp c_5]; decide), if_pos (by simp only [mc_b0, mc_b1, Bool.not_eq_false] at *; simp_all)], u, c, h, hO.2.2.2.2.2.1, rfl⟩
  · skip
    refine e_ldc2 (pc := 8) dX6_slip_8 qX6_145 ?_
    exact e_lret (pc := 11) dX6_slip_11 rfl (Nat.le_refl _) (Nat.le_refl _) ⟨by unfold xslip; rw [if_pos (mc_b0.mp c_5)], u, c, h, hO.2.2.2.2.2.1, rfl⟩
end Zj_6b_x12
section Zj_6c_x13
/-! ===== lots ===== -/
/-- what is written with slips -/
def xsl (g x : Int32) : Nat → Nat → Int64 → List Int32 → List Int32
  | 0, _, _, xs => xs
  | f + 1, i, lot, xs => if (lot * 48271 - lot * 48271 / 2147483647 * 2147483647) - (lot * 48271 - lot * 48271 / 2147483647 * 2147483647) / 100 * 100 < x.toInt64 then xsl g x f (i + 1) (lot * 48271 - lot * 48271 / 2147483647 * 2147483647) (xs.set i (xsd g (xs.getD i 0))) else xsl g x f (i + 1) (lot * 48271 - lot * 48271 / 2147483647 * 2147483647) xs
theorem xsl_len (g x : Int32) : ∀ f i lot xs, (xsl g x f i lot xs).length = xs.length := by
  intro f
  induction f with
  | zero => intro i lot xs; rfl
  | succ f ih =>
    intro i lot xs
    unfold xsl
    split
    · rw [ih, List.length_set]
    · rw [ih]
theorem lp_x_lots {s u m n : Nat → Int32} {a b d : Nat → List Int32} {q : List (Option Nat)} {h : Nat} {z : mc_W} {c0 : Nat → List Int32} {K mo nu ba ye : Int32} {sg : Nat → List Int32} {sd x : Int32} {N : Nat} {V : List Int32} (hN : N ≤ 17) :
    ∀ (f i : Nat) (lot : Int64) (xs : List Int32) (c : Nat → List Int32), xHd q z h u c K mo nu ba ye sg → xKc c0 c → xRw u c xs → xs.length = N → i + f = N → xsl (yy_fg K mo ba) x f i lot xs = V →
      mc_E RX1 cX1_slipByLots 6 (mc_JM none false 4 0 0 (fun r' w' => r' = none ∧ (∃ c1, xHd q z h u c1 K mo nu ba ye sg ∧ xKc c0 c1 ∧ xRw u c1 V ∧ w' = (WW s a q u c1 h m b n d z)))) 8 [some (.ref 17), some (.int sd), some (.int x), some (.long lot), none, some (.int (nI i))] [] (WW s a q u c h m b n d z) 0 0 := by
  intro f
  induction f with
  | zero =>
    intro i lot xs c hH hk hF hl hi hV
    have e : i = N := by omega
    subst e
    simp only [xsl] at hV
    subst hV
    refine e_iload (pc := 8) dX1_slipByLots_8 rfl ?_
    refine e_aloadn (pc := 10) dX1_slipByLots_10 rfl ?_
    refine e_get (pc := 11) dX1_slipByLots_11 fX1_61 rfl rfl ?_
    refine e_icmp_ge (pc := 14) dX1_slipByLots_14 (t := 50) (by decide) (fun _ => ?_) (fun c_14 => absurd (by rw [hF.1, hl]; exact nI_le (Nat.le_refl _) (by omega)) c_14)
    exact e_vret (pc := 50) dX1_slipByLots_50 rfl (Nat.le_refl _) (Nat.le_refl _) ⟨rfl, c, hH, hk, hF, rfl⟩
  | succ f ih =>
    intro i lot xs c hH hk hF hl hi hV
    simp only [xsl] at hV
    have hi2 : i < xs.length := by omega
    refine e_iload (pc := 8) dX1_slipByLots_8 rfl ?_
    refine e_aloadn (pc := 10) dX1_slipByLots_10 rfl ?_
    refine e_get (pc := 11) dX1_slipByLots_11 fX1_61 rfl rfl ?_
    refine e_icmp_ge (pc := 14) dX1_slipByLots_14 (t := 50) (by decide) (fun c_14 => absurd c_14 (by rw [hF.1]; exact nI_ge hi2 (by omega))) (fun _ => ?_)
    refine e_lloadn (pc := 17) dX1_slipByLots_17 rfl ?_
    refine e_ldc2 (pc := 18) dX1_slipByLots_18 qX1_78 ?_
    refine e_lmul (pc := 21) dX1_slipByLots_21 ?_
    refine e_ldc2 (pc := 22) dX1_slipByLots_22 qX1_80 ?_
    refine e_lrem (pc := 25) dX1_slipByLots_25 (by decide) ?_
    refine e_lsn3 (pc := 26) dX1_slipByLots_26 (Nat.le_of_ble_eq_true rfl) rfl ?_
    refine e_lloadn (pc := 27) dX1_slipByLots_27 rfl ?_
    refine e_ldc2 (pc := 28) dX1_slipByLots_28 qX1_82 ?_
    refine e_lrem (pc := 31) dX1_slipByLots_31 (by decide) ?_
    refine e_iloadn (pc := 32) dX1_slipByLots_32 rfl ?_
    refine e_i2l (pc := 33) dX1_slipByLots_33 ?_
    refine e_lcmp (pc := 34) dX1_slipByLots_34 ?_
    refine e_if_ge (pc := 35) dX1_slipByLots_35 (t := 44) (by decide) (fun c_35 => ?_) (fun c_35 => ?_)
    · skip
      refine e_incC5 (pc := 44) dX1_slipByLots_44 (nI_1 i) (Nat.le_of_ble_eq_true rfl) rfl ?_
      refine e_goto (pc := 47) dX1_slipByLots_47 (t := 8) (by decide) ?_
      exact ih (i + 1) _ _ _ hH hk hF hl (by omega) (by rw [← hV, if_neg (mc_cnl_of c_35)])
    · skip
      refine e_aloadn (pc := 38) dX1_slipByLots_38 rfl ?_
      refine e_iload (pc := 39) dX1_slipByLots_39 rfl ?_
      refine e_cvY (pc := 41) (sp_x_slipAt hH hF rfl hi2) dX1_slipByLots_41 kX1_84 rfl rfl rfl rfl rfl (mc_CR_of (Nat.le_of_ble_eq_true rfl) (Nat.le_of_ble_eq_true rfl) (Nat.le_refl _) (Nat.le_refl _)) (Nat.le_of_ble_eq_true rfl) (fun w1 hw1 => ?_)
      obtain ⟨c1, hH1, hk1, hF1, rfl⟩ := hw1
      refine e_incC5 (pc := 44) dX1_slipByLots_44 (nI_1 i) (Nat.le_of_ble_eq_true rfl) rfl ?_
      refine e_goto (pc := 47) dX1_slipByLots_47 (t := 8) (by decide) ?_
      exact ih (i + 1) _ _ _ hH1 (hk.trans hk1) hF1 (by rw [List.length_set]; exact hl) (by omega) (by rw [← hV, if_pos (mc_clt_of c_35)])
theorem sp_x_lots {s u m n : Nat → Int32} {a c b d : Nat → List Int32} {q : List (Option Nat)} {h : Nat} {z : mc_W} {K mo nu ba ye : Int32} {sg : Nat → List Int32} {xs : List Int32} {sd x : Int32} (hH : xHd q z h u c K mo nu ba ye sg) (hF : xRw u c xs) : mc_T yX1_slipByLots cX1_slipByLots 6 none 4 [.ref 17, .int sd, .int x] (WW s a q u c h m b n d z) none (fun w1 => ∃ c1, xHd q z h u c1 K mo nu ba ye sg ∧ xKc c c1 ∧ xRw u c1 (xsl (yy_fg K mo ba) x xs.length 0 (sd.toInt64 + 1) xs) ∧ w1 = (WW s a q u c1 h m b n d z)) := by
  refine mc_start (own := RX1) (ini := false) rfl (by decide +kernel) (fun h => by cases h) (Nat.le_of_ble_eq_true rfl) ?_
  show mc_E _ _ _ _ _ [some (.ref 17), some (.int sd), some (.int x), none, none, none] [] _ _ _
  refine e_iloadn (pc := 0) dX1_slipByLots_0 rfl ?_
  refine e_i2l (pc := 1) dX1_slipByLots_1 ?_
  refine e_lconst (v := 1) (pc := 2) dX1_slipByLots_2 (by decide) ?_
  refine e_ladd (pc := 3) dX1_slipByLots_3 ?_
  refine e_lsn3 (pc := 4) dX1_slipByLots_4 (Nat.le_of_ble_eq_true rfl) rfl ?_
  refine e_iconst (v := 0) (pc := 5) dX1_slipByLots_5 (by decide) ?_
  refine e_isw5 (pc := 6) dX1_slipByLots_6 (Nat.le_of_ble_eq_true rfl) rfl ?_
  exact lp_x_lots hF.2.2.2 xs.length 0 _ xs c hH (xKc_refl c) hF rfl (by omega) rfl
/-- what is read back with the slips of a seed -/
def xsb (s : Nat → Int32) (a : Nat → List Int32) (sg : Nat → List Int32) (sd k v : Int32) : Int64 :=
  xself (gt (a 0) k) (gt (a 1) k) (s 0) (xsl (xfg s a k) (xask s a sg 1 k v 0) (xwr s a sg k v).length 0 (sd.toInt64 + 1) (xwr s a sg k v))
def xdrawn (s : Nat → Int32) (a : Nat → List Int32) (sg : Nat → List Int32) (sd k v : Int32) : Int64 := if mc_wi k 0 (s 2 - 1) = false then -5 else if (mc_wi sd 0 99999 && mc_wi v 0 99999) = false then -7 else xsb s a sg sd k v
theorem num2 {x y : Int32} (h : (mc_wi x 0 99999 && mc_wi y 0 99999) = true) : mc_wi x 0 99999 = true ∧ mc_wi y 0 99999 = true := by rw [Bool.and_eq_true] at h; exact h
theorem sp_x_drawn {s u m n : Nat → Int32} {a c b d : Nat → List Int32} {q : List (Option Nat)} {h : Nat} {z : mc_W} {T : Nat} {sg : Nat → Nat → List Int32} {sd k v : Int32} (hO : xOK s a q c z T sg) : mc_T yX6_drawn cX6_drawn 6 (some .long) 7 [.ref 0, .int sd, .int k, .int v] (WW s a q u c h m b n d z) (some (.long (xdrawn s a (sg (tl s)) sd k v))) (fun w1 => ∃ u1 c1 h1, xC c1 ∧ w1 = (WW s a q u1 c1 h1 m b n d z)) := by
  refine mc_start (own := RX6) (ini := false) rfl (by decide +kernel) (fun h => by cases h) (Nat.le_of_ble_eq_true rfl) ?_
  show mc_E _ _ _ _ _ [some (.ref 0), some (.int sd), some (.int k), some (.int v), none, none] [] _ _ _
  refine e_aloadn (pc := 0) dX6_drawn_0 rfl ?_
  refine e_iloadn (pc := 1) dX6_drawn_1 rfl ?_
  refine e_cvD (pc := 2) (sp_x_isClerk hO.2.1) dX6_drawn_2 kX6_115 rfl rfl rfl rfl rfl (mc_CR_of (Nat.le_of_ble_eq_true rfl) (Nat.le_of_ble_eq_true rfl) (Nat.le_refl _) (Nat.le_refl _)) (Nat.le_of_ble_eq_true rfl) ?_
  refine e_if_ne (pc := 5) dX6_drawn_5 (t := 12) (by decide) (fun c_5 => ?_) (fun c_5 => ?_)
  · skip
    refine e_iloadn (pc := 12) dX6_drawn_12 rfl ?_
    refine e_csD (pc := 13) (sp_isNumber) dX6_drawn_13 kX6_118 rfl rfl (mc_CR_of (Nat.le_of_ble_eq_true rfl) (Nat.le_of_ble_eq_true rfl) (Nat.le_refl _) (Nat.le_refl _)) (Nat.le_of_ble_eq_true rfl) ?_
    refine e_if_eq (pc := 16) dX6_drawn_16 (t := 26) (by decide) (fun c_16 => ?_) (fun c_16 => ?_)
    · skip
      refine e_ldc2 (pc := 26) dX6_drawn_26 qX6_147 ?_
      exact e_lret (pc := 29) dX6_drawn_29 rfl (Nat.le_refl _) (Nat.le_refl _) ⟨by unfold xdrawn; rw [if_neg (by rw [mc_b1.mp c_5]; decide), if_pos (by simp only [mc_b0, mc_b1, Bool.not_eq_false] at *; simp_all)], u, c, h, hO.2.2.2.2.2.1, rfl⟩
    · skip
      refine e_iloadn (pc := 19) dX6_drawn_19 rfl ?_
      refine e_csD (pc := 20) (sp_isNumber) dX6_drawn_20 kX6_118 rfl rfl (mc_CR_of (Nat.le_of_ble_eq_true rfl) (Nat.le_of_ble_eq_true rfl) (Nat.le_refl _) (Nat.le_refl _)) (Nat.le_of_ble_eq_true rfl) ?_
      refine e_if_ne (pc := 23) dX6_drawn_23 (t := 30) (by decide) (fun c_23 => ?_) (fun c_23 => ?_)
      · skip
        refine e_aloadn (pc := 30) dX6_drawn_30 rfl ?_
        refine e_iloadn (pc := 31) dX6_drawn_31 rfl ?_
        refine e_cvX (pc := 32) (sp_x_handOf hO (mc_b1.mp c_5)) dX6_drawn_32 kX6_121 rfl rfl rfl rfl rfl (mc_CR_of (Nat.le_of_ble_eq_true rfl) (Nat.le_of_ble_eq_true rfl) (Nat.le_refl _) (Nat.le_refl _)) (Nat.le_of_ble_eq_true rfl) (fun w1 hw1 => ?_)
        obtain ⟨u1, c1, hH, hk1, rfl⟩ := hw1
        refine e_asw4 (pc := 35) dX6_drawn_35 (Nat.le_of_ble_eq_true rfl) rfl ?_
        refine e_aload (pc := 37) dX6_drawn_37 rfl ?_
        refine e_iconst (v := 1) (pc := 39) dX6_drawn_39 (by decide) ?_
        refine e_iloadn (pc := 40) dX6_drawn_40 rfl ?_
        refine e_iconst (v := 0) (pc := 41) dX6_drawn_41 (by decide) ?_
        refine e_cvX (pc := 42) (sp_x_says1 hH) dX6_drawn_42 kX6_125 rfl rfl rfl rfl rfl (mc_CR_of (Nat.le_of_ble_eq_true rfl) (Nat.le_of_ble_eq_true rfl) (Nat.le_refl _) (Nat.le_refl _)) (Nat.le_of_ble_eq_true rfl) (fun w1 hw1 => ?_)
        obtain ⟨c2, hH2, hk2, hr2, rfl⟩ := hw1
        refine e_isw5 (pc := 45) dX6_drawn_45 (Nat.le_of_ble_eq_true rfl) rfl ?_
        refine e_aload (pc := 47) dX6_drawn_47 rfl ?_
        refine e_iloadn (pc := 49) dX6_drawn_49 rfl ?_
        refine e_cvY (pc := 50) (sp_x_write hH2 (hH2.mk (wi_num (mc_b1.mp c_23)))) dX6_drawn_50 kX6_135 rfl rfl rfl rfl rfl (mc_CR_of (Nat.le_of_ble_eq_true rfl) (Nat.le_of_ble_eq_true rfl) (Nat.le_refl _) (Nat.le_refl _)) (Nat.le_of_ble_eq_true rfl) (fun w1 hw1 => ?_)
        obtain ⟨u3, c3, hH3, hk3, hF3, rfl⟩ := hw1
        refine e_aload (pc := 53) dX6_drawn_53 rfl ?_
        refine e_iloadn (pc := 55) dX6_drawn_55 rfl ?_
        refine e_iload (pc := 56) dX6_drawn_56 rfl ?_
        refine e_cvY (pc := 58) (sp_x_lots hH3 hF3) dX6_drawn_58 kX6_299 rfl rfl rfl rfl rfl (mc_CR_of (Nat.le_of_ble_eq_true rfl) (Nat.le_of_ble_eq_true rfl) (Nat.le_refl _) (Nat.le_refl _)) (Nat.le_of_ble_eq_true rfl) (fun w1 hw1 => ?_)
        obtain ⟨c4, hH4, hk4, hF4, rfl⟩ := hw1
        refine e_aload (pc := 61) dX6_drawn_61 rfl ?_
        refine e_cvD (pc := 63) (sp_x_readHim hH4 hF4) dX6_drawn_63 kX6_202 rfl rfl rfl rfl rfl (mc_CR_of (Nat.le_of_ble_eq_true rfl) (Nat.le_of_ble_eq_true rfl) (Nat.le_refl _) (Nat.le_refl _)) (Nat.le_of_ble_eq_true rfl) ?_
        exact e_lret (pc := 66) dX6_drawn_66 rfl (Nat.le_refl _) (Nat.le_refl _) ⟨by unfold xdrawn; rw [if_neg (show ¬ mc_wi k 0 (s 2 - 1) = false by rw [mc_b1.mp c_5]; decide), if_neg (show ¬ (mc_wi sd 0 99999 && mc_wi v 0 99999) = false by simp only [mc_b0, mc_b1, Bool.not_eq_false] at *; simp_all)]; rfl, u3, c4, _, hH4.C (((hk1.trans hk2).trans hk3).trans hk4) hO.2.2.2.2.2.1, rfl⟩
      · skip
        refine e_ldc2 (pc := 26) dX6_drawn_26 qX6_147 ?_
        exact e_lret (pc := 29) dX6_drawn_29 rfl (Nat.le_refl _) (Nat.le_refl _) ⟨by unfold xdrawn; rw [if_neg (by rw [mc_b1.mp c_5]; decide), if_pos (by simp only [mc_b0, mc_b1, Bool.not_eq_false] at *; simp_all)], u, c, h, hO.2.2.2.2.2.1, rfl⟩
  · skip
    refine e_ldc2 (pc := 8) dX6_drawn_8 qX6_145 ?_
    exact e_lret (pc := 11) dX6_drawn_11 rfl (Nat.le_refl _) (Nat.le_refl _) ⟨by unfold xdrawn; rw [if_pos (mc_b0.mp c_5)], u, c, h, hO.2.2.2.2.2.1, rfl⟩
/-! ===== odds ===== -/
/-- the greatest number from d down that leaves nothing of both -/
def xcd (A B : Nat) : Nat → Nat
  | 0 => 1
  | 1 => 1
  | d + 2 => if A % (d + 2) = 0 ∧ B % (d + 2) = 0 then d + 2 else xcd A B (d + 1)
theorem xcd_g {A B : Nat} (h : 0 < Nat.gcd A B) : ∀ d, Nat.gcd A B ≤ d → xcd A B d = Nat.gcd A B
  | 0, hd => by omega
  | 1, hd => by show 1 = _; omega
  | d + 2, hd => by
    simp only [xcd]
    by_cases c : A % (d + 2) = 0 ∧ B % (d + 2) = 0
    · rw [if_pos c]
      have := Nat.le_of_dvd h (Nat.dvd_gcd (Nat.dvd_of_mod_eq_zero c.1) (Nat.dvd_of_mod_eq_zero c.2))
      omega
    · rw [if_neg c]
      have e : Nat.gcd A B ≠ d + 2 := fun e => c ⟨Nat.mod_eq_zero_of_dvd (e ▸ Nat.gcd_dvd_left A B), Nat.mod_eq_zero_of_dvd (e ▸ Nat.gcd_dvd_right A B)⟩
      exact xcd_g h (d + 1) (by omega)
theorem xcd_gcd : ∀ A, A < 61 → ∀ B, B < 61 → (A = 0 && B = 0 || xcd A B (max A B) == Nat.gcd A B) = true := by
  intro A _ B _
  by_cases c : 0 < Nat.gcd A B
  · have le : Nat.gcd A B ≤ max A B := by
      rcases Nat.eq_zero_or_pos A with h0 | h0
      · rw [h0, Nat.gcd_zero_left]; omega
      · have := Nat.le_of_dvd h0 (Nat.gcd_dvd_left A B); omega
    rw [xcd_g c _ le]; simp
  · have z : Nat.gcd A B = 0 := by omega
    have := Nat.gcd_eq_zero_iff.mp z
    rw [this.1, this.2]; rfl
theorem xc_rem : ∀ A, A < 61 → ∀ B, B < 61 → (B = 0 || (nI A - nI A / nI B * nI B == nI (A % B))) = true := by
  intro A hA B hB
  by_cases c : B = 0
  · simp [c]
  · rw [pk_rem (by omega) (by omega) (by omega)]; simp
theorem xc_dec : ∀ A, A < 61 → (A = 0 || nI A + Int32.ofInt (-1) == nI (A - 1)) = true := by decide +kernel
theorem xc_max : ∀ A, A < 61 → ∀ B, B < 61 → ((if nI A < nI B then nI B else nI A) == nI (max A B)) = true := by
  intro A hA B hB
  rw [beq_iff_eq]
  by_cases c : A < B
  · rw [if_pos (nI_lt c (by omega)), show max A B = B by omega]
  · rw [if_neg (nI_nlt (by omega) (by omega)), show max A B = A by omega]
theorem xc_d64 : ∀ A, A < 61 → ∀ B, B < 61 → (B = 0 || Int64.ofNat A / Int64.ofNat B == (nI (A / B)).toInt64) = true := by decide +kernel
theorem xc_low : ∀ A, A < 61 → ∀ B, B < 61 → (B = 0 || ((nI A / nI (Nat.gcd A B)).toInt64 == ylow A B 0 && (nI B / nI (Nat.gcd A B)).toInt64 == ylow A B 1 && (if (1 : Int32) < nI (Nat.gcd A B) then nI (Nat.gcd A B) else 1) == nI (Nat.gcd A B) && nI (Nat.gcd A B) != 0)) = true := by
  intro A hA B hB
  by_cases c : B = 0
  · simp [c]
  · have hg : 0 < Nat.gcd A B := Nat.gcd_pos_of_pos_right A (by omega)
    have le : Nat.gcd A B ≤ B := Nat.le_of_dvd (by omega) (Nat.gcd_dvd_right A B)
    have e1 : (if (1 : Int32) < nI (Nat.gcd A B) then nI (Nat.gcd A B) else 1) = nI (Nat.gcd A B) := by
      by_cases q : 1 < Nat.gcd A B
      · rw [if_pos (show (1 : Int32) < nI (Nat.gcd A B) from nI_lt (a := 1) q (by omega))]
      · rw [if_neg (show ¬ (1 : Int32) < nI (Nat.gcd A B) from nI_nlt (a := 1) (b := Nat.gcd A B) (by omega) (by omega)), show Nat.gcd A B = 1 by omega]; rfl
    have e2 : nI (Nat.gcd A B) ≠ 0 := nI_ne0 hg (by omega)
    have d := fun X (hX : X < 61) => xc_d64 X hX (Nat.gcd A B) (by omega)
    have d2 : ∀ X, X < 61 → Int64.ofNat X / Int64.ofNat (Nat.gcd A B) = (nI (X / Nat.gcd A B)).toInt64 := fun X hX => by
      have := d X hX
      rw [Bool.or_eq_true, decide_eq_true_eq, beq_iff_eq] at this
      exact this.resolve_left (by omega)
    have e3 : (nI A / nI (Nat.gcd A B)).toInt64 = ylow A B 0 := by
      rw [pk_div (by omega) hg (by omega)]
      unfold ylow
      by_cases a0 : A = 0
      · rw [if_pos a0, a0, Nat.zero_div]; rfl
      · rw [if_neg a0, if_pos rfl, d2 A hA]
    have e4 : (nI B / nI (Nat.gcd A B)).toInt64 = ylow A B 1 := by
      rw [pk_div (by omega) hg (by omega)]
      unfold ylow
      by_cases a0 : A = 0
      · rw [if_pos a0, a0, Nat.gcd_zero_left, Nat.div_self (by omega)]; rfl
      · rw [if_neg a0, if_neg (by decide), d2 B hB]
    rw [e1, e3, e4]
    simp [e2, c]
theorem lp_x_cd {w : mc_W} {X Y : Nat} (hX : X < 61) (hY : Y < 61) :
    ∀ (e : Nat), e < 61 →
      mc_E RX6 cX6_commonDivisor 3 (mc_JM (some .int) false 1 0 0 (fun r' w' => r' = some (.int (nI (xcd X Y e))) ∧ w' = w)) 6 [some (.int (nI X)), some (.int (nI Y)), some (.int (nI e))] [] w 0 0 := by
  intro e
  induction e with
  | zero =>
    intro he
    refine e_iloadn (pc := 6) dX6_commonDivisor_6 rfl ?_
    refine e_iconst (v := 1) (pc := 7) dX6_commonDivisor_7 (by decide) ?_
    refine e_icmp_le (pc := 8) dX6_commonDivisor_8 (t := 31) (by decide) (fun _ => ?_) (fun c_8 => absurd (by decide) c_8)
    refine e_iconst (v := 1) (pc := 31) dX6_commonDivisor_31 (by decide) ?_
    exact e_iret (pc := 32) dX6_commonDivisor_32 rfl (Nat.le_refl _) (Nat.le_refl _) ⟨rfl, rfl⟩
  | succ e ih =>
    intro he
    by_cases e0 : e = 0
    · subst e0
      refine e_iloadn (pc := 6) dX6_commonDivisor_6 rfl ?_
      refine e_iconst (v := 1) (pc := 7) dX6_commonDivisor_7 (by decide) ?_
      refine e_icmp_le (pc := 8) dX6_commonDivisor_8 (t := 31) (by decide) (fun _ => ?_) (fun c_8 => absurd (by decide) c_8)
      refine e_iconst (v := 1) (pc := 31) dX6_commonDivisor_31 (by decide) ?_
      exact e_iret (pc := 32) dX6_commonDivisor_32 rfl (Nat.le_refl _) (Nat.le_refl _) ⟨rfl, rfl⟩
    obtain ⟨d, rfl⟩ : ∃ d, e = d + 1 := ⟨e - 1, by omega⟩
    have rX : nI X - nI X / nI (d + 1 + 1) * nI (d + 1 + 1) = nI (X % (d + 2)) := by have := xc_rem X hX (d + 2) (by omega); simpa using this
    have rY : nI Y - nI Y / nI (d + 1 + 1) * nI (d + 1 + 1) = nI (Y % (d + 2)) := by have := xc_rem Y hY (d + 2) (by omega); simpa using this
    have lX := Nat.mod_lt X (show d + 2 > 0 by omega)
    have lY := Nat.mod_lt Y (show d + 2 > 0 by omega)
    have zX : nI (X % (d + 2)) = 0 ↔ X % (d + 2) = 0 := nI_eq (b := 0) (by omega) (by decide)
    have zY : nI (Y % (d + 2)) = 0 ↔ Y % (d + 2) = 0 := nI_eq (b := 0) (by omega) (by decide)
    have nz : ¬ nI (d + 1 + 1) = 0 := fun q => absurd ((nI_eq (a := d + 2) (b := 0) (by omega) (by decide)).mp q) (by omega)
    have dc : nI (d + 1 + 1) + Int32.ofInt (-1) = nI (d + 1) := by have := xc_dec (d + 2) (by omega); simpa using this
    refine e_iloadn (pc := 6) dX6_commonDivisor_6 rfl ?_
    refine e_iconst (v := 1) (pc := 7) dX6_commonDivisor_7 (by decide) ?_
    refine e_icmp_le (pc := 8) dX6_commonDivisor_8 (t := 31) (by decide) (fun c_8 => absurd c_8 (fun q => absurd (nI_lt (a := 1) (b := d + 1 + 1) (by omega) (by omega)) (Int32.not_lt.mpr q))) (fun _ => ?_)
    refine e_iloadn (pc := 11) dX6_commonDivisor_11 rfl ?_
    refine e_iloadn (pc := 12) dX6_commonDivisor_12 rfl ?_
    refine e_irem (pc := 13) dX6_commonDivisor_13 nz ?_
    refine e_top (y := nI (X % (d + 2))) rX ?_
    refine e_if_ne (pc := 14) dX6_commonDivisor_14 (t := 25) (by decide) (fun c_14 => ?_) (fun c_14 => ?_)
    · skip
      refine e_incC2 (pc := 25) dX6_commonDivisor_25 dc (Nat.le_of_ble_eq_true rfl) rfl ?_
      refine e_goto (pc := 28) dX6_commonDivisor_28 (t := 6) (by decide) ?_
      have e1 : xcd X Y (d + 1 + 1) = xcd X Y (d + 1) := if_neg (fun q => c_14 (zX.mpr q.1))
      rw [e1]
      exact ih (by omega)
    · skip
      refine e_iloadn (pc := 17) dX6_commonDivisor_17 rfl ?_
      refine e_iloadn (pc := 18) dX6_commonDivisor_18 rfl ?_
      refine e_irem (pc := 19) dX6_commonDivisor_19 nz ?_
      refine e_top (y := nI (Y % (d + 2))) rY ?_
      refine e_if_ne (pc := 20) dX6_commonDivisor_20 (t := 25) (by decide) (fun c_20 => ?_) (fun c_20 => ?_)
      · skip
        refine e_incC2 (pc := 25) dX6_commonDivisor_25 dc (Nat.le_of_ble_eq_true rfl) rfl ?_
        refine e_goto (pc := 28) dX6_commonDivisor_28 (t := 6) (by decide) ?_
        have e1 : xcd X Y (d + 1 + 1) = xcd X Y (d + 1) := if_neg (fun q => c_20 (zY.mpr q.2))
        rw [e1]
        exact ih (by omega)
      · skip
        refine e_iloadn (pc := 23) dX6_commonDivisor_23 rfl ?_
        exact e_iret (pc := 24) dX6_commonDivisor_24 rfl (Nat.le_refl _) (Nat.le_refl _) ⟨by unfold xcd; rw [if_pos ⟨zX.mp c_14, zY.mp c_20⟩], rfl⟩
theorem sp_x_cd {w : mc_W} {X Y : Nat} (hX : X < 61) (hY : Y < 61) : mc_D yX6_commonDivisor cX6_commonDivisor 3 (some .int) 1 [.int (nI X), .int (nI Y)] w (some (.int (nI (xcd X Y (max X Y))))) w := by
  refine mc_start (own := RX6) (ini := false) rfl (by decide +kernel) (fun h => by cases h) (Nat.le_of_ble_eq_true rfl) ?_
  show mc_E _ _ _ _ _ [some (.int (nI X)), some (.int (nI Y)), none] [] _ _ _
  refine e_iloadn (pc := 0) dX6_commonDivisor_0 rfl ?_
  refine e_iloadn (pc := 1) dX6_commonDivisor_1 rfl ?_
  refine e_max (pc := 2) dX6_commonDivisor_2 mX6_307 (mc_JR_of (Nat.le_of_ble_eq_true rfl) (Nat.le_refl _) (Nat.le_refl _) (Nat.le_of_ble_eq_true rfl)) ?_
  refine e_top (y := nI (max X Y)) (by have := xc_max X hX Y hY; simpa using this) ?_
  refine e_isn2 (pc := 5) dX6_commonDivisor_5 (Nat.le_of_ble_eq_true rfl) rfl ?_
  exact lp_x_cd hX hY (max X Y) (by omega)
def xodc (s : Nat → Int32) (a : Nat → List Int32) (sg : Nat → List Int32) (sd sn k v : Int32) : Nat := ycn (fun i => xsb s a sg (sd + nI i) k v) (xself (gt (a 0) k) (gt (a 1) k) (s 0) (xwr s a sg k v)) sn.toNatClampNeg 0 0
def xodds (s : Nat → Int32) (a : Nat → List Int32) (sg : Nat → List Int32) (sd sn k v p : Int32) : Int64 :=
  if (mc_wi sd 0 99999 && mc_wi sn 1 60 && mc_wi v 0 99999 && mc_wi p 0 1 && mc_wi k 0 (s 2 - 1)) = false then -4611686018427387904 else ylow (xodc s a sg sd sn k v) sn.toNatClampNeg p
def xdl (K mo nu ba ye : Int32) (sg : Nat → List Int32) (sl sd v : Int32) : Int64 := xself K mo ba (xsl (yy_fg K mo ba) sl (hwr K mo nu ba ye sg v).length 0 (sd.toInt64 + 1) (hwr K mo nu ba ye sg v))
theorem p_1 {p : Int32} (h : (0 : Int32).toInt ≤ p.toInt ∧ p.toInt ≤ (1 : Int32).toInt) (h0 : ¬ p = 0) : p = 1 := by
  rw [i0, i1] at h
  have : ¬ p.toInt = 0 := fun q => h0 (by rw [← Int32.toInt_inj, q]; rfl)
  rw [← Int32.toInt_inj, i1]; omega
theorem lp_x_odds {s m n : Nat → Int32} {a b d : Nat → List Int32} {q : List (Option Nat)} {h : Nat} {z : mc_W} {c0 : Nat → List Int32} {k v sd sl p K mm nu ba ye : Int32} {me : Int64} {sg : Nat → List Int32} {V N : Nat} (hc0 : xC c0) (hv : mc_wi v 0 99999 = true) (hp : mc_wi p 0 1 = true) (hN : N < 61) (hN0 : N ≠ 0) :
    ∀ (f i cn : Nat) (u : Nat → Int32) (c : Nat → List Int32), xHd q z h u c K mm nu ba ye sg → xKc c0 c → i + f = N → cn ≤ i → ycn (fun i => xdl K mm nu ba ye sg sl (sd + nI i) v) me f i cn = V →
      mc_E RX6 cX6_odds 13 (mc_JM (some .long) false 8 0 0 (fun r' w' => r' = some (.long (ylow V N p)) ∧ ∃ u1 c1 h1, xC c1 ∧ w' = (WW s a q u1 c1 h1 m b n d z))) 95 [some (.ref 0), some (.int sd), some (.int (nI N)), some (.int k), some (.int v), some (.int p), some (.int 1), some (.ref 17), some (.int sl), some (.long me), none, some (.int (nI cn)), some (.int (nI i))] [] (WW s a q u c h m b n d z) 0 0 := by
  intro f
  induction f with
  | zero =>
    intro i cn u c hH hk hi hcn hV
    have e : i = N := by omega
    subst e
    simp only [ycn] at hV
    subst hV
    have hcd : xcd cn i (max cn i) = Nat.gcd cn i := by have := xcd_gcd cn (by omega) i hN; simpa [hN0] using this
    have lw := xc_low cn (by omega) i hN
    simp only [hN0, decide_false, Bool.false_or, Bool.and_eq_true, beq_iff_eq, bne_iff_ne] at lw
    obtain ⟨⟨⟨l0, l1⟩, l2⟩, l3⟩ := lw
    rw [mc_wi_iff] at hp
    refine e_iload (pc := 95) dX6_odds_95 rfl ?_
    refine e_iloadn (pc := 97) dX6_odds_97 rfl ?_
    refine e_icmp_ge (pc := 98) dX6_odds_98 (t := 139) (by decide) (fun _ => ?_) (fun c_98 => absurd (Int32.le_refl _) c_98)
    refine e_iconst (v := 1) (pc := 139) dX6_odds_139 (by decide) ?_
    refine e_iload (pc := 140) dX6_odds_140 rfl ?_
    refine e_iloadn (pc := 142) dX6_odds_142 rfl ?_
    refine e_csD (pc := 143) (sp_x_cd (X := cn) (Y := i) (by omega) hN) dX6_odds_143 kX6_304 rfl rfl (mc_CR_of (Nat.le_of_ble_eq_true rfl) (Nat.le_of_ble_eq_true rfl) (Nat.le_refl _) (Nat.le_refl _)) (Nat.le_of_ble_eq_true rfl) ?_
    rw [hcd]
    refine e_max (pc := 146) dX6_odds_146 mX6_307 (mc_JR_of (Nat.le_of_ble_eq_true rfl) (Nat.le_refl _) (Nat.le_refl _) (Nat.le_of_ble_eq_true rfl)) ?_
    refine e_top (y := nI (Nat.gcd cn i)) l2 ?_
    refine e_isw12 (pc := 149) dX6_odds_149 (Nat.le_of_ble_eq_true rfl) rfl ?_
    refine e_iload (pc := 151) dX6_odds_151 rfl ?_
    refine e_if_ne (pc := 153) dX6_odds_153 (t := 165) (by decide) (fun c_153 => ?_) (fun c_153 => ?_)
    · skip
      refine e_iloadn (pc := 165) dX6_odds_165 rfl ?_
      refine e_iload (pc := 166) dX6_odds_166 rfl ?_
      refine e_idiv (pc := 168) dX6_odds_168 l3 ?_
      refine e_i2l (pc := 169) dX6_odds_169 ?_
      exact e_lret (pc := 170) dX6_odds_170 rfl (Nat.le_refl _) (Nat.le_refl _) ⟨by rw [l1, show p = 1 from p_1 hp c_153], u, c, h, hH.C hk hc0, rfl⟩
    · skip
      refine e_iload (pc := 156) dX6_odds_156 rfl ?_
      refine e_iload (pc := 158) dX6_odds_158 rfl ?_
      refine e_idiv (pc := 160) dX6_odds_160 l3 ?_
      refine e_i2l (pc := 161) dX6_odds_161 ?_
      refine e_goto (pc := 162) dX6_odds_162 (t := 170) (by decide) ?_
      exact e_lret (pc := 170) dX6_odds_170 rfl (Nat.le_refl _) (Nat.le_refl _) ⟨by rw [l0, show p = 0 from c_153], u, c, h, hH.C hk hc0, rfl⟩
  | succ f ih =>
    intro i cn u c hH hk hi hcn hV
    simp only [ycn] at hV
    refine e_iload (pc := 95) dX6_odds_95 rfl ?_
    refine e_iloadn (pc := 97) dX6_odds_97 rfl ?_
    refine e_icmp_ge (pc := 98) dX6_odds_98 (t := 139) (by decide) (fun c_98 => absurd c_98 (nI_ge (by omega : i < N) (by omega))) (fun _ => ?_)
    refine e_aload (pc := 101) dX6_odds_101 rfl ?_
    refine e_iload (pc := 103) dX6_odds_103 rfl ?_
    refine e_cvY (pc := 105) (sp_x_write hH (hH.mk (wi_num hv))) dX6_odds_105 kX6_135 rfl rfl rfl rfl rfl (mc_CR_of (Nat.le_of_ble_eq_true rfl) (Nat.le_of_ble_eq_true rfl) (Nat.le_refl _) (Nat.le_refl _)) (Nat.le_of_ble_eq_true rfl) (fun w1 hw1 => ?_)
    obtain ⟨u1, c1, hH1, hk1, hF1, rfl⟩ := hw1
    refine e_aload (pc := 108) dX6_odds_108 rfl ?_
    refine e_iloadn (pc := 110) dX6_odds_110 rfl ?_
    refine e_iload (pc := 111) dX6_odds_111 rfl ?_
    refine e_iadd (pc := 113) dX6_odds_113 ?_
    refine e_iload (pc := 114) dX6_odds_114 rfl ?_
    refine e_cvY (pc := 116) (sp_x_lots hH1 hF1) dX6_odds_116 kX6_299 rfl rfl rfl rfl rfl (mc_CR_of (Nat.le_of_ble_eq_true rfl) (Nat.le_of_ble_eq_true rfl) (Nat.le_refl _) (Nat.le_refl _)) (Nat.le_of_ble_eq_true rfl) (fun w1 hw1 => ?_)
    obtain ⟨c2, hH2, hk2, hF2, rfl⟩ := hw1
    refine e_aload (pc := 119) dX6_odds_119 rfl ?_
    refine e_cvD (pc := 121) (sp_x_readHim hH2 hF2) dX6_odds_121 kX6_202 rfl rfl rfl rfl rfl (mc_CR_of (Nat.le_of_ble_eq_true rfl) (Nat.le_of_ble_eq_true rfl) (Nat.le_refl _) (Nat.le_refl _)) (Nat.le_of_ble_eq_true rfl) ?_
    refine e_topl (y := xdl K mm nu ba ye sg sl (sd + nI i) v) rfl ?_
    refine e_lload (pc := 124) dX6_odds_124 rfl ?_
    refine e_lcmp (pc := 126) dX6_odds_126 ?_
    refine e_if_ne (pc := 127) dX6_odds_127 (t := 133) (by decide) (fun c_127 => ?_) (fun c_127 => ?_)
    · skip
      refine e_incC12 (pc := 133) dX6_odds_133 (nI_1 i) (Nat.le_of_ble_eq_true rfl) rfl ?_
      refine e_goto (pc := 136) dX6_odds_136 (t := 95) (by decide) ?_
      exact ih (i + 1) cn _ _ hH2 ((hk.trans hk1).trans hk2) (by omega) (by omega) (by rw [← hV, if_neg (fun q => c_127 (mc_cmp_eq.mpr q))])
    · skip
      refine e_incC11 (pc := 130) dX6_odds_130 (nI_1 cn) (Nat.le_of_ble_eq_true rfl) rfl ?_
      refine e_incC12 (pc := 133) dX6_odds_133 (nI_1 i) (Nat.le_of_ble_eq_true rfl) rfl ?_
      refine e_goto (pc := 136) dX6_odds_136 (t := 95) (by decide) ?_
      exact ih (i + 1) (cn + 1) _ _ hH2 ((hk.trans hk1).trans hk2) (by omega) (by omega) (by rw [← hV, if_pos (mc_cmp_eq.mp c_127)])
theorem sp_x_odds {s u m n : Nat → Int32} {a c b d : Nat → List Int32} {q : List (Option Nat)} {h : Nat} {z : mc_W} {T : Nat} {sg : Nat → Nat → List Int32} {sd sn k v p : Int32} (hO : xOK s a q c z T sg) : mc_T yX6_odds cX6_odds 13 (some .long) 8 [.ref 0, .int sd, .int sn, .int k, .int v, .int p] (WW s a q u c h m b n d z) (some (.long (xodds s a (sg (tl s)) sd sn k v p))) (fun w1 => ∃ u1 c1 h1, xC c1 ∧ w1 = (WW s a q u1 c1 h1 m b n d z)) := by
  refine mc_start (own := RX6) (ini := false) rfl (by decide +kernel) (fun h => by cases h) (Nat.le_of_ble_eq_true rfl) ?_
  show mc_E _ _ _ _ _ [some (.ref 0), some (.int sd), some (.int sn), some (.int k), some (.int v), some (.int p), none, none, none, none, none, none, none] [] _ _ _
  refine e_iloadn (pc := 0) dX6_odds_0 rfl ?_
  refine e_csD (pc := 1) (sp_isNumber) dX6_odds_1 kX6_118 rfl rfl (mc_CR_of (Nat.le_of_ble_eq_true rfl) (Nat.le_of_ble_eq_true rfl) (Nat.le_refl _) (Nat.le_refl _)) (Nat.le_of_ble_eq_true rfl) ?_
  refine e_if_eq (pc := 4) dX6_odds_4 (t := 37) (by decide) (fun c_4 => ?_) (fun c_4 => ?_)
  · skip
    refine e_iconst (v := 0) (pc := 37) dX6_odds_37 (by decide) ?_
    refine e_isw6 (pc := 38) dX6_odds_38 (Nat.le_of_ble_eq_true rfl) rfl ?_
    refine e_iload (pc := 40) dX6_odds_40 rfl ?_
    refine e_if_eq (pc := 42) dX6_odds_42 (t := 53) (by decide) (fun _ => ?_) (fun c_42 => absurd (by decide) c_42)
    refine e_ldc2 (pc := 53) dX6_odds_53 qX6_302 ?_
    exact e_lret (pc := 56) dX6_odds_56 rfl (Nat.le_refl _) (Nat.le_refl _) ⟨by unfold xodds; rw [if_pos (by rw [mc_b0.mp c_4]; simp)], u, c, h, hO.2.2.2.2.2.1, rfl⟩
  · skip
    refine e_iloadn (pc := 7) dX6_odds_7 rfl ?_
    refine e_iconst (v := 1) (pc := 8) dX6_odds_8 (by decide) ?_
    refine e_bipush (v := 60) (pc := 9) dX6_odds_9 (by decide) ?_
    refine e_csD (pc := 11) (sp_isWithin) dX6_odds_11 kX6_86 rfl rfl (mc_CR_of (Nat.le_of_ble_eq_true rfl) (Nat.le_of_ble_eq_true rfl) (Nat.le_refl _) (Nat.le_refl _)) (Nat.le_of_ble_eq_true rfl) ?_
    refine e_if_eq (pc := 14) dX6_odds_14 (t := 37) (by decide) (fun c_14 => ?_) (fun c_14 => ?_)
    · skip
      refine e_iconst (v := 0) (pc := 37) dX6_odds_37 (by decide) ?_
      refine e_isw6 (pc := 38) dX6_odds_38 (Nat.le_of_ble_eq_true rfl) rfl ?_
      refine e_iload (pc := 40) dX6_odds_40 rfl ?_
      refine e_if_eq (pc := 42) dX6_odds_42 (t := 53) (by decide) (fun _ => ?_) (fun c_42 => absurd (by decide) c_42)
      refine e_ldc2 (pc := 53) dX6_odds_53 qX6_302 ?_
      exact e_lret (pc := 56) dX6_odds_56 rfl (Nat.le_refl _) (Nat.le_refl _) ⟨by unfold xodds; rw [if_pos (by rw [mc_b0.mp c_14]; simp)], u, c, h, hO.2.2.2.2.2.1, rfl⟩
    · skip
      refine e_iload (pc := 17) dX6_odds_17 rfl ?_
      refine e_csD (pc := 19) (sp_isNumber) dX6_odds_19 kX6_118 rfl rfl (mc_CR_of (Nat.le_of_ble_eq_true rfl) (Nat.le_of_ble_eq_true rfl) (Nat.le_refl _) (Nat.le_refl _)) (Nat.le_of_ble_eq_true rfl) ?_
      refine e_if_eq (pc := 22) dX6_odds_22 (t := 37) (by decide) (fun c_22 => ?_) (fun c_22 => ?_)
      · skip
        refine e_iconst (v := 0) (pc := 37) dX6_odds_37 (by decide) ?_
        refine e_isw6 (pc := 38) dX6_odds_38 (Nat.le_of_ble_eq_true rfl) rfl ?_
        refine e_iload (pc := 40) dX6_odds_40 rfl ?_
        refine e_if_eq (pc := 42) dX6_odds_42 (t := 53) (by decide) (fun _ => ?_) (fun c_42 => absurd (by decide) c_42)
        refine e_ldc2 (pc := 53) dX6_odds_53 qX6_302 ?_
        exact e_lret (pc := 56) dX6_odds_56 rfl (Nat.le_refl _) (Nat.le_refl _) ⟨by unfold xodds; rw [if_pos (by rw [mc_b0.mp c_22]; simp)], u, c, h, hO.2.2.2.2.2.1, rfl⟩
      · skip
        refine e_iload (pc := 25) dX6_odds_25 rfl ?_
        refine e_csD (pc := 27) (sp_isTwofold) dX6_odds_27 kX6_160 rfl rfl (mc_CR_of (Nat.le_of_ble_eq_true rfl) (Nat.le_of_ble_eq_true rfl) (Nat.le_refl _) (Nat.le_refl _)) (Nat.le_of_ble_eq_true rfl) ?_
        refine e_if_eq (pc := 30) dX6_odds_30 (t := 37) (by decide) (fun c_30 => ?_) (fun c_30 => ?_)
        · skip
          refine e_iconst (v := 0) (pc := 37) dX6_odds_37 (by decide) ?_
          refine e_isw6 (pc := 38) dX6_odds_38 (Nat.le_of_ble_eq_true rfl) rfl ?_
          refine e_iload (pc := 40) dX6_odds_40 rfl ?_
          refine e_if_eq (pc := 42) dX6_odds_42 (t := 53) (by decide) (fun _ => ?_) (fun c_42 => absurd (by decide) c_42)
          refine e_ldc2 (pc := 53) dX6_odds_53 qX6_302 ?_
          exact e_lret (pc := 56) dX6_odds_56 rfl (Nat.le_refl _) (Nat.le_refl _) ⟨by unfold xodds; rw [if_pos (by rw [mc_b0.mp c_30]; simp)], u, c, h, hO.2.2.2.2.2.1, rfl⟩
        · skip
          refine e_iconst (v := 1) (pc := 33) dX6_odds_33 (by decide) ?_
          refine e_goto (pc := 34) dX6_odds_34 (t := 38) (by decide) ?_
          refine e_isw6 (pc := 38) dX6_odds_38 (Nat.le_of_ble_eq_true rfl) rfl ?_
          refine e_iload (pc := 40) dX6_odds_40 rfl ?_
          refine e_if_eq (pc := 42) dX6_odds_42 (t := 53) (by decide) (fun c_42 => absurd c_42 (by decide)) (fun _ => ?_)
          refine e_aloadn (pc := 45) dX6_odds_45 rfl ?_
          refine e_iloadn (pc := 46) dX6_odds_46 rfl ?_
          refine e_cvD (pc := 47) (sp_x_isClerk hO.2.1) dX6_odds_47 kX6_115 rfl rfl rfl rfl rfl (mc_CR_of (Nat.le_of_ble_eq_true rfl) (Nat.le_of_ble_eq_true rfl) (Nat.le_refl _) (Nat.le_refl _)) (Nat.le_of_ble_eq_true rfl) ?_
          refine e_if_ne (pc := 50) dX6_odds_50 (t := 57) (by decide) (fun c_50 => ?_) (fun c_50 => ?_)
          · skip
            refine e_aloadn (pc := 57) dX6_odds_57 rfl ?_
            refine e_iloadn (pc := 58) dX6_odds_58 rfl ?_
            refine e_cvX (pc := 59) (sp_x_handOf hO (mc_b1.mp c_50)) dX6_odds_59 kX6_121 rfl rfl rfl rfl rfl (mc_CR_of (Nat.le_of_ble_eq_true rfl) (Nat.le_of_ble_eq_true rfl) (Nat.le_refl _) (Nat.le_refl _)) (Nat.le_of_ble_eq_true rfl) (fun w1 hw1 => ?_)
            obtain ⟨u1, c1, hH, hk1, rfl⟩ := hw1
            refine e_asw7 (pc := 62) dX6_odds_62 (Nat.le_of_ble_eq_true rfl) rfl ?_
            refine e_aload (pc := 64) dX6_odds_64 rfl ?_
            refine e_iconst (v := 1) (pc := 66) dX6_odds_66 (by decide) ?_
            refine e_iload (pc := 67) dX6_odds_67 rfl ?_
            refine e_iconst (v := 0) (pc := 69) dX6_odds_69 (by decide) ?_
            refine e_cvX (pc := 70) (sp_x_says1 hH) dX6_odds_70 kX6_125 rfl rfl rfl rfl rfl (mc_CR_of (Nat.le_of_ble_eq_true rfl) (Nat.le_of_ble_eq_true rfl) (Nat.le_refl _) (Nat.le_refl _)) (Nat.le_of_ble_eq_true rfl) (fun w1 hw1 => ?_)
            obtain ⟨c2, hH2, hk2, hr2, rfl⟩ := hw1
            refine e_isw8 (pc := 73) dX6_odds_73 (Nat.le_of_ble_eq_true rfl) rfl ?_
            refine e_aload (pc := 75) dX6_odds_75 rfl ?_
            refine e_iload (pc := 77) dX6_odds_77 rfl ?_
            refine e_cvY (pc := 79) (sp_x_write hH2 (hH2.mk (wi_num (by simpa [mc_b0] using c_22)))) dX6_odds_79 kX6_135 rfl rfl rfl rfl rfl (mc_CR_of (Nat.le_of_ble_eq_true rfl) (Nat.le_of_ble_eq_true rfl) (Nat.le_refl _) (Nat.le_refl _)) (Nat.le_of_ble_eq_true rfl) (fun w1 hw1 => ?_)
            obtain ⟨u3, c3, hH3, hk3, hF3, rfl⟩ := hw1
            refine e_aload (pc := 82) dX6_odds_82 rfl ?_
            refine e_cvD (pc := 84) (sp_x_readHim hH3 hF3) dX6_odds_84 kX6_202 rfl rfl rfl rfl rfl (mc_CR_of (Nat.le_of_ble_eq_true rfl) (Nat.le_of_ble_eq_true rfl) (Nat.le_refl _) (Nat.le_refl _)) (Nat.le_of_ble_eq_true rfl) ?_
            refine e_lsw9 (pc := 87) dX6_odds_87 (Nat.le_of_ble_eq_true rfl) rfl ?_
            refine e_iconst (v := 0) (pc := 89) dX6_odds_89 (by decide) ?_
            refine e_isw11 (pc := 90) dX6_odds_90 (Nat.le_of_ble_eq_true rfl) rfl ?_
            refine e_iconst (v := 0) (pc := 92) dX6_odds_92 (by decide) ?_
            refine e_isw12 (pc := 93) dX6_odds_93 (Nat.le_of_ble_eq_true rfl) rfl ?_
            have q1 : mc_wi sd 0 99999 = true := by simpa [mc_b0] using c_4
            have q2 : mc_wi sn 1 60 = true := by simpa [mc_b0] using c_14
            have q3 : mc_wi v 0 99999 = true := by simpa [mc_b0] using c_22
            have q4 : mc_wi p 0 1 = true := by simpa [mc_b0] using c_30
            have q5 := mc_b1.mp c_50
            have hb := mc_wi_iff.mp q2
            rw [i1, show (60 : Int32).toInt = 60 from rfl] at hb
            obtain ⟨N, hN⟩ : ∃ N, sn.toNatClampNeg = N := ⟨_, rfl⟩
            have t := tnc (x := sn) (by omega)
            have ey : sn = nI N := by rw [← hN]; exact nI_back (by omega)
            have eo : xodds s a (sg (tl s)) sd sn k v p = ylow (xodc s a (sg (tl s)) sd sn k v) N p := by unfold xodds; rw [if_neg (by rw [q1, q2, q3, q4, q5]; decide), hN]
            rw [eo]
            subst ey
            exact lp_x_odds hO.2.2.2.2.2.1 q3 q4 (by omega) (by omega) N 0 0 u3 c3 hH3 ((hk1.trans hk2).trans hk3) (by omega) (by omega) (by unfold xodc; rw [hN]; rfl)
          · skip
            refine e_ldc2 (pc := 53) dX6_odds_53 qX6_302 ?_
            exact e_lret (pc := 56) dX6_odds_56 rfl (Nat.le_refl _) (Nat.le_refl _) ⟨by unfold xodds; rw [if_pos (by rw [mc_b0.mp c_50]; simp)], u, c, h, hO.2.2.2.2.2.1, rfl⟩
end Zj_6c_x13
section Zj_6d_x14
/-! ===== books ===== -/
/-- the sizes of the sheets -/
def xS (s : Nat → Int32) : Prop := ∀ k, k < 4 → 0 ≤ (s (12 + 2 * k)).toInt ∧ (s (12 + 2 * k)).toInt ≤ 40
/-- the numbers of sheet k -/
def xrow (s : Nat → Int32) (a : Nat → List Int32) (k : Nat) : List Int32 := (a (5 + k)).take (s (12 + 2 * k)).toNatClampNeg
theorem xrow_len {s : Nat → Int32} {a : Nat → List Int32} {k : Nat} (hk : k < 4) (hL : xL a) (hS : xS s) : s (12 + 2 * k) = nI (xrow s a k).length ∧ (xrow s a k).length ≤ 40 := by
  have h := hS k hk
  have t := tnc h.1
  unfold xrow
  rw [List.length_take, hL.2.2.2.2.2 k hk]
  refine ⟨?_, by omega⟩
  rw [show min (s (12 + 2 * k)).toNatClampNeg 40 = (s (12 + 2 * k)).toNatClampNeg by omega]
  exact nI_back h.1
theorem xrow_get {s : Nat → Int32} {a : Nat → List Int32} {k i : Nat} (hk : k < 4) (hL : xL a) (hS : xS s) (hi : i < (xrow s a k).length) : xat a s k (nI i) = (xrow s a k).getD i 0 := by
  have h := xrow_len hk hL hS
  have ti := nI_toInt (n := i) (by omega)
  have e : xhas (nI i) (s (12 + 2 * k)) = true := by
    rw [h.1]
    unfold xhas
    simp only [Bool.and_eq_true, decide_eq_true_eq, Int32.le_iff_toInt_le, Int32.lt_iff_toInt_lt, i0, show (40 : Int32).toInt = 40 from rfl, ti, nI_toInt (n := (xrow s a k).length) (by omega)]
    omega
  unfold xat
  rw [if_pos e, nIc (by omega)]
  unfold xrow at hi ⊢
  rw [List.getD_eq_getElem?_getD, List.getD_eq_getElem?_getD, List.getElem?_take, if_pos (by rw [List.length_take] at hi; omega)]
theorem drop_g {l : List Int32} {i : Nat} (h : i < l.length) : l.drop i = l.getD i 0 :: l.drop (i + 1) := by
  rw [List.drop_eq_getElem_cons h, List.getD_eq_getElem?_getD, List.getElem?_eq_getElem h]; rfl
theorem drop_e {l : List Int32} : l.drop l.length = [] := List.drop_eq_nil_of_le (Nat.le_refl _)
theorem sp_x_sizeR {s u m n : Nat → Int32} {a c b d : Nat → List Int32} {q : List (Option Nat)} {h : Nat} {z : mc_W} {k : Nat} (hk : k < 4) (hL : xL a) (hS : xS s) : mc_D yX3_size cX3_size 1 (some .int) 1 [.ref (21 + 2 * k)] (WW s a q u c h m b n d z) (some (.int (nI (xrow s a k).length))) (WW s a q u c h m b n d z) := by
  rw [← (xrow_len hk hL hS).1]
  exact sp_x_size hk
theorem sp_x_atR {s u m n : Nat → Int32} {a c b d : Nat → List Int32} {q : List (Option Nat)} {h : Nat} {z : mc_W} {k : Nat} (hk : k < 4) (hL : xL a) (hS : xS s) {i : Nat} (hi : i < (xrow s a k).length) : mc_D yX3_at cX3_at 2 (some .int) 2 [.ref (21 + 2 * k), .int (nI i)] (WW s a q u c h m b n d z) (some (.int ((xrow s a k).getD i 0))) (WW s a q u c h m b n d z) := by
  rw [← xrow_get hk hL hS hi]
  exact sp_x_at hk hL
def xbw (s : Nat → Int32) (a : Nat → List Int32) (k : Nat) : Int32 := if xmis s k = true then -11 else if (xrow s a k).all ynum = true then 0 else -2
theorem lp_x_refBook {s u m n : Nat → Int32} {a c b d : Nat → List Int32} {q : List (Option Nat)} {h : Nat} {z : mc_W} {k : Nat} (hk : k < 4) (hL : xL a) (hS : xS s) :
    ∀ (f i : Nat), i + f = (xrow s a k).length →
      mc_E RX6 cX6_refusalOfBook 5 (mc_JM (some .int) false 5 0 0 (fun r' w' => r' = some (.int (if ((xrow s a k).drop i).all ynum = true then 0 else -2)) ∧ w' = (WW s a q u c h m b n d z))) 21 [some (.ref 0), some (.int (nI k)), some (.int 0), some (.ref (21 + 2 * k)), some (.int (nI i))] [] (WW s a q u c h m b n d z) 0 0 := by
  have hl40 := (xrow_len hk hL hS).2
  intro f
  induction f with
  | zero =>
    intro i hi
    have e : i = (xrow s a k).length := by omega
    subst e
    rw [drop_e]
    refine e_iload (pc := 21) dX6_refusalOfBook_21 rfl ?_
    refine e_aloadn (pc := 23) dX6_refusalOfBook_23 rfl ?_
    refine e_cvD (pc := 24) (sp_x_sizeR hk hL hS) dX6_refusalOfBook_24 kX6_198 (WW_sh hk) rfl rfl rfl rfl (mc_CR_of (Nat.le_of_ble_eq_true rfl) (Nat.le_of_ble_eq_true rfl) (Nat.le_refl _) (Nat.le_refl _)) (Nat.le_of_ble_eq_true rfl) ?_
    refine e_icmp_ge (pc := 27) dX6_refusalOfBook_27 (t := 51) (by decide) (fun _ => ?_) (fun c_27 => absurd (nI_le (Nat.le_refl _) (by omega)) c_27)
    refine e_iconst (v := 0) (pc := 51) dX6_refusalOfBook_51 (by decide) ?_
    exact e_iret (pc := 52) dX6_refusalOfBook_52 rfl (Nat.le_refl _) (Nat.le_refl _) ⟨rfl, rfl⟩
  | succ f ih =>
    intro i hi
    have hi2 : i < (xrow s a k).length := by omega
    rw [drop_g hi2, List.all_cons]
    refine e_iload (pc := 21) dX6_refusalOfBook_21 rfl ?_
    refine e_aloadn (pc := 23) dX6_refusalOfBook_23 rfl ?_
    refine e_cvD (pc := 24) (sp_x_sizeR hk hL hS) dX6_refusalOfBook_24 kX6_198 (WW_sh hk) rfl rfl rfl rfl (mc_CR_of (Nat.le_of_ble_eq_true rfl) (Nat.le_of_ble_eq_true rfl) (Nat.le_refl _) (Nat.le_refl _)) (Nat.le_of_ble_eq_true rfl) ?_
    refine e_icmp_ge (pc := 27) dX6_refusalOfBook_27 (t := 51) (by decide) (fun c_27 => absurd c_27 (nI_ge hi2 (by omega))) (fun _ => ?_)
    refine e_aloadn (pc := 30) dX6_refusalOfBook_30 rfl ?_
    refine e_iload (pc := 31) dX6_refusalOfBook_31 rfl ?_
    refine e_cvD (pc := 33) (sp_x_atR hk hL hS hi2) dX6_refusalOfBook_33 kX6_199 (WW_sh hk) rfl rfl rfl rfl (mc_CR_of (Nat.le_of_ble_eq_true rfl) (Nat.le_of_ble_eq_true rfl) (Nat.le_refl _) (Nat.le_refl _)) (Nat.le_of_ble_eq_true rfl) ?_
    refine e_csD (pc := 36) (sp_isNumber) dX6_refusalOfBook_36 kX6_118 rfl rfl (mc_CR_of (Nat.le_of_ble_eq_true rfl) (Nat.le_of_ble_eq_true rfl) (Nat.le_refl _) (Nat.le_refl _)) (Nat.le_of_ble_eq_true rfl) ?_
    refine e_if_ne (pc := 39) dX6_refusalOfBook_39 (t := 45) (by decide) (fun c_39 => ?_) (fun c_39 => ?_)
    · skip
      refine e_incC4 (pc := 45) dX6_refusalOfBook_45 (nI_1 i) (Nat.le_of_ble_eq_true rfl) rfl ?_
      refine e_goto (pc := 48) dX6_refusalOfBook_48 (t := 21) (by decide) ?_
      rw [show ynum ((xrow s a k).getD i 0) = true from mc_b1.mp c_39, Bool.true_and]
      exact ih (i + 1) (by omega)
    · skip
      refine e_bipush (v := -2) (pc := 42) dX6_refusalOfBook_42 (by decide) ?_
      exact e_iret (pc := 44) dX6_refusalOfBook_44 rfl (Nat.le_refl _) (Nat.le_refl _) ⟨by rw [show ynum ((xrow s a k).getD i 0) = false from mc_b0.mp c_39]; rfl, rfl⟩
theorem sp_x_refBook {s u m n : Nat → Int32} {a c b d : Nat → List Int32} {q : List (Option Nat)} {h : Nat} {z : mc_W} {k : Nat} (hk : k < 4) (hL : xL a) (hS : xS s) : mc_D yX6_refusalOfBook cX6_refusalOfBook 5 (some .int) 5 [.ref 0, .int (nI k)] (WW s a q u c h m b n d z) (some (.int (xbw s a k))) (WW s a q u c h m b n d z) := by
  refine mc_start (own := RX6) (ini := false) rfl (by decide +kernel) (fun h => by cases h) (Nat.le_of_ble_eq_true rfl) ?_
  show mc_E _ _ _ _ _ [some (.ref 0), some (.int (nI k)), none, none, none] [] _ _ _
  refine e_aloadn (pc := 0) dX6_refusalOfBook_0 rfl ?_
  refine e_iloadn (pc := 1) dX6_refusalOfBook_1 rfl ?_
  refine e_cvD (pc := 2) (sp_x_refSheet hk) dX6_refusalOfBook_2 kX6_228 rfl rfl rfl rfl rfl (mc_CR_of (Nat.le_of_ble_eq_true rfl) (Nat.le_of_ble_eq_true rfl) (Nat.le_refl _) (Nat.le_refl _)) (Nat.le_of_ble_eq_true rfl) ?_
  refine e_isn2 (pc := 5) dX6_refusalOfBook_5 (Nat.le_of_ble_eq_true rfl) rfl ?_
  refine e_iloadn (pc := 6) dX6_refusalOfBook_6 rfl ?_
  refine e_if_eq (pc := 7) dX6_refusalOfBook_7 (t := 12) (by decide) (fun c_7 => ?_) (fun c_7 => ?_)
  · skip
    refine e_aloadn (pc := 12) dX6_refusalOfBook_12 rfl ?_
    refine e_iloadn (pc := 13) dX6_refusalOfBook_13 rfl ?_
    refine e_cvD (pc := 14) (sp_x_sheetAt hk) dX6_refusalOfBook_14 kX6_171 rfl rfl rfl rfl rfl (mc_CR_of (Nat.le_of_ble_eq_true rfl) (Nat.le_of_ble_eq_true rfl) (Nat.le_refl _) (Nat.le_refl _)) (Nat.le_of_ble_eq_true rfl) ?_
    refine e_asn3 (pc := 17) dX6_refusalOfBook_17 (Nat.le_of_ble_eq_true rfl) rfl ?_
    refine e_iconst (v := 0) (pc := 18) dX6_refusalOfBook_18 (by decide) ?_
    refine e_isw4 (pc := 19) dX6_refusalOfBook_19 (Nat.le_of_ble_eq_true rfl) rfl ?_
    have hm : ¬ xmis s k = true := fun q => by rw [if_pos q] at c_7; exact absurd c_7 (by decide)
    have eb : xbw s a k = if ((xrow s a k).drop 0).all ynum = true then 0 else -2 := if_neg hm
    rw [eb, if_neg hm]
    exact lp_x_refBook hk hL hS (xrow s a k).length 0 (by omega)
  · skip
    refine e_iloadn (pc := 10) dX6_refusalOfBook_10 rfl ?_
    exact e_iret (pc := 11) dX6_refusalOfBook_11 rfl (Nat.le_refl _) (Nat.le_refl _) ⟨by unfold xbw; by_cases hm : xmis s k = true <;> simp_all, rfl⟩
theorem sp_x_refBook0 {s u m n : Nat → Int32} {a c b d : Nat → List Int32} {q : List (Option Nat)} {h : Nat} {z : mc_W} {v : Int32} (hv : mc_wi v 0 3 = false) : mc_D yX6_refusalOfBook cX6_refusalOfBook 5 (some .int) 5 [.ref 0, .int v] (WW s a q u c h m b n d z) (some (.int (-2))) (WW s a q u c h m b n d z) := by
  refine mc_start (own := RX6) (ini := false) rfl (by decide +kernel) (fun h => by cases h) (Nat.le_of_ble_eq_true rfl) ?_
  show mc_E _ _ _ _ _ [some (.ref 0), some (.int v), none, none, none] [] _ _ _
  refine e_aloadn (pc := 0) dX6_refusalOfBook_0 rfl ?_
  refine e_iloadn (pc := 1) dX6_refusalOfBook_1 rfl ?_
  refine e_cvD (pc := 2) (sp_x_refSheet0 hv) dX6_refusalOfBook_2 kX6_228 rfl rfl rfl rfl rfl (mc_CR_of (Nat.le_of_ble_eq_true rfl) (Nat.le_of_ble_eq_true rfl) (Nat.le_refl _) (Nat.le_refl _)) (Nat.le_of_ble_eq_true rfl) ?_
  refine e_isn2 (pc := 5) dX6_refusalOfBook_5 (Nat.le_of_ble_eq_true rfl) rfl ?_
  refine e_iloadn (pc := 6) dX6_refusalOfBook_6 rfl ?_
  refine e_if_eq (pc := 7) dX6_refusalOfBook_7 (t := 12) (by decide) (fun c_7 => absurd c_7 (by decide)) (fun _ => ?_)
  refine e_iloadn (pc := 10) dX6_refusalOfBook_10 rfl ?_
  exact e_iret (pc := 11) dX6_refusalOfBook_11 rfl (Nat.le_refl _) (Nat.le_refl _) ⟨rfl, rfl⟩
def xbwy (s : Nat → Int32) (a : Nat → List Int32) (k : Nat) (j : Int32) : Int32 := if ¬ xbw s a k = 0 then xbw s a k else if mc_wi j 0 (s 2 - 1) = true then 0 else -5
theorem sp_x_refBookBy {s u m n : Nat → Int32} {a c b d : Nat → List Int32} {q : List (Option Nat)} {h : Nat} {z : mc_W} {k : Nat} (hk : k < 4) (hL : xL a) (hS : xS s) {j : Int32} (hC : yC s) : mc_D yX6_refusalOfBookBy cX6_refusalOfBookBy 4 (some .int) 6 [.ref 0, .int (nI k), .int j] (WW s a q u c h m b n d z) (some (.int (xbwy s a k j))) (WW s a q u c h m b n d z) := by
  refine mc_start (own := RX6) (ini := false) rfl (by decide +kernel) (fun h => by cases h) (Nat.le_of_ble_eq_true rfl) ?_
  show mc_E _ _ _ _ _ [some (.ref 0), some (.int (nI k)), some (.int j), none] [] _ _ _
  refine e_aloadn (pc := 0) dX6_refusalOfBookBy_0 rfl ?_
  refine e_iloadn (pc := 1) dX6_refusalOfBookBy_1 rfl ?_
  refine e_cvD (pc := 2) (sp_x_refBook hk hL hS) dX6_refusalOfBookBy_2 kX6_168 rfl rfl rfl rfl rfl (mc_CR_of (Nat.le_of_ble_eq_true rfl) (Nat.le_of_ble_eq_true rfl) (Nat.le_refl _) (Nat.le_refl _)) (Nat.le_of_ble_eq_true rfl) ?_
  refine e_isn3 (pc := 5) dX6_refusalOfBookBy_5 (Nat.le_of_ble_eq_true rfl) rfl ?_
  refine e_iloadn (pc := 6) dX6_refusalOfBookBy_6 rfl ?_
  refine e_if_eq (pc := 7) dX6_refusalOfBookBy_7 (t := 12) (by decide) (fun c_7 => ?_) (fun c_7 => ?_)
  · skip
    refine e_aloadn (pc := 12) dX6_refusalOfBookBy_12 rfl ?_
    refine e_iloadn (pc := 13) dX6_refusalOfBookBy_13 rfl ?_
    refine e_cvD (pc := 14) (sp_x_isClerk hC) dX6_refusalOfBookBy_14 kX6_115 rfl rfl rfl rfl rfl (mc_CR_of (Nat.le_of_ble_eq_true rfl) (Nat.le_of_ble_eq_true rfl) (Nat.le_refl _) (Nat.le_refl _)) (Nat.le_of_ble_eq_true rfl) ?_
    refine e_if_eq (pc := 17) dX6_refusalOfBookBy_17 (t := 24) (by decide) (fun c_17 => ?_) (fun c_17 => ?_)
    · skip
      refine e_bipush (v := -5) (pc := 24) dX6_refusalOfBookBy_24 (by decide) ?_
      exact e_iret (pc := 26) dX6_refusalOfBookBy_26 rfl (Nat.le_refl _) (Nat.le_refl _) ⟨by simp_all [xbwy, mc_b0, mc_b1], rfl⟩
    · skip
      refine e_iconst (v := 0) (pc := 20) dX6_refusalOfBookBy_20 (by decide) ?_
      refine e_goto (pc := 21) dX6_refusalOfBookBy_21 (t := 26) (by decide) ?_
      exact e_iret (pc := 26) dX6_refusalOfBookBy_26 rfl (Nat.le_refl _) (Nat.le_refl _) ⟨by simp_all [xbwy, mc_b0, mc_b1], rfl⟩
  · skip
    refine e_iloadn (pc := 10) dX6_refusalOfBookBy_10 rfl ?_
    exact e_iret (pc := 11) dX6_refusalOfBookBy_11 rfl (Nat.le_refl _) (Nat.le_refl _) ⟨by simp_all [xbwy, mc_b0, mc_b1], rfl⟩
theorem sp_x_refBookBy0 {s u m n : Nat → Int32} {a c b d : Nat → List Int32} {q : List (Option Nat)} {h : Nat} {z : mc_W} {v j : Int32} (hv : mc_wi v 0 3 = false) : mc_D yX6_refusalOfBookBy cX6_refusalOfBookBy 4 (some .int) 6 [.ref 0, .int v, .int j] (WW s a q u c h m b n d z) (some (.int (-2))) (WW s a q u c h m b n d z) := by
  refine mc_start (own := RX6) (ini := false) rfl (by decide +kernel) (fun h => by cases h) (Nat.le_of_ble_eq_true rfl) ?_
  show mc_E _ _ _ _ _ [some (.ref 0), some (.int v), some (.int j), none] [] _ _ _
  refine e_aloadn (pc := 0) dX6_refusalOfBookBy_0 rfl ?_
  refine e_iloadn (pc := 1) dX6_refusalOfBookBy_1 rfl ?_
  refine e_cvD (pc := 2) (sp_x_refBook0 hv) dX6_refusalOfBookBy_2 kX6_168 rfl rfl rfl rfl rfl (mc_CR_of (Nat.le_of_ble_eq_true rfl) (Nat.le_of_ble_eq_true rfl) (Nat.le_refl _) (Nat.le_refl _)) (Nat.le_of_ble_eq_true rfl) ?_
  refine e_isn3 (pc := 5) dX6_refusalOfBookBy_5 (Nat.le_of_ble_eq_true rfl) rfl ?_
  refine e_iloadn (pc := 6) dX6_refusalOfBookBy_6 rfl ?_
  refine e_if_eq (pc := 7) dX6_refusalOfBookBy_7 (t := 12) (by decide) (fun c_7 => absurd c_7 (by decide)) (fun _ => ?_)
  refine e_iloadn (pc := 10) dX6_refusalOfBookBy_10 rfl ?_
  exact e_iret (pc := 11) dX6_refusalOfBookBy_11 rfl (Nat.le_refl _) (Nat.le_refl _) ⟨rfl, rfl⟩
theorem xbw_num {s : Nat → Int32} {a : Nat → List Int32} {k : Nat} (h : xbw s a k = 0) : ∀ i, i < (xrow s a k).length → mc_wi ((xrow s a k).getD i 0) 0 99999 = true := by
  intro i hi
  unfold xbw at h
  by_cases hm : xmis s k = true
  · rw [if_pos hm] at h; exact absurd h (by decide)
  · rw [if_neg hm] at h
    by_cases ha : (xrow s a k).all ynum = true
    · rw [List.getD_eq_getElem?_getD, List.getElem?_eq_getElem hi]
      exact List.all_eq_true.mp ha _ (List.getElem_mem hi)
    · rw [if_neg ha] at h; exact absurd h (by decide)
theorem xbwy_0 {s : Nat → Int32} {a : Nat → List Int32} {k : Nat} {j : Int32} (h : xbwy s a k j = 0) : xbw s a k = 0 ∧ mc_wi j 0 (s 2 - 1) = true := by
  unfold xbwy at h
  by_cases h0 : xbw s a k = 0
  · rw [if_neg (fun q => q h0)] at h
    refine ⟨h0, ?_⟩
    by_cases hc : mc_wi j 0 (s 2 - 1) = true
    · exact hc
    · rw [if_neg hc] at h; exact absurd h (by decide)
  · rw [if_pos h0] at h; exact absurd h h0
theorem lp_x_made {s u m n : Nat → Int32} {a b d : Nat → List Int32} {q : List (Option Nat)} {h : Nat} {z : mc_W} {c0 : Nat → List Int32} {K mo nu ba ye : Int32} {sg : Nat → List Int32} {k : Nat} (hk : k < 4) (hL : xL a) (hS : xS s) {V : Int64} :
    ∀ (f i : Nat) (S : Int64) (c : Nat → List Int32), xHd q z h u c K mo nu ba ye sg → xKc c0 c → i + f = (xrow s a k).length → ((xrow s a k).drop i).foldl (fun S v => S + (hmk K mo nu ba ye sg v).toInt64) S = V →
      mc_E RX6 cX6_madeOf 5 (mc_JM (some .long) false 6 0 0 (fun r' w' => r' = some (.long V) ∧ ∃ c1, xHd q z h u c1 K mo nu ba ye sg ∧ xKc c0 c1 ∧ w' = (WW s a q u c1 h m b n d z))) 5 [some (.ref (21 + 2 * k)), some (.ref 17), some (.long S), none, some (.int (nI i))] [] (WW s a q u c h m b n d z) 0 0 := by
  have hl40 := (xrow_len hk hL hS).2
  intro f
  induction f with
  | zero =>
    intro i S c hH hk0 hi hV
    have e : i = (xrow s a k).length := by omega
    subst e
    rw [drop_e] at hV
    subst hV
    refine e_iload (pc := 5) dX6_madeOf_5 rfl ?_
    refine e_aloadn (pc := 7) dX6_madeOf_7 rfl ?_
    refine e_cvD (pc := 8) (sp_x_sizeR hk hL hS) dX6_madeOf_8 kX6_198 (WW_sh hk) rfl rfl rfl rfl (mc_CR_of (Nat.le_of_ble_eq_true rfl) (Nat.le_of_ble_eq_true rfl) (Nat.le_refl _) (Nat.le_refl _)) (Nat.le_of_ble_eq_true rfl) ?_
    refine e_icmp_ge (pc := 11) dX6_madeOf_11 (t := 34) (by decide) (fun _ => ?_) (fun c_11 => absurd (nI_le (Nat.le_refl _) (by omega)) c_11)
    refine e_lloadn (pc := 34) dX6_madeOf_34 rfl ?_
    exact e_lret (pc := 35) dX6_madeOf_35 rfl (Nat.le_refl _) (Nat.le_refl _) ⟨rfl, c, hH, hk0, rfl⟩
  | succ f ih =>
    intro i S c hH hk0 hi hV
    have hi2 : i < (xrow s a k).length := by omega
    rw [drop_g hi2, List.foldl_cons] at hV
    refine e_iload (pc := 5) dX6_madeOf_5 rfl ?_
    refine e_aloadn (pc := 7) dX6_madeOf_7 rfl ?_
    refine e_cvD (pc := 8) (sp_x_sizeR hk hL hS) dX6_madeOf_8 kX6_198 (WW_sh hk) rfl rfl rfl rfl (mc_CR_of (Nat.le_of_ble_eq_true rfl) (Nat.le_of_ble_eq_true rfl) (Nat.le_refl _) (Nat.le_refl _)) (Nat.le_of_ble_eq_true rfl) ?_
    refine e_icmp_ge (pc := 11) dX6_madeOf_11 (t := 34) (by decide) (fun c_11 => absurd c_11 (nI_ge hi2 (by omega))) (fun _ => ?_)
    refine e_lloadn (pc := 14) dX6_madeOf_14 rfl ?_
    refine e_aloadn (pc := 15) dX6_madeOf_15 rfl ?_
    refine e_aloadn (pc := 16) dX6_madeOf_16 rfl ?_
    refine e_iload (pc := 17) dX6_madeOf_17 rfl ?_
    refine e_cvD (pc := 19) (sp_x_atR hk hL hS hi2) dX6_madeOf_19 kX6_199 (WW_sh hk) rfl rfl rfl rfl (mc_CR_of (Nat.le_of_ble_eq_true rfl) (Nat.le_of_ble_eq_true rfl) (Nat.le_refl _) (Nat.le_refl _)) (Nat.le_of_ble_eq_true rfl) ?_
    refine e_cvX (pc := 22) (sp_x_makes hH) dX6_madeOf_22 kX6_157 rfl rfl rfl rfl rfl (mc_CR_of (Nat.le_of_ble_eq_true rfl) (Nat.le_of_ble_eq_true rfl) (Nat.le_refl _) (Nat.le_refl _)) (Nat.le_of_ble_eq_true rfl) (fun w1 hw1 => ?_)
    obtain ⟨c1, hH1, hk1, -, rfl⟩ := hw1
    refine e_i2l (pc := 25) dX6_madeOf_25 ?_
    refine e_ladd (pc := 26) dX6_madeOf_26 ?_
    refine e_lsn2 (pc := 27) dX6_madeOf_27 (Nat.le_of_ble_eq_true rfl) rfl ?_
    refine e_incC4 (pc := 28) dX6_madeOf_28 (nI_1 i) (Nat.le_of_ble_eq_true rfl) rfl ?_
    refine e_goto (pc := 31) dX6_madeOf_31 (t := 5) (by decide) ?_
    exact ih (i + 1) _ c1 hH1 (hk0.trans hk1) (by omega) hV
theorem sp_x_made {s u m n : Nat → Int32} {a c b d : Nat → List Int32} {q : List (Option Nat)} {h : Nat} {z : mc_W} {K mo nu ba ye : Int32} {sg : Nat → List Int32} (hH : xHd q z h u c K mo nu ba ye sg) {k : Nat} (hk : k < 4) (hL : xL a) (hS : xS s) : mc_T yX6_madeOf cX6_madeOf 5 (some .long) 6 [.ref (21 + 2 * k), .ref 17] (WW s a q u c h m b n d z) (some (.long ((xrow s a k).foldl (fun S v => S + (hmk K mo nu ba ye sg v).toInt64) 0))) (fun w1 => ∃ c1, xHd q z h u c1 K mo nu ba ye sg ∧ xKc c c1 ∧ w1 = (WW s a q u c1 h m b n d z)) := by
  refine mc_start (own := RX6) (ini := false) rfl (by decide +kernel) (fun h => by cases h) (Nat.le_of_ble_eq_true rfl) ?_
  show mc_E _ _ _ _ _ [some (.ref (21 + 2 * k)), some (.ref 17), none, none, none] [] _ _ _
  refine e_lconst (v := 0) (pc := 0) dX6_madeOf_0 (by decide) ?_
  refine e_lsn2 (pc := 1) dX6_madeOf_1 (Nat.le_of_ble_eq_true rfl) rfl ?_
  refine e_iconst (v := 0) (pc := 2) dX6_madeOf_2 (by decide) ?_
  refine e_isw4 (pc := 3) dX6_madeOf_3 (Nat.le_of_ble_eq_true rfl) rfl ?_
  exact lp_x_made hk hL hS (xrow s a k).length 0 0 c hH (xKc_refl c) (by omega) rfl
theorem lp_x_ours {s u m n : Nat → Int32} {a c b d : Nat → List Int32} {q : List (Option Nat)} {h : Nat} {z : mc_W} {k : Nat} (hk : k < 4) (hL : xL a) (hS : xS s) {V : Int64} :
    ∀ (f i : Nat) (S : Int64), i + f = (xrow s a k).length → ((xrow s a k).drop i).foldl (fun S v => S + v.toInt64) S = V →
      mc_E RX6 cX6_oursOf 4 (mc_JM (some .long) false 3 0 0 (fun r' w' => r' = some (.long V) ∧ w' = (WW s a q u c h m b n d z))) 4 [some (.ref (21 + 2 * k)), some (.long S), none, some (.int (nI i))] [] (WW s a q u c h m b n d z) 0 0 := by
  have hl40 := (xrow_len hk hL hS).2
  intro f
  induction f with
  | zero =>
    intro i S hi hV
    have e : i = (xrow s a k).length := by omega
    subst e
    rw [drop_e] at hV
    subst hV
    refine e_iloadn (pc := 4) dX6_oursOf_4 rfl ?_
    refine e_aloadn (pc := 5) dX6_oursOf_5 rfl ?_
    refine e_cvD (pc := 6) (sp_x_sizeR hk hL hS) dX6_oursOf_6 kX6_198 (WW_sh hk) rfl rfl rfl rfl (mc_CR_of (Nat.le_of_ble_eq_true rfl) (Nat.le_of_ble_eq_true rfl) (Nat.le_refl _) (Nat.le_refl _)) (Nat.le_of_ble_eq_true rfl) ?_
    refine e_icmp_ge (pc := 9) dX6_oursOf_9 (t := 27) (by decide) (fun _ => ?_) (fun c_9 => absurd (nI_le (Nat.le_refl _) (by omega)) c_9)
    refine e_lloadn (pc := 27) dX6_oursOf_27 rfl ?_
    exact e_lret (pc := 28) dX6_oursOf_28 rfl (Nat.le_refl _) (Nat.le_refl _) ⟨rfl, rfl⟩
  | succ f ih =>
    intro i S hi hV
    have hi2 : i < (xrow s a k).length := by omega
    rw [drop_g hi2, List.foldl_cons] at hV
    refine e_iloadn (pc := 4) dX6_oursOf_4 rfl ?_
    refine e_aloadn (pc := 5) dX6_oursOf_5 rfl ?_
    refine e_cvD (pc := 6) (sp_x_sizeR hk hL hS) dX6_oursOf_6 kX6_198 (WW_sh hk) rfl rfl rfl rfl (mc_CR_of (Nat.le_of_ble_eq_true rfl) (Nat.le_of_ble_eq_true rfl) (Nat.le_refl _) (Nat.le_refl _)) (Nat.le_of_ble_eq_true rfl) ?_
    refine e_icmp_ge (pc := 9) dX6_oursOf_9 (t := 27) (by decide) (fun c_9 => absurd c_9 (nI_ge hi2 (by omega))) (fun _ => ?_)
    refine e_lloadn (pc := 12) dX6_oursOf_12 rfl ?_
    refine e_aloadn (pc := 13) dX6_oursOf_13 rfl ?_
    refine e_iloadn (pc := 14) dX6_oursOf_14 rfl ?_
    refine e_cvD (pc := 15) (sp_x_atR hk hL hS hi2) dX6_oursOf_15 kX6_199 (WW_sh hk) rfl rfl rfl rfl (mc_CR_of (Nat.le_of_ble_eq_true rfl) (Nat.le_of_ble_eq_true rfl) (Nat.le_refl _) (Nat.le_refl _)) (Nat.le_of_ble_eq_true rfl) ?_
    refine e_i2l (pc := 18) dX6_oursOf_18 ?_
    refine e_ladd (pc := 19) dX6_oursOf_19 ?_
    refine e_lsn1 (pc := 20) dX6_oursOf_20 (Nat.le_of_ble_eq_true rfl) rfl ?_
    refine e_incC3 (pc := 21) dX6_oursOf_21 (nI_1 i) (Nat.le_of_ble_eq_true rfl) rfl ?_
    refine e_goto (pc := 24) dX6_oursOf_24 (t := 4) (by decide) ?_
    exact ih (i + 1) _ (by omega) hV
theorem sp_x_ours {s u m n : Nat → Int32} {a c b d : Nat → List Int32} {q : List (Option Nat)} {h : Nat} {z : mc_W} {k : Nat} (hk : k < 4) (hL : xL a) (hS : xS s) : mc_D yX6_oursOf cX6_oursOf 4 (some .long) 3 [.ref (21 + 2 * k)] (WW s a q u c h m b n d z) (some (.long ((xrow s a k).foldl (fun S v => S + v.toInt64) 0))) (WW s a q u c h m b n d z) := by
  refine mc_start (own := RX6) (ini := false) rfl (by decide +kernel) (fun h => by cases h) (Nat.le_of_ble_eq_true rfl) ?_
  show mc_E _ _ _ _ _ [some (.ref (21 + 2 * k)), none, none, none] [] _ _ _
  refine e_lconst (v := 0) (pc := 0) dX6_oursOf_0 (by decide) ?_
  refine e_lsn1 (pc := 1) dX6_oursOf_1 (Nat.le_of_ble_eq_true rfl) rfl ?_
  refine e_iconst (v := 0) (pc := 2) dX6_oursOf_2 (by decide) ?_
  refine e_isn3 (pc := 3) dX6_oursOf_3 (Nat.le_of_ble_eq_true rfl) rfl ?_
  exact lp_x_ours hk hL hS (xrow s a k).length 0 0 (by omega) rfl
theorem lp_x_ffor {s m n : Nat → Int32} {a b d : Nat → List Int32} {q : List (Option Nat)} {h : Nat} {z : mc_W} {c0 : Nat → List Int32} {K mo nu ba ye : Int32} {sg : Nat → List Int32} {k : Nat} (hk : k < 4) (hL : xL a) (hS : xS s) {V : Int32} (hN : ∀ i, i < (xrow s a k).length → mc_wi ((xrow s a k).getD i 0) 0 99999 = true) :
    ∀ (f i : Nat) (S : Int32) (u : Nat → Int32) (c : Nat → List Int32), xHd q z h u c K mo nu ba ye sg → xKc c0 c → i + f = (xrow s a k).length → ((xrow s a k).drop i).foldl (fun S v => S + nI (hwr K mo nu ba ye sg v).length) S = V →
      mc_E RX6 cX6_figuresFor 4 (mc_JM (some .int) false 7 0 0 (fun r' w' => r' = some (.int V) ∧ ∃ u1 c1, xHd q z h u1 c1 K mo nu ba ye sg ∧ xKc c0 c1 ∧ w' = (WW s a q u1 c1 h m b n d z))) 4 [some (.ref (21 + 2 * k)), some (.ref 17), some (.int S), some (.int (nI i))] [] (WW s a q u c h m b n d z) 0 0 := by
  have hl40 := (xrow_len hk hL hS).2
  intro f
  induction f with
  | zero =>
    intro i S u c hH hk0 hi hV
    have e : i = (xrow s a k).length := by omega
    subst e
    rw [drop_e] at hV
    subst hV
    refine e_iloadn (pc := 4) dX6_figuresFor_4 rfl ?_
    refine e_aloadn (pc := 5) dX6_figuresFor_5 rfl ?_
    refine e_cvD (pc := 6) (sp_x_sizeR hk hL hS) dX6_figuresFor_6 kX6_198 (WW_sh hk) rfl rfl rfl rfl (mc_CR_of (Nat.le_of_ble_eq_true rfl) (Nat.le_of_ble_eq_true rfl) (Nat.le_refl _) (Nat.le_refl _)) (Nat.le_of_ble_eq_true rfl) ?_
    refine e_icmp_ge (pc := 9) dX6_figuresFor_9 (t := 34) (by decide) (fun _ => ?_) (fun c_9 => absurd (nI_le (Nat.le_refl _) (by omega)) c_9)
    refine e_iloadn (pc := 34) dX6_figuresFor_34 rfl ?_
    exact e_iret (pc := 35) dX6_figuresFor_35 rfl (Nat.le_refl _) (Nat.le_refl _) ⟨rfl, u, c, hH, hk0, rfl⟩
  | succ f ih =>
    intro i S u c hH hk0 hi hV
    have hi2 : i < (xrow s a k).length := by omega
    rw [drop_g hi2, List.foldl_cons] at hV
    refine e_iloadn (pc := 4) dX6_figuresFor_4 rfl ?_
    refine e_aloadn (pc := 5) dX6_figuresFor_5 rfl ?_
    refine e_cvD (pc := 6) (sp_x_sizeR hk hL hS) dX6_figuresFor_6 kX6_198 (WW_sh hk) rfl rfl rfl rfl (mc_CR_of (Nat.le_of_ble_eq_true rfl) (Nat.le_of_ble_eq_true rfl) (Nat.le_refl _) (Nat.le_refl _)) (Nat.le_of_ble_eq_true rfl) ?_
    refine e_icmp_ge (pc := 9) dX6_figuresFor_9 (t := 34) (by decide) (fun c_9 => absurd c_9 (nI_ge hi2 (by omega))) (fun _ => ?_)
    refine e_aloadn (pc := 12) dX6_figuresFor_12 rfl ?_
    refine e_aloadn (pc := 13) dX6_figuresFor_13 rfl ?_
    refine e_iloadn (pc := 14) dX6_figuresFor_14 rfl ?_
    refine e_cvD (pc := 15) (sp_x_atR hk hL hS hi2) dX6_figuresFor_15 kX6_199 (WW_sh hk) rfl rfl rfl rfl (mc_CR_of (Nat.le_of_ble_eq_true rfl) (Nat.le_of_ble_eq_true rfl) (Nat.le_refl _) (Nat.le_refl _)) (Nat.le_of_ble_eq_true rfl) ?_
    refine e_cvY (pc := 18) (sp_x_write hH (hH.mk (wi_num (hN i hi2)))) dX6_figuresFor_18 kX6_135 rfl rfl rfl rfl rfl (mc_CR_of (Nat.le_of_ble_eq_true rfl) (Nat.le_of_ble_eq_true rfl) (Nat.le_refl _) (Nat.le_refl _)) (Nat.le_of_ble_eq_true rfl) (fun w1 hw1 => ?_)
    obtain ⟨u1, c1, hH1, hk1, hF1, rfl⟩ := hw1
    refine e_iloadn (pc := 21) dX6_figuresFor_21 rfl ?_
    refine e_aloadn (pc := 22) dX6_figuresFor_22 rfl ?_
    refine e_cvD (pc := 23) (sp_x_many) dX6_figuresFor_23 kX6_138 rfl rfl rfl rfl rfl (mc_CR_of (Nat.le_of_ble_eq_true rfl) (Nat.le_of_ble_eq_true rfl) (Nat.le_refl _) (Nat.le_refl _)) (Nat.le_of_ble_eq_true rfl) ?_
    rw [hF1.1]
    refine e_iadd (pc := 26) dX6_figuresFor_26 ?_
    refine e_isn2 (pc := 27) dX6_figuresFor_27 (Nat.le_of_ble_eq_true rfl) rfl ?_
    refine e_incC3 (pc := 28) dX6_figuresFor_28 (nI_1 i) (Nat.le_of_ble_eq_true rfl) rfl ?_
    refine e_goto (pc := 31) dX6_figuresFor_31 (t := 4) (by decide) ?_
    exact ih (i + 1) _ u1 c1 hH1 (hk0.trans hk1) (by omega) hV
theorem sp_x_ffor {s u m n : Nat → Int32} {a c b d : Nat → List Int32} {q : List (Option Nat)} {h : Nat} {z : mc_W} {K mo nu ba ye : Int32} {sg : Nat → List Int32} (hH : xHd q z h u c K mo nu ba ye sg) {k : Nat} (hk : k < 4) (hL : xL a) (hS : xS s) (hN : ∀ i, i < (xrow s a k).length → mc_wi ((xrow s a k).getD i 0) 0 99999 = true) : mc_T yX6_figuresFor cX6_figuresFor 4 (some .int) 7 [.ref (21 + 2 * k), .ref 17] (WW s a q u c h m b n d z) (some (.int ((xrow s a k).foldl (fun S v => S + nI (hwr K mo nu ba ye sg v).length) 0))) (fun w1 => ∃ u1 c1, xHd q z h u1 c1 K mo nu ba ye sg ∧ xKc c c1 ∧ w1 = (WW s a q u1 c1 h m b n d z)) := by
  refine mc_start (own := RX6) (ini := false) rfl (by decide +kernel) (fun h => by cases h) (Nat.le_of_ble_eq_true rfl) ?_
  show mc_E _ _ _ _ _ [some (.ref (21 + 2 * k)), some (.ref 17), none, none] [] _ _ _
  refine e_iconst (v := 0) (pc := 0) dX6_figuresFor_0 (by decide) ?_
  refine e_isn2 (pc := 1) dX6_figuresFor_1 (Nat.le_of_ble_eq_true rfl) rfl ?_
  refine e_iconst (v := 0) (pc := 2) dX6_figuresFor_2 (by decide) ?_
  refine e_isn3 (pc := 3) dX6_figuresFor_3 (Nat.le_of_ble_eq_true rfl) rfl ?_
  exact lp_x_ffor hk hL hS hN (xrow s a k).length 0 0 u c hH (xKc_refl c) (by omega) rfl
end Zj_6d_x14
section Zj_6e_x15
/-! ===== book, who, smuggled, shortest ===== -/
def xmS (s : Nat → Int32) (a : Nat → List Int32) (sg : Nat → List Int32) (k : Nat) (j : Int32) : Int64 := (xrow s a k).foldl (fun S v => S + (hmk (gt (a 0) j) (gt (a 1) j) j (s 0) (s 1) sg v).toInt64) 0
def xoS (s : Nat → Int32) (a : Nat → List Int32) (k : Nat) : Int64 := (xrow s a k).foldl (fun S v => S + v.toInt64) 0
def xgr (x : Int64) : Int32 := (if 99999 < x then 99999 else x).toInt32
def xbook (s : Nat → Int32) (a : Nat → List Int32) (sg : Nat → List Int32) (k : Nat) (j w : Int32) : Int64 :=
  if ¬ xbw s a k = 0 then (xbw s a k).toInt64 else if mc_wi j 0 (s 2 - 1) = false then -5 else if mc_wi w 0 3 = false then -7
  else if w = 0 then xmS s a sg k j else if w = 1 then xoS s a k else if w = 2 then xabl (xmS s a sg k j - xoS s a k)
  else (xask s a sg 2 j (xgr (xoS s a k)) (xgr (xabl (xmS s a sg k j - xoS s a k)))).toInt64
theorem sp_x_book {s u m n : Nat → Int32} {a c b d : Nat → List Int32} {q : List (Option Nat)} {h : Nat} {z : mc_W} {T : Nat} {sg : Nat → Nat → List Int32} {k : Nat} (hk : k < 4) (hS : xS s) {j w : Int32} (hO : xOK s a q c z T sg) : mc_T yX6_book cX6_book 13 (some .long) 7 [.ref 0, .int (nI k), .int j, .int w] (WW s a q u c h m b n d z) (some (.long (xbook s a (sg (tl s)) k j w))) (fun w1 => ∃ u1 c1 h1, xC c1 ∧ w1 = (WW s a q u1 c1 h1 m b n d z)) := by
  refine mc_start (own := RX6) (ini := false) rfl (by decide +kernel) (fun h => by cases h) (Nat.le_of_ble_eq_true rfl) ?_
  show mc_E _ _ _ _ _ [some (.ref 0), some (.int (nI k)), some (.int j), some (.int w), none, none, none, none, none, none, none, none, none] [] _ _ _
  have hL := hO.1
  have hl40 := (xrow_len hk hL hS).2
  refine e_aloadn (pc := 0) dX6_book_0 rfl ?_
  refine e_iloadn (pc := 1) dX6_book_1 rfl ?_
  refine e_cvD (pc := 2) (sp_x_refBook hk hL hS) dX6_book_2 kX6_168 rfl rfl rfl rfl rfl (mc_CR_of (Nat.le_of_ble_eq_true rfl) (Nat.le_of_ble_eq_true rfl) (Nat.le_refl _) (Nat.le_refl _)) (Nat.le_of_ble_eq_true rfl) ?_
  refine e_isw4 (pc := 5) dX6_book_5 (Nat.le_of_ble_eq_true rfl) rfl ?_
  refine e_iload (pc := 7) dX6_book_7 rfl ?_
  refine e_if_eq (pc := 9) dX6_book_9 (t := 16) (by decide) (fun c_9 => ?_) (fun c_9 => ?_)
  · skip
    refine e_aloadn (pc := 16) dX6_book_16 rfl ?_
    refine e_iloadn (pc := 17) dX6_book_17 rfl ?_
    refine e_cvD (pc := 18) (sp_x_isClerk hO.2.1) dX6_book_18 kX6_115 rfl rfl rfl rfl rfl (mc_CR_of (Nat.le_of_ble_eq_true rfl) (Nat.le_of_ble_eq_true rfl) (Nat.le_refl _) (Nat.le_refl _)) (Nat.le_of_ble_eq_true rfl) ?_
    refine e_if_ne (pc := 21) dX6_book_21 (t := 28) (by decide) (fun c_21 => ?_) (fun c_21 => ?_)
    · skip
      refine e_iloadn (pc := 28) dX6_book_28 rfl ?_
      refine e_iconst (v := 0) (pc := 29) dX6_book_29 (by decide) ?_
      refine e_iconst (v := 3) (pc := 30) dX6_book_30 (by decide) ?_
      refine e_csD (pc := 31) (sp_isWithin) dX6_book_31 kX6_86 rfl rfl (mc_CR_of (Nat.le_of_ble_eq_true rfl) (Nat.le_of_ble_eq_true rfl) (Nat.le_refl _) (Nat.le_refl _)) (Nat.le_of_ble_eq_true rfl) ?_
      refine e_if_ne (pc := 34) dX6_book_34 (t := 41) (by decide) (fun c_34 => ?_) (fun c_34 => ?_)
      · skip
        refine e_aloadn (pc := 41) dX6_book_41 rfl ?_
        refine e_iloadn (pc := 42) dX6_book_42 rfl ?_
        refine e_cvD (pc := 43) (sp_x_sheetAt hk) dX6_book_43 kX6_171 rfl rfl rfl rfl rfl (mc_CR_of (Nat.le_of_ble_eq_true rfl) (Nat.le_of_ble_eq_true rfl) (Nat.le_refl _) (Nat.le_refl _)) (Nat.le_of_ble_eq_true rfl) ?_
        refine e_asw5 (pc := 46) dX6_book_46 (Nat.le_of_ble_eq_true rfl) rfl ?_
        refine e_aloadn (pc := 48) dX6_book_48 rfl ?_
        refine e_iloadn (pc := 49) dX6_book_49 rfl ?_
        refine e_cvX (pc := 50) (sp_x_handOf hO (mc_b1.mp c_21)) dX6_book_50 kX6_121 rfl rfl rfl rfl rfl (mc_CR_of (Nat.le_of_ble_eq_true rfl) (Nat.le_of_ble_eq_true rfl) (Nat.le_refl _) (Nat.le_refl _)) (Nat.le_of_ble_eq_true rfl) (fun w1 hw1 => ?_)
        obtain ⟨u1, c1, hH, hk1, rfl⟩ := hw1
        refine e_asw6 (pc := 53) dX6_book_53 (Nat.le_of_ble_eq_true rfl) rfl ?_
        refine e_aload (pc := 55) dX6_book_55 rfl ?_
        refine e_aload (pc := 57) dX6_book_57 rfl ?_
        refine e_csX (pc := 59) (sp_x_made hH hk hL hS) dX6_book_59 kX6_175 rfl rfl (mc_CR_of (Nat.le_of_ble_eq_true rfl) (Nat.le_of_ble_eq_true rfl) (Nat.le_refl _) (Nat.le_refl _)) (Nat.le_of_ble_eq_true rfl) (fun w1 hw1 => ?_)
        obtain ⟨c2, hH2, hk2, rfl⟩ := hw1
        refine e_lsw7 (pc := 62) dX6_book_62 (Nat.le_of_ble_eq_true rfl) rfl ?_
        refine e_aload (pc := 64) dX6_book_64 rfl ?_
        refine e_csD (pc := 66) (sp_x_ours hk hL hS) dX6_book_66 kX6_179 rfl rfl (mc_CR_of (Nat.le_of_ble_eq_true rfl) (Nat.le_of_ble_eq_true rfl) (Nat.le_refl _) (Nat.le_refl _)) (Nat.le_of_ble_eq_true rfl) ?_
        refine e_lsw9 (pc := 69) dX6_book_69 (Nat.le_of_ble_eq_true rfl) rfl ?_
        refine e_lload (pc := 71) dX6_book_71 rfl ?_
        refine e_lload (pc := 73) dX6_book_73 rfl ?_
        refine e_lsub (pc := 75) dX6_book_75 ?_
        refine e_absl (pc := 76) dX6_book_76 mX6_183 (mc_JR_of (Nat.le_of_ble_eq_true rfl) (Nat.le_refl _) (Nat.le_refl _) (Nat.le_of_ble_eq_true rfl)) ?_
        refine e_lsw11 (pc := 79) dX6_book_79 (Nat.le_of_ble_eq_true rfl) rfl ?_
        refine e_iloadn (pc := 81) dX6_book_81 rfl ?_
        by_cases hs_82_0 : w = 0
        · rw [hs_82_0]
          refine e_tabIn (pc := 82) (t := 108) dX6_book_82 (by decide) (by decide) rfl (by decide) ?_
          refine e_lload (pc := 108) dX6_book_108 rfl ?_
          exact e_lret (pc := 110) dX6_book_110 rfl (Nat.le_refl _) (Nat.le_refl _) ⟨by unfold xbook; rw [if_neg (show ¬ ¬ xbw s a k = 0 from fun q => q c_9), if_neg (show ¬ mc_wi j 0 (s 2 - 1) = false by rw [mc_b1.mp c_21]; decide), if_neg (show ¬ mc_wi (0 : Int32) 0 3 = false by decide), if_pos rfl]; rfl, u1, c2, _, hH2.C (hk1.trans hk2) hO.2.2.2.2.2.1, rfl⟩
        by_cases hs_82_1 : w = 1
        · rw [hs_82_1]
          refine e_tabIn (pc := 82) (t := 111) dX6_book_82 (by decide) (by decide) rfl (by decide) ?_
          refine e_lload (pc := 111) dX6_book_111 rfl ?_
          exact e_lret (pc := 113) dX6_book_113 rfl (Nat.le_refl _) (Nat.le_refl _) ⟨by unfold xbook; rw [if_neg (show ¬ ¬ xbw s a k = 0 from fun q => q c_9), if_neg (show ¬ mc_wi j 0 (s 2 - 1) = false by rw [mc_b1.mp c_21]; decide), if_neg (show ¬ mc_wi (1 : Int32) 0 3 = false by decide), if_neg (show ¬ (1 : Int32) = 0 by decide), if_pos (show (1 : Int32) = 1 from rfl)]; rfl, u1, c2, _, hH2.C (hk1.trans hk2) hO.2.2.2.2.2.1, rfl⟩
        by_cases hs_82_2 : w = 2
        · rw [hs_82_2]
          refine e_tabIn (pc := 82) (t := 114) dX6_book_82 (by decide) (by decide) rfl (by decide) ?_
          refine e_lload (pc := 114) dX6_book_114 rfl ?_
          exact e_lret (pc := 116) dX6_book_116 rfl (Nat.le_refl _) (Nat.le_refl _) ⟨by unfold xbook; rw [if_neg (show ¬ ¬ xbw s a k = 0 from fun q => q c_9), if_neg (show ¬ mc_wi j 0 (s 2 - 1) = false by rw [mc_b1.mp c_21]; decide), if_neg (show ¬ mc_wi (2 : Int32) 0 3 = false by decide), if_neg (show ¬ (2 : Int32) = 0 by decide), if_neg (show ¬ (2 : Int32) = 1 by decide), if_pos (show (2 : Int32) = 2 from rfl)]; rfl, u1, c2, _, hH2.C (hk1.trans hk2) hO.2.2.2.2.2.1, rfl⟩
        refine e_tabOut (pc := 82) (t := 117) dX6_book_82 (mc_tabout (by decide) (fun k h1 h2 => ?_)) (by decide) ?_
        · rcases (show k = 0 ∨ k = 1 ∨ k = 2 by omega) with rfl | rfl | rfl <;> assumption
        refine e_aload (pc := 117) dX6_book_117 rfl ?_
        refine e_iconst (v := 2) (pc := 119) dX6_book_119 (by decide) ?_
        refine e_lload (pc := 120) dX6_book_120 rfl ?_
        refine e_ldc2 (pc := 122) dX6_book_122 qX6_186 ?_
        refine e_minl (pc := 125) dX6_book_125 mX6_188 (mc_JR_of (Nat.le_of_ble_eq_true rfl) (Nat.le_refl _) (Nat.le_refl _) (Nat.le_of_ble_eq_true rfl)) ?_
        skip
        refine e_l2i (pc := 128) dX6_book_128 ?_
        refine e_lload (pc := 129) dX6_book_129 rfl ?_
        refine e_ldc2 (pc := 131) dX6_book_131 qX6_186 ?_
        refine e_minl (pc := 134) dX6_book_134 mX6_188 (mc_JR_of (Nat.le_of_ble_eq_true rfl) (Nat.le_refl _) (Nat.le_refl _) (Nat.le_of_ble_eq_true rfl)) ?_
        refine e_l2i (pc := 137) dX6_book_137 ?_
        refine e_cvX (pc := 138) (sp_x_says2 hH2) dX6_book_138 kX6_125 rfl rfl rfl rfl rfl (mc_CR_of (Nat.le_of_ble_eq_true rfl) (Nat.le_of_ble_eq_true rfl) (Nat.le_refl _) (Nat.le_refl _)) (Nat.le_of_ble_eq_true rfl) (fun w1 hw1 => ?_)
        obtain ⟨c3, hH3, hk3, hr3, rfl⟩ := hw1
        refine e_i2l (pc := 141) dX6_book_141 ?_
        exact e_lret (pc := 142) dX6_book_142 rfl (Nat.le_refl _) (Nat.le_refl _) ⟨by unfold xbook; rw [if_neg (show ¬ ¬ xbw s a k = 0 from fun q => q c_9), if_neg (show ¬ mc_wi j 0 (s 2 - 1) = false by rw [mc_b1.mp c_21]; decide), if_neg (show ¬ mc_wi w 0 3 = false by rw [mc_b1.mp c_34]; decide), if_neg (show ¬ w = 0 from hs_82_0), if_neg (show ¬ w = 1 from hs_82_1), if_neg (show ¬ w = 2 from hs_82_2)]; rfl, u1, c3, _, hH3.C ((hk1.trans hk2).trans hk3) hO.2.2.2.2.2.1, rfl⟩
      · skip
        refine e_ldc2 (pc := 37) dX6_book_37 qX6_147 ?_
        exact e_lret (pc := 40) dX6_book_40 rfl (Nat.le_refl _) (Nat.le_refl _) ⟨(by unfold xbook; rw [if_neg (show ¬ ¬ xbw s a k = 0 from fun q => q c_9), if_neg (show ¬ mc_wi j 0 (s 2 - 1) = false by rw [mc_b1.mp c_21]; decide), if_pos (mc_b0.mp c_34)]; try rfl), u, c, h, hO.2.2.2.2.2.1, rfl⟩
    · skip
      refine e_ldc2 (pc := 24) dX6_book_24 qX6_145 ?_
      exact e_lret (pc := 27) dX6_book_27 rfl (Nat.le_refl _) (Nat.le_refl _) ⟨(by unfold xbook; rw [if_neg (show ¬ ¬ xbw s a k = 0 from fun q => q c_9), if_pos (mc_b0.mp c_21)]; try rfl), u, c, h, hO.2.2.2.2.2.1, rfl⟩
  · skip
    refine e_iload (pc := 12) dX6_book_12 rfl ?_
    refine e_i2l (pc := 14) dX6_book_14 ?_
    exact e_lret (pc := 15) dX6_book_15 rfl (Nat.le_refl _) (Nat.le_refl _) ⟨by unfold xbook; rw [if_pos (show ¬ xbw s a k = 0 from c_9)], u, c, h, hO.2.2.2.2.2.1, rfl⟩
theorem sp_x_book0 {s u m n : Nat → Int32} {a c b d : Nat → List Int32} {q : List (Option Nat)} {h : Nat} {z : mc_W} {j w : Int32} {x0 : Int32} (hv : mc_wi x0 0 3 = false) : mc_D yX6_book cX6_book 13 (some .long) 6 [.ref 0, .int x0, .int j, .int w] (WW s a q u c h m b n d z) (some (.long (-2))) (WW s a q u c h m b n d z) := by
  refine mc_start (own := RX6) (ini := false) rfl (by decide +kernel) (fun h => by cases h) (Nat.le_of_ble_eq_true rfl) ?_
  show mc_E _ _ _ _ _ [some (.ref 0), some (.int x0), some (.int j), some (.int w), none, none, none, none, none, none, none, none, none] [] _ _ _
  refine e_aloadn (pc := 0) dX6_book_0 rfl ?_
  refine e_iloadn (pc := 1) dX6_book_1 rfl ?_
  refine e_cvD (pc := 2) (sp_x_refBook0 hv) dX6_book_2 kX6_168 rfl rfl rfl rfl rfl (mc_CR_of (Nat.le_of_ble_eq_true rfl) (Nat.le_of_ble_eq_true rfl) (Nat.le_refl _) (Nat.le_refl _)) (Nat.le_of_ble_eq_true rfl) ?_
  refine e_isw4 (pc := 5) dX6_book_5 (Nat.le_of_ble_eq_true rfl) rfl ?_
  refine e_iload (pc := 7) dX6_book_7 rfl ?_
  refine e_if_eq (pc := 9) dX6_book_9 (t := 16) (by decide) (fun c_9 => absurd c_9 (by decide)) (fun _ => ?_)
  refine e_iload (pc := 12) dX6_book_12 rfl ?_
  refine e_i2l (pc := 14) dX6_book_14 ?_
  exact e_lret (pc := 15) dX6_book_15 rfl (Nat.le_refl _) (Nat.le_refl _) ⟨rfl, rfl⟩
def xwho (s : Nat → Int32) (a : Nat → List Int32) (sg : Nat → List Int32) (k : Nat) (w : Int32) : Int64 :=
  if ¬ xbw s a k = 0 then (xbw s a k).toInt64 else if mc_wi w 0 1 = false then -7
  else if w = 0 then (ybest (fun i => xabl (xmS s a sg k (nI i) - xoS s a k)) (s 2).toNatClampNeg 0 (-1) (-1)).1.toInt64 else (ybest (fun i => xabl (xmS s a sg k (nI i) - xoS s a k)) (s 2).toNatClampNeg 0 (-1) (-1)).2
theorem lp_x_who {s m n : Nat → Int32} {a b d : Nat → List Int32} {q : List (Option Nat)}  {z : mc_W} {T : Nat} {sg : Nat → Nat → List Int32} {k : Nat} {w : Int32} {V : Int32 × Int64} {N : Nat} (hk : k < 4) (hL : xL a) (hS : xS s) (hN : s 2 = nI N) (hN5 : N ≤ 5) :
    ∀ (f i : Nat) (be : Int32) (le : Int64) (u : Nat → Int32) (c : Nat → List Int32) (h : Nat) (x11 x12 : Option Value), xOK s a q c z T sg → i + f = N → ybest (fun i => xabl (xmS s a (sg (tl s)) k (nI i) - xoS s a k)) f i be le = V →
      mc_E RX6 cX6_who 13 (mc_JM (some .long) false 7 0 0 (fun r' w' => r' = some (.long (if w = 0 then V.1.toInt64 else V.2)) ∧ ∃ u1 c1 h1, xC c1 ∧ w' = (WW s a q u1 c1 h1 m b n d z))) 49 [some (.ref 0), some (.int (nI k)), some (.int w), some (.int 0), some (.ref (21 + 2 * k)), some (.long (xoS s a k)), none, some (.int be), some (.long le), none, some (.int (nI i)), x11, x12] [] (WW s a q u c h m b n d z) 0 0 := by
  intro f
  induction f with
  | zero =>
    intro i be le u c h x11 x12 hO hi hV
    have e : i = N := by omega
    subst e
    simp only [ybest] at hV
    subst hV
    refine e_iload (pc := 49) dX6_who_49 rfl ?_
    refine e_aloadn (pc := 51) dX6_who_51 rfl ?_
    refine e_get (pc := 52) dX6_who_52 fX6_76 rfl rfl ?_
    refine e_icmp_ge (pc := 55) dX6_who_55 (t := 105) (by decide) (fun _ => ?_) (fun c_55 => absurd (by rw [hN]; exact nI_le (Nat.le_refl _) (by omega)) c_55)
    refine e_iloadn (pc := 105) dX6_who_105 rfl ?_
    refine e_if_ne (pc := 106) dX6_who_106 (t := 115) (by decide) (fun c_106 => ?_) (fun c_106 => ?_)
    · skip
      refine e_lload (pc := 115) dX6_who_115 rfl ?_
      exact e_lret (pc := 117) dX6_who_117 rfl (Nat.le_refl _) (Nat.le_refl _) ⟨by rw [if_neg c_106], u, c, h, hO.2.2.2.2.2.1, rfl⟩
    · skip
      refine e_iload (pc := 109) dX6_who_109 rfl ?_
      refine e_i2l (pc := 111) dX6_who_111 ?_
      refine e_goto (pc := 112) dX6_who_112 (t := 117) (by decide) ?_
      exact e_lret (pc := 117) dX6_who_117 rfl (Nat.le_refl _) (Nat.le_refl _) ⟨by rw [if_pos c_106], u, c, h, hO.2.2.2.2.2.1, rfl⟩
  | succ f ih =>
    intro i be le u c h x11 x12 hO hi hV
    simp only [ybest] at hV
    have hi2 : i < N := by omega
    have hck : mc_wi (nI i) 0 (s 2 - 1) = true := by rw [hN, mc_wi_iff, i0, nI_toInt (by omega), i32_sub (by rw [nI_toInt (by omega)]; omega) (by decide), nI_toInt (by omega), i1]; omega
    refine e_iload (pc := 49) dX6_who_49 rfl ?_
    refine e_aloadn (pc := 51) dX6_who_51 rfl ?_
    refine e_get (pc := 52) dX6_who_52 fX6_76 rfl rfl ?_
    refine e_icmp_ge (pc := 55) dX6_who_55 (t := 105) (by decide) (fun c_55 => absurd c_55 (by rw [hN]; exact nI_ge hi2 (by omega))) (fun _ => ?_)
    refine e_aload (pc := 58) dX6_who_58 rfl ?_
    refine e_aloadn (pc := 60) dX6_who_60 rfl ?_
    refine e_iload (pc := 61) dX6_who_61 rfl ?_
    refine e_cvX (pc := 63) (sp_x_handOf hO hck) dX6_who_63 kX6_121 rfl rfl rfl rfl rfl (mc_CR_of (Nat.le_of_ble_eq_true rfl) (Nat.le_of_ble_eq_true rfl) (Nat.le_refl _) (Nat.le_refl _)) (Nat.le_of_ble_eq_true rfl) (fun w1 hw1 => ?_)
    obtain ⟨u1, c1, hH, hk1, rfl⟩ := hw1
    refine e_csX (pc := 66) (sp_x_made hH hk hL hS) dX6_who_66 kX6_175 rfl rfl (mc_CR_of (Nat.le_of_ble_eq_true rfl) (Nat.le_of_ble_eq_true rfl) (Nat.le_refl _) (Nat.le_refl _)) (Nat.le_of_ble_eq_true rfl) (fun w1 hw1 => ?_)
    obtain ⟨c2, hH2, hk2, rfl⟩ := hw1
    refine e_lload (pc := 69) dX6_who_69 rfl ?_
    refine e_lsub (pc := 71) dX6_who_71 ?_
    refine e_absl (pc := 72) dX6_who_72 mX6_183 (mc_JR_of (Nat.le_of_ble_eq_true rfl) (Nat.le_refl _) (Nat.le_refl _) (Nat.le_of_ble_eq_true rfl)) ?_
    refine e_topl (y := xabl (xmS s a (sg (tl s)) k (nI i) - xoS s a k)) rfl ?_
    refine e_lsw11 (pc := 75) dX6_who_75 (Nat.le_of_ble_eq_true rfl) rfl ?_
    refine e_iload (pc := 77) dX6_who_77 rfl ?_
    refine e_iconst (v := -1) (pc := 79) dX6_who_79 (by decide) ?_
    refine e_icmp_eq (pc := 80) dX6_who_80 (t := 91) (by decide) (fun c_80 => ?_) (fun c_80 => ?_)
    · skip
      refine e_iload (pc := 91) dX6_who_91 rfl ?_
      refine e_isw7 (pc := 93) dX6_who_93 (Nat.le_of_ble_eq_true rfl) rfl ?_
      refine e_lload (pc := 95) dX6_who_95 rfl ?_
      refine e_lsw8 (pc := 97) dX6_who_97 (Nat.le_of_ble_eq_true rfl) rfl ?_
      refine e_incC10 (pc := 99) dX6_who_99 (nI_1 i) (Nat.le_of_ble_eq_true rfl) rfl ?_
      refine e_goto (pc := 102) dX6_who_102 (t := 49) (by decide) ?_
      exact ih (i + 1) _ _ _ _ _ _ _ (hO.c (hH2.C (hk1.trans hk2) hO.2.2.2.2.2.1)) (by omega) (by rw [← hV, if_pos (Or.inl c_80)])
    · skip
      refine e_lload (pc := 83) dX6_who_83 rfl ?_
      refine e_lload (pc := 85) dX6_who_85 rfl ?_
      refine e_lcmp (pc := 87) dX6_who_87 ?_
      refine e_if_ge (pc := 88) dX6_who_88 (t := 99) (by decide) (fun c_88 => ?_) (fun c_88 => ?_)
      · skip
        refine e_incC10 (pc := 99) dX6_who_99 (nI_1 i) (Nat.le_of_ble_eq_true rfl) rfl ?_
        refine e_goto (pc := 102) dX6_who_102 (t := 49) (by decide) ?_
        exact ih (i + 1) _ _ _ _ _ _ _ (hO.c (hH2.C (hk1.trans hk2) hO.2.2.2.2.2.1)) (by omega) (by rw [← hV, if_neg (fun q => q.elim c_80 (fun r => mc_cnl_of c_88 r))])
      · skip
        refine e_iload (pc := 91) dX6_who_91 rfl ?_
        refine e_isw7 (pc := 93) dX6_who_93 (Nat.le_of_ble_eq_true rfl) rfl ?_
        refine e_lload (pc := 95) dX6_who_95 rfl ?_
        refine e_lsw8 (pc := 97) dX6_who_97 (Nat.le_of_ble_eq_true rfl) rfl ?_
        refine e_incC10 (pc := 99) dX6_who_99 (nI_1 i) (Nat.le_of_ble_eq_true rfl) rfl ?_
        refine e_goto (pc := 102) dX6_who_102 (t := 49) (by decide) ?_
        exact ih (i + 1) _ _ _ _ _ _ _ (hO.c (hH2.C (hk1.trans hk2) hO.2.2.2.2.2.1)) (by omega) (by rw [← hV, if_pos (Or.inr (mc_clt_of c_88))])
theorem sp_x_who {s u m n : Nat → Int32} {a c b d : Nat → List Int32} {q : List (Option Nat)} {h : Nat} {z : mc_W} {T : Nat} {sg : Nat → Nat → List Int32} {k : Nat} (hk : k < 4) (hS : xS s) {w : Int32} (hO : xOK s a q c z T sg) : mc_T yX6_who cX6_who 13 (some .long) 7 [.ref 0, .int (nI k), .int w] (WW s a q u c h m b n d z) (some (.long (xwho s a (sg (tl s)) k w))) (fun w1 => ∃ u1 c1 h1, xC c1 ∧ w1 = (WW s a q u1 c1 h1 m b n d z)) := by
  refine mc_start (own := RX6) (ini := false) rfl (by decide +kernel) (fun h => by cases h) (Nat.le_of_ble_eq_true rfl) ?_
  show mc_E _ _ _ _ _ [some (.ref 0), some (.int (nI k)), some (.int w), none, none, none, none, none, none, none, none, none, none] [] _ _ _
  have hL := hO.1
  have hl40 := (xrow_len hk hL hS).2
  refine e_aloadn (pc := 0) dX6_who_0 rfl ?_
  refine e_iloadn (pc := 1) dX6_who_1 rfl ?_
  refine e_cvD (pc := 2) (sp_x_refBook hk hL hS) dX6_who_2 kX6_168 rfl rfl rfl rfl rfl (mc_CR_of (Nat.le_of_ble_eq_true rfl) (Nat.le_of_ble_eq_true rfl) (Nat.le_refl _) (Nat.le_refl _)) (Nat.le_of_ble_eq_true rfl) ?_
  refine e_isn3 (pc := 5) dX6_who_5 (Nat.le_of_ble_eq_true rfl) rfl ?_
  refine e_iloadn (pc := 6) dX6_who_6 rfl ?_
  refine e_if_eq (pc := 7) dX6_who_7 (t := 13) (by decide) (fun c_7 => ?_) (fun c_7 => ?_)
  · skip
    refine e_iloadn (pc := 13) dX6_who_13 rfl ?_
    refine e_csD (pc := 14) (sp_isTwofold) dX6_who_14 kX6_160 rfl rfl (mc_CR_of (Nat.le_of_ble_eq_true rfl) (Nat.le_of_ble_eq_true rfl) (Nat.le_refl _) (Nat.le_refl _)) (Nat.le_of_ble_eq_true rfl) ?_
    refine e_if_ne (pc := 17) dX6_who_17 (t := 24) (by decide) (fun c_17 => ?_) (fun c_17 => ?_)
    · skip
      refine e_aloadn (pc := 24) dX6_who_24 rfl ?_
      refine e_iloadn (pc := 25) dX6_who_25 rfl ?_
      refine e_cvD (pc := 26) (sp_x_sheetAt hk) dX6_who_26 kX6_171 rfl rfl rfl rfl rfl (mc_CR_of (Nat.le_of_ble_eq_true rfl) (Nat.le_of_ble_eq_true rfl) (Nat.le_refl _) (Nat.le_refl _)) (Nat.le_of_ble_eq_true rfl) ?_
      refine e_asw4 (pc := 29) dX6_who_29 (Nat.le_of_ble_eq_true rfl) rfl ?_
      refine e_aload (pc := 31) dX6_who_31 rfl ?_
      refine e_csD (pc := 33) (sp_x_ours hk hL hS) dX6_who_33 kX6_179 rfl rfl (mc_CR_of (Nat.le_of_ble_eq_true rfl) (Nat.le_of_ble_eq_true rfl) (Nat.le_refl _) (Nat.le_refl _)) (Nat.le_of_ble_eq_true rfl) ?_
      refine e_lsw5 (pc := 36) dX6_who_36 (Nat.le_of_ble_eq_true rfl) rfl ?_
      refine e_iconst (v := -1) (pc := 38) dX6_who_38 (by decide) ?_
      refine e_isw7 (pc := 39) dX6_who_39 (Nat.le_of_ble_eq_true rfl) rfl ?_
      refine e_ldc2 (pc := 41) dX6_who_41 qX6_192 ?_
      refine e_lsw8 (pc := 44) dX6_who_44 (Nat.le_of_ble_eq_true rfl) rfl ?_
      refine e_iconst (v := 0) (pc := 46) dX6_who_46 (by decide) ?_
      refine e_isw10 (pc := 47) dX6_who_47 (Nat.le_of_ble_eq_true rfl) rfl ?_
      have e : xwho s a (sg (tl s)) k w = if w = 0 then (ybest (fun i => xabl (xmS s a (sg (tl s)) k (nI i) - xoS s a k)) (s 2).toNatClampNeg 0 (-1) (-1)).1.toInt64 else (ybest (fun i => xabl (xmS s a (sg (tl s)) k (nI i) - xoS s a k)) (s 2).toNatClampNeg 0 (-1) (-1)).2 := by unfold xwho; rw [if_neg (show ¬ ¬ xbw s a k = 0 from fun q => q c_7), if_neg (show ¬ mc_wi w 0 1 = false by rw [mc_b1.mp c_17]; decide)]
      rw [e, show xbw s a k = 0 from c_7]
      have hC := hO.2.1
      have tn := tnc hC.1
      exact lp_x_who (N := (s 2).toNatClampNeg) hk hL hS (nI_back hC.1) (by have := hC.2; omega) _ 0 (-1) (-1) u c h _ _ hO (by omega) rfl
    · skip
      refine e_ldc2 (pc := 20) dX6_who_20 qX6_147 ?_
      exact e_lret (pc := 23) dX6_who_23 rfl (Nat.le_refl _) (Nat.le_refl _) ⟨(by unfold xwho; rw [if_neg (show ¬ ¬ xbw s a k = 0 from fun q => q c_7), if_pos (mc_b0.mp c_17)]; try rfl), u, c, h, hO.2.2.2.2.2.1, rfl⟩
  · skip
    refine e_iloadn (pc := 10) dX6_who_10 rfl ?_
    refine e_i2l (pc := 11) dX6_who_11 ?_
    exact e_lret (pc := 12) dX6_who_12 rfl (Nat.le_refl _) (Nat.le_refl _) ⟨by unfold xwho; rw [if_pos (show ¬ xbw s a k = 0 from c_7)], u, c, h, hO.2.2.2.2.2.1, rfl⟩
theorem sp_x_who0 {s u m n : Nat → Int32} {a c b d : Nat → List Int32} {q : List (Option Nat)} {h : Nat} {z : mc_W} {w : Int32} {x0 : Int32} (hv : mc_wi x0 0 3 = false) : mc_D yX6_who cX6_who 13 (some .long) 6 [.ref 0, .int x0, .int w] (WW s a q u c h m b n d z) (some (.long (-2))) (WW s a q u c h m b n d z) := by
  refine mc_start (own := RX6) (ini := false) rfl (by decide +kernel) (fun h => by cases h) (Nat.le_of_ble_eq_true rfl) ?_
  show mc_E _ _ _ _ _ [some (.ref 0), some (.int x0), some (.int w), none, none, none, none, none, none, none, none, none, none] [] _ _ _
  refine e_aloadn (pc := 0) dX6_who_0 rfl ?_
  refine e_iloadn (pc := 1) dX6_who_1 rfl ?_
  refine e_cvD (pc := 2) (sp_x_refBook0 hv) dX6_who_2 kX6_168 rfl rfl rfl rfl rfl (mc_CR_of (Nat.le_of_ble_eq_true rfl) (Nat.le_of_ble_eq_true rfl) (Nat.le_refl _) (Nat.le_refl _)) (Nat.le_of_ble_eq_true rfl) ?_
  refine e_isn3 (pc := 5) dX6_who_5 (Nat.le_of_ble_eq_true rfl) rfl ?_
  refine e_iloadn (pc := 6) dX6_who_6 rfl ?_
  refine e_if_eq (pc := 7) dX6_who_7 (t := 13) (by decide) (fun c_7 => absurd c_7 (by decide)) (fun _ => ?_)
  refine e_iloadn (pc := 10) dX6_who_10 rfl ?_
  refine e_i2l (pc := 11) dX6_who_11 ?_
  exact e_lret (pc := 12) dX6_who_12 rfl (Nat.le_refl _) (Nat.le_refl _) ⟨rfl, rfl⟩
def xsmo (s : Nat → Int32) (a : Nat → List Int32) (sg : Nat → List Int32) (k : Nat) (j : Int32) (i : Nat) : Int64 := xabl (xmS s a sg k j - xoS s a k + (xmk s a sg j 0).toInt64 - (xmk s a sg j ((xrow s a k).getD i 0)).toInt64)
def xsm (s : Nat → Int32) (a : Nat → List Int32) (sg : Nat → List Int32) (k : Nat) (j w : Int32) : Int64 :=
  if ¬ xbwy s a k j = 0 then (xbwy s a k j).toInt64 else if mc_wi w 0 1 = false then -7
  else if w = 0 then (ybest (xsmo s a sg k j) (xrow s a k).length 0 (-1) (-1)).1.toInt64 else (ybest (xsmo s a sg k j) (xrow s a k).length 0 (-1) (-1)).2
theorem lp_x_smug {s u m n : Nat → Int32} {a b d : Nat → List Int32} {q : List (Option Nat)} {h : Nat} {z : mc_W} {c0 : Nat → List Int32} {K mm nu ba ye : Int32} {sg : Nat → List Int32} {k : Nat} {j w : Int32} {V : Int32 × Int64} {B : Int64} (hk : k < 4) (hL : xL a) (hS : xS s) (hc0 : xC c0) :
    ∀ (f i : Nat) (be : Int32) (le : Int64) (c : Nat → List Int32) (x13 x14 : Option Value), xHd q z h u c K mm nu ba ye sg → xKc c0 c → i + f = (xrow s a k).length → ybest (fun i => xabl (B - (hmk K mm nu ba ye sg ((xrow s a k).getD i 0)).toInt64)) f i be le = V →
      mc_E RX6 cX6_smuggled 15 (mc_JM (some .long) false 8 0 0 (fun r' w' => r' = some (.long (if w = 0 then V.1.toInt64 else V.2)) ∧ ∃ u1 c1 h1, xC c1 ∧ w' = (WW s a q u1 c1 h1 m b n d z))) 76 [some (.ref 0), some (.int (nI k)), some (.int j), some (.int w), some (.int 0), some (.ref (21 + 2 * k)), some (.ref 17), some (.long B), none, some (.int be), some (.long le), none, some (.int (nI i)), x13, x14] [] (WW s a q u c h m b n d z) 0 0 := by
  have hl40 := (xrow_len hk hL hS).2
  intro f
  induction f with
  | zero =>
    intro i be le c x13 x14 hH hk0 hi hV
    have e : i = (xrow s a k).length := by omega
    subst e
    simp only [ybest] at hV
    subst hV
    refine e_iload (pc := 76) dX6_smuggled_76 rfl ?_
    refine e_aload (pc := 78) dX6_smuggled_78 rfl ?_
    refine e_cvD (pc := 80) (sp_x_sizeR hk hL hS) dX6_smuggled_80 kX6_198 (WW_sh hk) rfl rfl rfl rfl (mc_CR_of (Nat.le_of_ble_eq_true rfl) (Nat.le_of_ble_eq_true rfl) (Nat.le_refl _) (Nat.le_refl _)) (Nat.le_of_ble_eq_true rfl) ?_
    refine e_icmp_ge (pc := 83) dX6_smuggled_83 (t := 135) (by decide) (fun _ => ?_) (fun c_83 => absurd (nI_le (Nat.le_refl _) (by omega)) c_83)
    refine e_iloadn (pc := 135) dX6_smuggled_135 rfl ?_
    refine e_if_ne (pc := 136) dX6_smuggled_136 (t := 145) (by decide) (fun c_136 => ?_) (fun c_136 => ?_)
    · skip
      refine e_lload (pc := 145) dX6_smuggled_145 rfl ?_
      exact e_lret (pc := 147) dX6_smuggled_147 rfl (Nat.le_refl _) (Nat.le_refl _) ⟨by rw [if_neg c_136], u, c, h, hH.C hk0 hc0, rfl⟩
    · skip
      refine e_iload (pc := 139) dX6_smuggled_139 rfl ?_
      refine e_i2l (pc := 141) dX6_smuggled_141 ?_
      refine e_goto (pc := 142) dX6_smuggled_142 (t := 147) (by decide) ?_
      exact e_lret (pc := 147) dX6_smuggled_147 rfl (Nat.le_refl _) (Nat.le_refl _) ⟨by rw [if_pos c_136], u, c, h, hH.C hk0 hc0, rfl⟩
  | succ f ih =>
    intro i be le c x13 x14 hH hk0 hi hV
    simp only [ybest] at hV
    have hi2 : i < (xrow s a k).length := by omega
    refine e_iload (pc := 76) dX6_smuggled_76 rfl ?_
    refine e_aload (pc := 78) dX6_smuggled_78 rfl ?_
    refine e_cvD (pc := 80) (sp_x_sizeR hk hL hS) dX6_smuggled_80 kX6_198 (WW_sh hk) rfl rfl rfl rfl (mc_CR_of (Nat.le_of_ble_eq_true rfl) (Nat.le_of_ble_eq_true rfl) (Nat.le_refl _) (Nat.le_refl _)) (Nat.le_of_ble_eq_true rfl) ?_
    refine e_icmp_ge (pc := 83) dX6_smuggled_83 (t := 135) (by decide) (fun c_83 => absurd c_83 (nI_ge hi2 (by omega))) (fun _ => ?_)
    refine e_lload (pc := 86) dX6_smuggled_86 rfl ?_
    refine e_aload (pc := 88) dX6_smuggled_88 rfl ?_
    refine e_aload (pc := 90) dX6_smuggled_90 rfl ?_
    refine e_iload (pc := 92) dX6_smuggled_92 rfl ?_
    refine e_cvD (pc := 94) (sp_x_atR hk hL hS hi2) dX6_smuggled_94 kX6_199 (WW_sh hk) rfl rfl rfl rfl (mc_CR_of (Nat.le_of_ble_eq_true rfl) (Nat.le_of_ble_eq_true rfl) (Nat.le_refl _) (Nat.le_refl _)) (Nat.le_of_ble_eq_true rfl) ?_
    refine e_cvX (pc := 97) (sp_x_makes hH) dX6_smuggled_97 kX6_157 rfl rfl rfl rfl rfl (mc_CR_of (Nat.le_of_ble_eq_true rfl) (Nat.le_of_ble_eq_true rfl) (Nat.le_refl _) (Nat.le_refl _)) (Nat.le_of_ble_eq_true rfl) (fun w1 hw1 => ?_)
    obtain ⟨c1, hH1, hk1, -, rfl⟩ := hw1
    refine e_i2l (pc := 100) dX6_smuggled_100 ?_
    refine e_lsub (pc := 101) dX6_smuggled_101 ?_
    refine e_absl (pc := 102) dX6_smuggled_102 mX6_183 (mc_JR_of (Nat.le_of_ble_eq_true rfl) (Nat.le_refl _) (Nat.le_refl _) (Nat.le_of_ble_eq_true rfl)) ?_
    refine e_topl (y := xabl (B - (hmk K mm nu ba ye sg ((xrow s a k).getD i 0)).toInt64)) rfl ?_
    refine e_lsw13 (pc := 105) dX6_smuggled_105 (Nat.le_of_ble_eq_true rfl) rfl ?_
    refine e_iload (pc := 107) dX6_smuggled_107 rfl ?_
    refine e_iconst (v := -1) (pc := 109) dX6_smuggled_109 (by decide) ?_
    refine e_icmp_eq (pc := 110) dX6_smuggled_110 (t := 121) (by decide) (fun c_110 => ?_) (fun c_110 => ?_)
    · skip
      refine e_iload (pc := 121) dX6_smuggled_121 rfl ?_
      refine e_isw9 (pc := 123) dX6_smuggled_123 (Nat.le_of_ble_eq_true rfl) rfl ?_
      refine e_lload (pc := 125) dX6_smuggled_125 rfl ?_
      refine e_lsw10 (pc := 127) dX6_smuggled_127 (Nat.le_of_ble_eq_true rfl) rfl ?_
      refine e_incC12 (pc := 129) dX6_smuggled_129 (nI_1 i) (Nat.le_of_ble_eq_true rfl) rfl ?_
      refine e_goto (pc := 132) dX6_smuggled_132 (t := 76) (by decide) ?_
      exact ih (i + 1) _ _ _ _ _ hH1 (hk0.trans hk1) (by omega) (by rw [← hV, if_pos (Or.inl c_110)])
    · skip
      refine e_lload (pc := 113) dX6_smuggled_113 rfl ?_
      refine e_lload (pc := 115) dX6_smuggled_115 rfl ?_
      refine e_lcmp (pc := 117) dX6_smuggled_117 ?_
      refine e_if_ge (pc := 118) dX6_smuggled_118 (t := 129) (by decide) (fun c_118 => ?_) (fun c_118 => ?_)
      · skip
        refine e_incC12 (pc := 129) dX6_smuggled_129 (nI_1 i) (Nat.le_of_ble_eq_true rfl) rfl ?_
        refine e_goto (pc := 132) dX6_smuggled_132 (t := 76) (by decide) ?_
        exact ih (i + 1) _ _ _ _ _ hH1 (hk0.trans hk1) (by omega) (by rw [← hV, if_neg (fun q => q.elim c_110 (fun r => mc_cnl_of c_118 r))])
      · skip
        refine e_iload (pc := 121) dX6_smuggled_121 rfl ?_
        refine e_isw9 (pc := 123) dX6_smuggled_123 (Nat.le_of_ble_eq_true rfl) rfl ?_
        refine e_lload (pc := 125) dX6_smuggled_125 rfl ?_
        refine e_lsw10 (pc := 127) dX6_smuggled_127 (Nat.le_of_ble_eq_true rfl) rfl ?_
        refine e_incC12 (pc := 129) dX6_smuggled_129 (nI_1 i) (Nat.le_of_ble_eq_true rfl) rfl ?_
        refine e_goto (pc := 132) dX6_smuggled_132 (t := 76) (by decide) ?_
        exact ih (i + 1) _ _ _ _ _ hH1 (hk0.trans hk1) (by omega) (by rw [← hV, if_pos (Or.inr (mc_clt_of c_118))])
theorem sp_x_smug {s u m n : Nat → Int32} {a c b d : Nat → List Int32} {q : List (Option Nat)} {h : Nat} {z : mc_W} {T : Nat} {sg : Nat → Nat → List Int32} {k : Nat} (hk : k < 4) (hS : xS s) {j w : Int32} (hO : xOK s a q c z T sg) : mc_T yX6_smuggled cX6_smuggled 15 (some .long) 8 [.ref 0, .int (nI k), .int j, .int w] (WW s a q u c h m b n d z) (some (.long (xsm s a (sg (tl s)) k j w))) (fun w1 => ∃ u1 c1 h1, xC c1 ∧ w1 = (WW s a q u1 c1 h1 m b n d z)) := by
  refine mc_start (own := RX6) (ini := false) rfl (by decide +kernel) (fun h => by cases h) (Nat.le_of_ble_eq_true rfl) ?_
  show mc_E _ _ _ _ _ [some (.ref 0), some (.int (nI k)), some (.int j), some (.int w), none, none, none, none, none, none, none, none, none, none, none] [] _ _ _
  have hL := hO.1
  have hl40 := (xrow_len hk hL hS).2
  refine e_aloadn (pc := 0) dX6_smuggled_0 rfl ?_
  refine e_iloadn (pc := 1) dX6_smuggled_1 rfl ?_
  refine e_iloadn (pc := 2) dX6_smuggled_2 rfl ?_
  refine e_cvD (pc := 3) (sp_x_refBookBy hk hL hS hO.2.1) dX6_smuggled_3 kX6_194 rfl rfl rfl rfl rfl (mc_CR_of (Nat.le_of_ble_eq_true rfl) (Nat.le_of_ble_eq_true rfl) (Nat.le_refl _) (Nat.le_refl _)) (Nat.le_of_ble_eq_true rfl) ?_
  refine e_isw4 (pc := 6) dX6_smuggled_6 (Nat.le_of_ble_eq_true rfl) rfl ?_
  refine e_iload (pc := 8) dX6_smuggled_8 rfl ?_
  refine e_if_eq (pc := 10) dX6_smuggled_10 (t := 17) (by decide) (fun c_10 => ?_) (fun c_10 => ?_)
  · skip
    refine e_iloadn (pc := 17) dX6_smuggled_17 rfl ?_
    refine e_csD (pc := 18) (sp_isTwofold) dX6_smuggled_18 kX6_160 rfl rfl (mc_CR_of (Nat.le_of_ble_eq_true rfl) (Nat.le_of_ble_eq_true rfl) (Nat.le_refl _) (Nat.le_refl _)) (Nat.le_of_ble_eq_true rfl) ?_
    refine e_if_ne (pc := 21) dX6_smuggled_21 (t := 28) (by decide) (fun c_21 => ?_) (fun c_21 => ?_)
    · skip
      refine e_aloadn (pc := 28) dX6_smuggled_28 rfl ?_
      refine e_iloadn (pc := 29) dX6_smuggled_29 rfl ?_
      refine e_cvD (pc := 30) (sp_x_sheetAt hk) dX6_smuggled_30 kX6_171 rfl rfl rfl rfl rfl (mc_CR_of (Nat.le_of_ble_eq_true rfl) (Nat.le_of_ble_eq_true rfl) (Nat.le_refl _) (Nat.le_refl _)) (Nat.le_of_ble_eq_true rfl) ?_
      refine e_asw5 (pc := 33) dX6_smuggled_33 (Nat.le_of_ble_eq_true rfl) rfl ?_
      refine e_aloadn (pc := 35) dX6_smuggled_35 rfl ?_
      refine e_iloadn (pc := 36) dX6_smuggled_36 rfl ?_
      refine e_cvX (pc := 37) (sp_x_handOf hO (xbwy_0 c_10).2) dX6_smuggled_37 kX6_121 rfl rfl rfl rfl rfl (mc_CR_of (Nat.le_of_ble_eq_true rfl) (Nat.le_of_ble_eq_true rfl) (Nat.le_refl _) (Nat.le_refl _)) (Nat.le_of_ble_eq_true rfl) (fun w1 hw1 => ?_)
      obtain ⟨u1, c1, hH, hk1, rfl⟩ := hw1
      refine e_asw6 (pc := 40) dX6_smuggled_40 (Nat.le_of_ble_eq_true rfl) rfl ?_
      refine e_aload (pc := 42) dX6_smuggled_42 rfl ?_
      refine e_aload (pc := 44) dX6_smuggled_44 rfl ?_
      refine e_csX (pc := 46) (sp_x_made hH hk hL hS) dX6_smuggled_46 kX6_175 rfl rfl (mc_CR_of (Nat.le_of_ble_eq_true rfl) (Nat.le_of_ble_eq_true rfl) (Nat.le_refl _) (Nat.le_refl _)) (Nat.le_of_ble_eq_true rfl) (fun w1 hw1 => ?_)
      obtain ⟨c2, hH2, hk2, rfl⟩ := hw1
      refine e_aload (pc := 49) dX6_smuggled_49 rfl ?_
      refine e_csD (pc := 51) (sp_x_ours hk hL hS) dX6_smuggled_51 kX6_179 rfl rfl (mc_CR_of (Nat.le_of_ble_eq_true rfl) (Nat.le_of_ble_eq_true rfl) (Nat.le_refl _) (Nat.le_refl _)) (Nat.le_of_ble_eq_true rfl) ?_
      refine e_lsub (pc := 54) dX6_smuggled_54 ?_
      refine e_aload (pc := 55) dX6_smuggled_55 rfl ?_
      refine e_iconst (v := 0) (pc := 57) dX6_smuggled_57 (by decide) ?_
      refine e_cvX (pc := 58) (sp_x_makes hH2) dX6_smuggled_58 kX6_157 rfl rfl rfl rfl rfl (mc_CR_of (Nat.le_of_ble_eq_true rfl) (Nat.le_of_ble_eq_true rfl) (Nat.le_refl _) (Nat.le_refl _)) (Nat.le_of_ble_eq_true rfl) (fun w1 hw1 => ?_)
      obtain ⟨c3, hH3, hk3, -, rfl⟩ := hw1
      refine e_i2l (pc := 61) dX6_smuggled_61 ?_
      refine e_ladd (pc := 62) dX6_smuggled_62 ?_
      refine e_lsw7 (pc := 63) dX6_smuggled_63 (Nat.le_of_ble_eq_true rfl) rfl ?_
      refine e_iconst (v := -1) (pc := 65) dX6_smuggled_65 (by decide) ?_
      refine e_isw9 (pc := 66) dX6_smuggled_66 (Nat.le_of_ble_eq_true rfl) rfl ?_
      refine e_ldc2 (pc := 68) dX6_smuggled_68 qX6_192 ?_
      refine e_lsw10 (pc := 71) dX6_smuggled_71 (Nat.le_of_ble_eq_true rfl) rfl ?_
      refine e_iconst (v := 0) (pc := 73) dX6_smuggled_73 (by decide) ?_
      refine e_isw12 (pc := 74) dX6_smuggled_74 (Nat.le_of_ble_eq_true rfl) rfl ?_
      have e : xsm s a (sg (tl s)) k j w = if w = 0 then (ybest (xsmo s a (sg (tl s)) k j) (xrow s a k).length 0 (-1) (-1)).1.toInt64 else (ybest (xsmo s a (sg (tl s)) k j) (xrow s a k).length 0 (-1) (-1)).2 := by unfold xsm; rw [if_neg (show ¬ ¬ xbwy s a k j = 0 from fun q => q c_10), if_neg (show ¬ mc_wi w 0 1 = false by rw [mc_b1.mp c_21]; decide)]
      rw [e, show xbwy s a k j = 0 from c_10]
      exact lp_x_smug hk hL hS hO.2.2.2.2.2.1 (xrow s a k).length 0 (-1) (-1) c3 _ _ hH3 ((hk1.trans hk2).trans hk3) (by omega) rfl
    · skip
      refine e_ldc2 (pc := 24) dX6_smuggled_24 qX6_147 ?_
      exact e_lret (pc := 27) dX6_smuggled_27 rfl (Nat.le_refl _) (Nat.le_refl _) ⟨(by unfold xsm; rw [if_neg (show ¬ ¬ xbwy s a k j = 0 from fun q => q c_10), if_pos (mc_b0.mp c_21)]; try rfl), u, c, h, hO.2.2.2.2.2.1, rfl⟩
  · skip
    refine e_iload (pc := 13) dX6_smuggled_13 rfl ?_
    refine e_i2l (pc := 15) dX6_smuggled_15 ?_
    exact e_lret (pc := 16) dX6_smuggled_16 rfl (Nat.le_refl _) (Nat.le_refl _) ⟨by unfold xsm; rw [if_pos (show ¬ xbwy s a k j = 0 from c_10)], u, c, h, hO.2.2.2.2.2.1, rfl⟩
theorem sp_x_smug0 {s u m n : Nat → Int32} {a c b d : Nat → List Int32} {q : List (Option Nat)} {h : Nat} {z : mc_W} {j w : Int32} {x0 : Int32} (hv : mc_wi x0 0 3 = false) : mc_D yX6_smuggled cX6_smuggled 15 (some .long) 7 [.ref 0, .int x0, .int j, .int w] (WW s a q u c h m b n d z) (some (.long (-2))) (WW s a q u c h m b n d z) := by
  refine mc_start (own := RX6) (ini := false) rfl (by decide +kernel) (fun h => by cases h) (Nat.le_of_ble_eq_true rfl) ?_
  show mc_E _ _ _ _ _ [some (.ref 0), some (.int x0), some (.int j), some (.int w), none, none, none, none, none, none, none, none, none, none, none] [] _ _ _
  refine e_aloadn (pc := 0) dX6_smuggled_0 rfl ?_
  refine e_iloadn (pc := 1) dX6_smuggled_1 rfl ?_
  refine e_iloadn (pc := 2) dX6_smuggled_2 rfl ?_
  refine e_cvD (pc := 3) (sp_x_refBookBy0 hv) dX6_smuggled_3 kX6_194 rfl rfl rfl rfl rfl (mc_CR_of (Nat.le_of_ble_eq_true rfl) (Nat.le_of_ble_eq_true rfl) (Nat.le_refl _) (Nat.le_refl _)) (Nat.le_of_ble_eq_true rfl) ?_
  refine e_isw4 (pc := 6) dX6_smuggled_6 (Nat.le_of_ble_eq_true rfl) rfl ?_
  refine e_iload (pc := 8) dX6_smuggled_8 rfl ?_
  refine e_if_eq (pc := 10) dX6_smuggled_10 (t := 17) (by decide) (fun c_10 => absurd c_10 (by decide)) (fun _ => ?_)
  refine e_iload (pc := 13) dX6_smuggled_13 rfl ?_
  refine e_i2l (pc := 15) dX6_smuggled_15 ?_
  exact e_lret (pc := 16) dX6_smuggled_16 rfl (Nat.le_refl _) (Nat.le_refl _) ⟨rfl, rfl⟩
theorem sp_x_liveH {s u m n : Nat → Int32} {a c b d : Nat → List Int32} {q : List (Option Nat)} {h : Nat} {z : mc_W} {K mo nu ba ye : Int32} {sg : Nat → List Int32} {bb yy : Int32} {h1 : Nat} {sg1 : Nat → List Int32} (hH : xHd q z h u c K mo nu ba ye sg) (hX1 : ∃ cd sa ca, xTz q z h1 cd sa ca ∧ xTr cd sa ca sg1) (hb1 : 2 ≤ bb.toInt ∧ bb.toInt ≤ 12) : mc_T yX1_liveBy cX1_liveBy 4 none 1 [.ref 17, .int bb, .int yy, .ref h1] (WW s a q u c h m b n d z) none (fun w1 => ∃ c1, xHd q z h1 u c1 K mo nu bb yy sg1 ∧ xKc c c1 ∧ w1 = (WW s a q u c1 h1 m b n d z)) := by
  refine mc_start (own := RX1) (ini := false) rfl (by decide +kernel) (fun h => by cases h) (Nat.le_of_ble_eq_true rfl) ?_
  show mc_E _ _ _ _ _ [some (.ref 17), some (.int bb), some (.int yy), some (.ref h1)] [] _ _ _
  obtain ⟨⟨cd, sa, ca, hX, hR⟩, hK, ⟨x2, x3, hc3⟩, h48, h40, hK5, hm9, hb12⟩ := id hH
  refine e_aloadn (pc := 0) dX1_liveBy_0 rfl ?_
  refine e_get (pc := 1) dX1_liveBy_1 fX1_11 rfl rfl ?_
  refine e_iconst (v := 4) (pc := 4) dX1_liveBy_4 (by decide) ?_
  refine e_iloadn (pc := 5) dX1_liveBy_5 rfl ?_
  refine ast_names (pc := 6) dX1_liveBy_6 (vi6 hc3 (by decide +kernel)) ?_
  refine e_aloadn (pc := 7) dX1_liveBy_7 rfl ?_
  refine e_get (pc := 8) dX1_liveBy_8 fX1_11 rfl rfl ?_
  refine e_iconst (v := 5) (pc := 11) dX1_liveBy_11 (by decide) ?_
  refine e_iloadn (pc := 12) dX1_liveBy_12 rfl ?_
  refine ast_names (pc := 13) dX1_liveBy_13 (by show vp_in _ ((c 3).set _ _).length; rw [List.length_set]; exact vi6 hc3 (by decide +kernel)) ?_
  refine e_aloadn (pc := 14) dX1_liveBy_14 rfl ?_
  refine e_aloadn (pc := 15) dX1_liveBy_15 rfl ?_
  refine put_hand_law (pc := 16) dX1_liveBy_16 pX1_21 ?_
  exact e_vret (pc := 19) dX1_liveBy_19 rfl (Nat.le_refl _) (Nat.le_refl _) ⟨rfl, mc_up c 3 [mo, nu, x2, x3, bb, yy], ⟨hX1, hK, ⟨x2, x3, rfl⟩, h48, h40, hK5, hm9, hb1⟩, ⟨rfl, rfl, rfl⟩, by rw [up_up, up_at, hc3]; rfl⟩
theorem sp_x_beH {s u m n : Nat → Int32} {a c b d : Nat → List Int32} {q : List (Option Nat)} {h : Nat} {z : mc_W} {K mo nu ba ye : Int32} {sg : Nat → List Int32} {nn KK mw : Int32} (hH : xHd q z h u c K mo nu ba ye sg) (hK1 : 0 ≤ KK.toInt ∧ KK.toInt ≤ 5) (hm1 : 0 ≤ mw.toInt ∧ mw.toInt ≤ 9) : mc_T yX1_become cX1_become 4 none 1 [.ref 17, .int nn, .int KK, .int mw] (WW s a q u c h m b n d z) none (fun w1 => ∃ u1 c1, xHd q z h u1 c1 KK mw nn ba ye sg ∧ xKc c c1 ∧ w1 = (WW s a q u1 c1 h m b n d z)) := by
  refine mc_start (own := RX1) (ini := false) rfl (by decide +kernel) (fun h => by cases h) (Nat.le_of_ble_eq_true rfl) ?_
  show mc_E _ _ _ _ _ [some (.ref 17), some (.int nn), some (.int KK), some (.int mw)] [] _ _ _
  obtain ⟨⟨cd, sa, ca, hX, hR⟩, hK, ⟨x2, x3, hc3⟩, h48, h40, hK5, hm9, hb12⟩ := id hH
  refine e_aloadn (pc := 0) dX1_become_0 rfl ?_
  refine e_iloadn (pc := 1) dX1_become_1 rfl ?_
  refine put_hand_kind (pc := 2) dX1_become_2 pX1_25 ?_
  refine e_aloadn (pc := 5) dX1_become_5 rfl ?_
  refine e_get (pc := 6) dX1_become_6 fX1_11 rfl rfl ?_
  refine e_iconst (v := 1) (pc := 9) dX1_become_9 (by decide) ?_
  refine e_iloadn (pc := 10) dX1_become_10 rfl ?_
  refine ast_names (pc := 11) dX1_become_11 (vi6 hc3 (by decide +kernel)) ?_
  refine e_aloadn (pc := 12) dX1_become_12 rfl ?_
  refine e_get (pc := 13) dX1_become_13 fX1_11 rfl rfl ?_
  refine e_iconst (v := 0) (pc := 16) dX1_become_16 (by decide) ?_
  refine e_iloadn (pc := 17) dX1_become_17 rfl ?_
  refine ast_names (pc := 18) dX1_become_18 (by show vp_in _ ((c 3).set _ _).length; rw [List.length_set]; exact vi6 hc3 (by decide +kernel)) ?_
  exact e_vret (pc := 19) dX1_become_19 rfl (Nat.le_refl _) (Nat.le_refl _) ⟨rfl, mc_up u 6 KK, mc_up c 3 [mw, nn, x2, x3, ba, ye], ⟨⟨cd, sa, ca, hX, hR⟩, rfl, ⟨x2, x3, rfl⟩, h48, h40, hK1, hm1, hb12⟩, ⟨rfl, rfl, rfl⟩, by rw [up_up, up_at, hc3]; rfl⟩
def xffo (K mo nu ye : Int32) (sg : Nat → List Int32) (row : List Int32) (i : Nat) : Int32 := row.foldl (fun S v => S + nI (hwr K mo nu (nI i) ye sg v).length) 0
def xshort (s : Nat → Int32) (a : Nat → List Int32) (sg : Nat → List Int32) (k : Nat) (j w : Int32) : Int32 :=
  if ¬ xbwy s a k j = 0 then xbwy s a k j else if mc_wi w 0 1 = false then -7
  else if w = 0 then (yfew (xffo (gt (a 0) j) (gt (a 1) j) j (s 1) sg (xrow s a k)) 11 2 (-1) (-1)).1 else (yfew (xffo (gt (a 0) j) (gt (a 1) j) j (s 1) sg (xrow s a k)) 11 2 (-1) (-1)).2
theorem lp_x_short {s m n : Nat → Int32} {a b d : Nat → List Int32} {q : List (Option Nat)}  {z : mc_W} {c0 : Nat → List Int32} {T : Nat} {sg : Nat → Nat → List Int32} {K mm nu : Int32} {k : Nat} {j w : Int32} {V : Int32 × Int32} (hO : xOK s a q c0 z T sg) (hk : k < 4) (hS : xS s) (hN : ∀ i, i < (xrow s a k).length → mc_wi ((xrow s a k).getD i 0) 0 99999 = true) :
    ∀ (f i : Nat) (be le ba : Int32) (u : Nat → Int32) (c : Nat → List Int32) (x10 : Option Value), xHd q z (xad (tl s)) u c K mm nu ba (s 1) (sg (tl s)) → xKc c0 c → 2 ≤ i → i + f = 13 → yfew (xffo K mm nu (s 1) (sg (tl s)) (xrow s a k)) f i be le = V →
      mc_E RX6 cX6_shortest 11 (mc_JM (some .int) false 8 0 0 (fun r' w' => r' = some (.int (if w = 0 then V.1 else V.2)) ∧ ∃ u1 c1 h1, xC c1 ∧ w' = (WW s a q u1 c1 h1 m b n d z))) 49 [some (.ref 0), some (.int (nI k)), some (.int j), some (.int w), some (.int 0), some (.ref (21 + 2 * k)), some (.ref 17), some (.int be), some (.int le), some (.int (nI i)), x10] [] (WW s a q u c (xad (tl s)) m b n d z) 0 0 := by
  have hL := hO.1
  obtain ⟨-, -, -, hT, hs4, hc0, -⟩ := id hO
  have t4 := tnc hs4.1
  have e4 : s 4 = nI (tl s) := nI_back hs4.1
  have l4 : tl s < T := by unfold tl; omega
  intro f
  induction f with
  | zero =>
    intro i be le ba u c x10 hH hk0 h2 hi hV
    have e : i = 13 := by omega
    subst e
    simp only [yfew] at hV
    subst hV
    refine e_iload (pc := 49) dX6_shortest_49 rfl ?_
    refine e_bipush (v := 12) (pc := 51) dX6_shortest_51 (by decide) ?_
    refine e_icmp_gt (pc := 53) dX6_shortest_53 (t := 111) (by decide) (fun _ => ?_) (fun c_53 => absurd (by decide) c_53)
    refine e_iloadn (pc := 111) dX6_shortest_111 rfl ?_
    refine e_if_ne (pc := 112) dX6_shortest_112 (t := 120) (by decide) (fun c_112 => ?_) (fun c_112 => ?_)
    · skip
      refine e_iload (pc := 120) dX6_shortest_120 rfl ?_
      exact e_iret (pc := 122) dX6_shortest_122 rfl (Nat.le_refl _) (Nat.le_refl _) ⟨by rw [if_neg c_112], u, c, _, hH.C hk0 hc0, rfl⟩
    · skip
      refine e_iload (pc := 115) dX6_shortest_115 rfl ?_
      refine e_goto (pc := 117) dX6_shortest_117 (t := 122) (by decide) ?_
      exact e_iret (pc := 122) dX6_shortest_122 rfl (Nat.le_refl _) (Nat.le_refl _) ⟨by rw [if_pos c_112], u, c, _, hH.C hk0 hc0, rfl⟩
  | succ f ih =>
    intro i be le ba u c x10 hH hk0 h2 hi hV
    simp only [yfew] at hV
    have hi2 : i < 13 := by omega
    have hi0 : 2 ≤ (nI i).toInt ∧ (nI i).toInt ≤ 12 := by rw [nI_toInt (by omega)]; omega
    refine e_iload (pc := 49) dX6_shortest_49 rfl ?_
    refine e_bipush (v := 12) (pc := 51) dX6_shortest_51 (by decide) ?_
    refine e_icmp_gt (pc := 53) dX6_shortest_53 (t := 111) (by decide) (fun c_53 => absurd c_53 (fun q => absurd (nI_le (a := i) (b := 12) (by omega) (by decide)) (Int32.not_le.mpr q))) (fun _ => ?_)
    refine e_aload (pc := 56) dX6_shortest_56 rfl ?_
    refine e_iload (pc := 58) dX6_shortest_58 rfl ?_
    refine e_aloadn (pc := 60) dX6_shortest_60 rfl ?_
    refine e_get (pc := 61) dX6_shortest_61 fX6_13 rfl rfl ?_
    refine e_aloadn (pc := 64) dX6_shortest_64 rfl ?_
    refine e_aloadn (pc := 65) dX6_shortest_65 rfl ?_
    refine e_get (pc := 66) dX6_shortest_66 fX6_79 rfl rfl ?_
    refine e_cvD (pc := 69) (sp_x_textAt hT e4 l4) dX6_shortest_69 kX6_216 rfl rfl rfl rfl rfl (mc_CR_of (Nat.le_of_ble_eq_true rfl) (Nat.le_of_ble_eq_true rfl) (Nat.le_refl _) (Nat.le_refl _)) (Nat.le_of_ble_eq_true rfl) ?_
    refine e_cvY (pc := 72) (sp_x_liveH (bb := nI i) (yy := s 1) (h1 := xad (tl s)) (sg1 := (sg (tl s))) hH (hT.2.2 _ l4).2 hi0) dX6_shortest_72 kX6_220 rfl rfl rfl rfl rfl (mc_CR_of (Nat.le_of_ble_eq_true rfl) (Nat.le_of_ble_eq_true rfl) (Nat.le_refl _) (Nat.le_refl _)) (Nat.le_of_ble_eq_true rfl) (fun w1 hw1 => ?_)
    obtain ⟨c1, hH1, hk1, rfl⟩ := hw1
    refine e_aload (pc := 75) dX6_shortest_75 rfl ?_
    refine e_aload (pc := 77) dX6_shortest_77 rfl ?_
    refine e_csX (pc := 79) (sp_x_ffor hH1 hk hL hS hN) dX6_shortest_79 kX6_224 rfl rfl (mc_CR_of (Nat.le_of_ble_eq_true rfl) (Nat.le_of_ble_eq_true rfl) (Nat.le_refl _) (Nat.le_refl _)) (Nat.le_of_ble_eq_true rfl) (fun w1 hw1 => ?_)
    obtain ⟨u2, c2, hH2, hk2, rfl⟩ := hw1
    refine e_top (y := xffo K mm nu (s 1) (sg (tl s)) (xrow s a k) i) rfl ?_
    refine e_isw10 (pc := 82) dX6_shortest_82 (Nat.le_of_ble_eq_true rfl) rfl ?_
    refine e_iload (pc := 84) dX6_shortest_84 rfl ?_
    refine e_iconst (v := -1) (pc := 86) dX6_shortest_86 (by decide) ?_
    refine e_icmp_eq (pc := 87) dX6_shortest_87 (t := 97) (by decide) (fun c_87 => ?_) (fun c_87 => ?_)
    · skip
      refine e_iload (pc := 97) dX6_shortest_97 rfl ?_
      refine e_isw7 (pc := 99) dX6_shortest_99 (Nat.le_of_ble_eq_true rfl) rfl ?_
      refine e_iload (pc := 101) dX6_shortest_101 rfl ?_
      refine e_isw8 (pc := 103) dX6_shortest_103 (Nat.le_of_ble_eq_true rfl) rfl ?_
      refine e_incC9 (pc := 105) dX6_shortest_105 (nI_1 i) (Nat.le_of_ble_eq_true rfl) rfl ?_
      refine e_goto (pc := 108) dX6_shortest_108 (t := 49) (by decide) ?_
      exact ih (i + 1) _ _ _ _ _ _ hH2 ((hk0.trans hk1).trans hk2) (by omega) (by omega) (by rw [← hV, if_pos (Or.inl c_87)])
    · skip
      refine e_iload (pc := 90) dX6_shortest_90 rfl ?_
      refine e_iload (pc := 92) dX6_shortest_92 rfl ?_
      refine e_icmp_ge (pc := 94) dX6_shortest_94 (t := 105) (by decide) (fun c_94 => ?_) (fun c_94 => ?_)
      · skip
        refine e_incC9 (pc := 105) dX6_shortest_105 (nI_1 i) (Nat.le_of_ble_eq_true rfl) rfl ?_
        refine e_goto (pc := 108) dX6_shortest_108 (t := 49) (by decide) ?_
        exact ih (i + 1) _ _ _ _ _ _ hH2 ((hk0.trans hk1).trans hk2) (by omega) (by omega) (by rw [← hV, if_neg (fun q => q.elim c_87 (fun r => absurd r (Int32.not_lt.mpr c_94)))])
      · skip
        refine e_iload (pc := 97) dX6_shortest_97 rfl ?_
        refine e_isw7 (pc := 99) dX6_shortest_99 (Nat.le_of_ble_eq_true rfl) rfl ?_
        refine e_iload (pc := 101) dX6_shortest_101 rfl ?_
        refine e_isw8 (pc := 103) dX6_shortest_103 (Nat.le_of_ble_eq_true rfl) rfl ?_
        refine e_incC9 (pc := 105) dX6_shortest_105 (nI_1 i) (Nat.le_of_ble_eq_true rfl) rfl ?_
        refine e_goto (pc := 108) dX6_shortest_108 (t := 49) (by decide) ?_
        exact ih (i + 1) _ _ _ _ _ _ hH2 ((hk0.trans hk1).trans hk2) (by omega) (by omega) (by rw [← hV, if_pos (Or.inr (Int32.not_le.mp c_94))])
theorem sp_x_short {s u m n : Nat → Int32} {a c b d : Nat → List Int32} {q : List (Option Nat)} {h : Nat} {z : mc_W} {T : Nat} {sg : Nat → Nat → List Int32} {k : Nat} (hk : k < 4) (hS : xS s) {j w : Int32} (hO : xOK s a q c z T sg) : mc_T yX6_shortest cX6_shortest 11 (some .int) 8 [.ref 0, .int (nI k), .int j, .int w] (WW s a q u c h m b n d z) (some (.int (xshort s a (sg (tl s)) k j w))) (fun w1 => ∃ u1 c1 h1, xC c1 ∧ w1 = (WW s a q u1 c1 h1 m b n d z)) := by
  refine mc_start (own := RX6) (ini := false) rfl (by decide +kernel) (fun h => by cases h) (Nat.le_of_ble_eq_true rfl) ?_
  show mc_E _ _ _ _ _ [some (.ref 0), some (.int (nI k)), some (.int j), some (.int w), none, none, none, none, none, none, none] [] _ _ _
  have hL := hO.1
  have hl40 := (xrow_len hk hL hS).2
  refine e_aloadn (pc := 0) dX6_shortest_0 rfl ?_
  refine e_iloadn (pc := 1) dX6_shortest_1 rfl ?_
  refine e_iloadn (pc := 2) dX6_shortest_2 rfl ?_
  refine e_cvD (pc := 3) (sp_x_refBookBy hk hL hS hO.2.1) dX6_shortest_3 kX6_194 rfl rfl rfl rfl rfl (mc_CR_of (Nat.le_of_ble_eq_true rfl) (Nat.le_of_ble_eq_true rfl) (Nat.le_refl _) (Nat.le_refl _)) (Nat.le_of_ble_eq_true rfl) ?_
  refine e_isw4 (pc := 6) dX6_shortest_6 (Nat.le_of_ble_eq_true rfl) rfl ?_
  refine e_iload (pc := 8) dX6_shortest_8 rfl ?_
  refine e_if_eq (pc := 10) dX6_shortest_10 (t := 16) (by decide) (fun c_10 => ?_) (fun c_10 => ?_)
  · skip
    refine e_iloadn (pc := 16) dX6_shortest_16 rfl ?_
    refine e_csD (pc := 17) (sp_isTwofold) dX6_shortest_17 kX6_160 rfl rfl (mc_CR_of (Nat.le_of_ble_eq_true rfl) (Nat.le_of_ble_eq_true rfl) (Nat.le_refl _) (Nat.le_refl _)) (Nat.le_of_ble_eq_true rfl) ?_
    refine e_if_ne (pc := 20) dX6_shortest_20 (t := 26) (by decide) (fun c_20 => ?_) (fun c_20 => ?_)
    · skip
      refine e_aloadn (pc := 26) dX6_shortest_26 rfl ?_
      refine e_iloadn (pc := 27) dX6_shortest_27 rfl ?_
      refine e_cvD (pc := 28) (sp_x_sheetAt hk) dX6_shortest_28 kX6_171 rfl rfl rfl rfl rfl (mc_CR_of (Nat.le_of_ble_eq_true rfl) (Nat.le_of_ble_eq_true rfl) (Nat.le_refl _) (Nat.le_refl _)) (Nat.le_of_ble_eq_true rfl) ?_
      refine e_asw5 (pc := 31) dX6_shortest_31 (Nat.le_of_ble_eq_true rfl) rfl ?_
      refine e_aloadn (pc := 33) dX6_shortest_33 rfl ?_
      refine e_iloadn (pc := 34) dX6_shortest_34 rfl ?_
      refine e_cvX (pc := 35) (sp_x_handOf hO (xbwy_0 c_10).2) dX6_shortest_35 kX6_121 rfl rfl rfl rfl rfl (mc_CR_of (Nat.le_of_ble_eq_true rfl) (Nat.le_of_ble_eq_true rfl) (Nat.le_refl _) (Nat.le_refl _)) (Nat.le_of_ble_eq_true rfl) (fun w1 hw1 => ?_)
      obtain ⟨u1, c1, hH, hk1, rfl⟩ := hw1
      refine e_asw6 (pc := 38) dX6_shortest_38 (Nat.le_of_ble_eq_true rfl) rfl ?_
      refine e_iconst (v := -1) (pc := 40) dX6_shortest_40 (by decide) ?_
      refine e_isw7 (pc := 41) dX6_shortest_41 (Nat.le_of_ble_eq_true rfl) rfl ?_
      refine e_iconst (v := -1) (pc := 43) dX6_shortest_43 (by decide) ?_
      refine e_isw8 (pc := 44) dX6_shortest_44 (Nat.le_of_ble_eq_true rfl) rfl ?_
      refine e_iconst (v := 2) (pc := 46) dX6_shortest_46 (by decide) ?_
      refine e_isw9 (pc := 47) dX6_shortest_47 (Nat.le_of_ble_eq_true rfl) rfl ?_
      have e : xshort s a (sg (tl s)) k j w = if w = 0 then (yfew (xffo (gt (a 0) j) (gt (a 1) j) j (s 1) (sg (tl s)) (xrow s a k)) 11 2 (-1) (-1)).1 else (yfew (xffo (gt (a 0) j) (gt (a 1) j) j (s 1) (sg (tl s)) (xrow s a k)) 11 2 (-1) (-1)).2 := by unfold xshort; rw [if_neg (show ¬ ¬ xbwy s a k j = 0 from fun q => q c_10), if_neg (show ¬ mc_wi w 0 1 = false by rw [mc_b1.mp c_20]; decide)]
      rw [e, show xbwy s a k j = 0 from c_10]
      exact lp_x_short hO hk hS (xbw_num (xbwy_0 c_10).1) 11 2 (-1) (-1) _ u1 c1 _ hH hk1 (by omega) (by omega) rfl
    · skip
      refine e_bipush (v := -7) (pc := 23) dX6_shortest_23 (by decide) ?_
      exact e_iret (pc := 25) dX6_shortest_25 rfl (Nat.le_refl _) (Nat.le_refl _) ⟨(by unfold xshort; rw [if_neg (show ¬ ¬ xbwy s a k j = 0 from fun q => q c_10), if_pos (mc_b0.mp c_20)]; try rfl), u, c, h, hO.2.2.2.2.2.1, rfl⟩
  · skip
    refine e_iload (pc := 13) dX6_shortest_13 rfl ?_
    exact e_iret (pc := 15) dX6_shortest_15 rfl (Nat.le_refl _) (Nat.le_refl _) ⟨by unfold xshort; rw [if_pos (show ¬ xbwy s a k j = 0 from c_10)], u, c, h, hO.2.2.2.2.2.1, rfl⟩
theorem sp_x_short0 {s u m n : Nat → Int32} {a c b d : Nat → List Int32} {q : List (Option Nat)} {h : Nat} {z : mc_W} {j w : Int32} {x0 : Int32} (hv : mc_wi x0 0 3 = false) : mc_D yX6_shortest cX6_shortest 11 (some .int) 7 [.ref 0, .int x0, .int j, .int w] (WW s a q u c h m b n d z) (some (.int (-2))) (WW s a q u c h m b n d z) := by
  refine mc_start (own := RX6) (ini := false) rfl (by decide +kernel) (fun h => by cases h) (Nat.le_of_ble_eq_true rfl) ?_
  show mc_E _ _ _ _ _ [some (.ref 0), some (.int x0), some (.int j), some (.int w), none, none, none, none, none, none, none] [] _ _ _
  refine e_aloadn (pc := 0) dX6_shortest_0 rfl ?_
  refine e_iloadn (pc := 1) dX6_shortest_1 rfl ?_
  refine e_iloadn (pc := 2) dX6_shortest_2 rfl ?_
  refine e_cvD (pc := 3) (sp_x_refBookBy0 hv) dX6_shortest_3 kX6_194 rfl rfl rfl rfl rfl (mc_CR_of (Nat.le_of_ble_eq_true rfl) (Nat.le_of_ble_eq_true rfl) (Nat.le_refl _) (Nat.le_refl _)) (Nat.le_of_ble_eq_true rfl) ?_
  refine e_isw4 (pc := 6) dX6_shortest_6 (Nat.le_of_ble_eq_true rfl) rfl ?_
  refine e_iload (pc := 8) dX6_shortest_8 rfl ?_
  refine e_if_eq (pc := 10) dX6_shortest_10 (t := 16) (by decide) (fun c_10 => absurd c_10 (by decide)) (fun _ => ?_)
  refine e_iload (pc := 13) dX6_shortest_13 rfl ?_
  exact e_iret (pc := 15) dX6_shortest_15 rfl (Nat.le_refl _) (Nat.le_refl _) ⟨rfl, rfl⟩
end Zj_6e_x15
section Zj_6f_x16
/-! ===== told rows ===== -/
theorem xh2 : ∀ L, L < 41 → (nI L / 2 == nI (L / 2) && nI L - nI L / 2 * 2 == nI (L % 2) && (2 : Int32) * nI L == nI (2 * L) && nI (2 * L) + 1 == nI (2 * L + 1) && nI (2 * L) + Int32.ofInt 2 == nI (2 * (L + 1))) = true := by decide +kernel
theorem xh2' {L : Nat} (h : L < 41) : nI L / 2 = nI (L / 2) ∧ nI L - nI L / 2 * 2 = nI (L % 2) ∧ (2 : Int32) * nI L = nI (2 * L) ∧ nI (2 * L) + 1 = nI (2 * L + 1) ∧ nI (2 * L) + Int32.ofInt 2 = nI (2 * (L + 1)) := by
  have := xh2 L h
  simp only [Bool.and_eq_true, beq_iff_eq] at this
  exact ⟨this.1.1.1.1, this.1.1.1.2, this.1.1.2, this.1.2, this.2⟩
def xsw (s : Nat → Int32) (a : Nat → List Int32) (k : Nat) : Int32 := if xmis s k = true then -11 else if ¬ (xrow s a k).length % 2 = 0 then -2 else if yevn (xrow s a k) 21 0 = true then 0 else -2
theorem lp_x_refRows {s u m n : Nat → Int32} {a c b d : Nat → List Int32} {q : List (Option Nat)} {h : Nat} {z : mc_W} {k : Nat} (hev : (xrow s a k).length % 2 = 0) (hk : k < 4) (hL : xL a) (hS : xS s) :
    ∀ (f i : Nat), i + f = 21 → 2 * i ≤ 2 * ((xrow s a k).length / 2) →
      mc_E RX6 cX6_refusalOfRows 5 (mc_JM (some .int) false 5 0 0 (fun r' w' => r' = some (.int (if yevn (xrow s a k) f i = true then 0 else -2)) ∧ w' = (WW s a q u c h m b n d z))) 33 [some (.ref 0), some (.int (nI k)), some (.int 0), some (.ref (21 + 2 * k)), some (.int (nI (2 * i)))] [] (WW s a q u c h m b n d z) 0 0 := by
  have hl40 := (xrow_len hk hL hS).2
  intro f
  induction f with
  | zero =>
    intro i hi h2
    exact absurd h2 (by omega)
  | succ f ih =>
    intro i hi h2
    by_cases hi2 : 2 * i < (xrow s a k).length
    · have ey : yevn (xrow s a k) (f + 1) i = (ynum ((xrow s a k).getD (2 * i) 0) && yevn (xrow s a k) f (i + 1)) := if_pos hi2
      rw [ey]
      refine e_iload (pc := 33) dX6_refusalOfRows_33 rfl ?_
      refine e_aloadn (pc := 35) dX6_refusalOfRows_35 rfl ?_
      refine e_cvD (pc := 36) (sp_x_sizeR hk hL hS) dX6_refusalOfRows_36 kX6_198 (WW_sh hk) rfl rfl rfl rfl (mc_CR_of (Nat.le_of_ble_eq_true rfl) (Nat.le_of_ble_eq_true rfl) (Nat.le_refl _) (Nat.le_refl _)) (Nat.le_of_ble_eq_true rfl) ?_
      refine e_icmp_ge (pc := 39) dX6_refusalOfRows_39 (t := 63) (by decide) (fun c_39 => absurd c_39 (nI_ge hi2 (by omega))) (fun _ => ?_)
      refine e_aloadn (pc := 42) dX6_refusalOfRows_42 rfl ?_
      refine e_iload (pc := 43) dX6_refusalOfRows_43 rfl ?_
      refine e_cvD (pc := 45) (sp_x_atR hk hL hS hi2) dX6_refusalOfRows_45 kX6_199 (WW_sh hk) rfl rfl rfl rfl (mc_CR_of (Nat.le_of_ble_eq_true rfl) (Nat.le_of_ble_eq_true rfl) (Nat.le_refl _) (Nat.le_refl _)) (Nat.le_of_ble_eq_true rfl) ?_
      refine e_csD (pc := 48) (sp_isNumber) dX6_refusalOfRows_48 kX6_118 rfl rfl (mc_CR_of (Nat.le_of_ble_eq_true rfl) (Nat.le_of_ble_eq_true rfl) (Nat.le_refl _) (Nat.le_refl _)) (Nat.le_of_ble_eq_true rfl) ?_
      refine e_if_ne (pc := 51) dX6_refusalOfRows_51 (t := 57) (by decide) (fun c_51 => ?_) (fun c_51 => ?_)
      · skip
        refine e_incC4 (pc := 57) dX6_refusalOfRows_57 (xh2' (L := i) (by omega)).2.2.2.2 (Nat.le_of_ble_eq_true rfl) rfl ?_
        refine e_goto (pc := 60) dX6_refusalOfRows_60 (t := 33) (by decide) ?_
        rw [show ynum ((xrow s a k).getD (2 * i) 0) = true from mc_b1.mp c_51, Bool.true_and]
        exact ih (i + 1) (by omega) (by omega)
      · skip
        refine e_bipush (v := -2) (pc := 54) dX6_refusalOfRows_54 (by decide) ?_
        exact e_iret (pc := 56) dX6_refusalOfRows_56 rfl (Nat.le_refl _) (Nat.le_refl _) ⟨by rw [show ynum ((xrow s a k).getD (2 * i) 0) = false from mc_b0.mp c_51]; rfl, rfl⟩
    · have ey : yevn (xrow s a k) (f + 1) i = true := if_neg hi2
      rw [ey]
      refine e_iload (pc := 33) dX6_refusalOfRows_33 rfl ?_
      refine e_aloadn (pc := 35) dX6_refusalOfRows_35 rfl ?_
      refine e_cvD (pc := 36) (sp_x_sizeR hk hL hS) dX6_refusalOfRows_36 kX6_198 (WW_sh hk) rfl rfl rfl rfl (mc_CR_of (Nat.le_of_ble_eq_true rfl) (Nat.le_of_ble_eq_true rfl) (Nat.le_refl _) (Nat.le_refl _)) (Nat.le_of_ble_eq_true rfl) ?_
      refine e_icmp_ge (pc := 39) dX6_refusalOfRows_39 (t := 63) (by decide) (fun _ => ?_) (fun c_39 => absurd (nI_le (by omega) (by omega)) c_39)
      refine e_iconst (v := 0) (pc := 63) dX6_refusalOfRows_63 (by decide) ?_
      exact e_iret (pc := 64) dX6_refusalOfRows_64 rfl (Nat.le_refl _) (Nat.le_refl _) ⟨rfl, rfl⟩
theorem sp_x_refRows {s u m n : Nat → Int32} {a c b d : Nat → List Int32} {q : List (Option Nat)} {h : Nat} {z : mc_W} {k : Nat} (hk : k < 4) (hL : xL a) (hS : xS s) : mc_D yX6_refusalOfRows cX6_refusalOfRows 5 (some .int) 5 [.ref 0, .int (nI k)] (WW s a q u c h m b n d z) (some (.int (xsw s a k))) (WW s a q u c h m b n d z) := by
  refine mc_start (own := RX6) (ini := false) rfl (by decide +kernel) (fun h => by cases h) (Nat.le_of_ble_eq_true rfl) ?_
  show mc_E _ _ _ _ _ [some (.ref 0), some (.int (nI k)), none, none, none] [] _ _ _
  have hl40 := (xrow_len hk hL hS).2
  have hz : nI ((xrow s a k).length % 2) = 0 ↔ (xrow s a k).length % 2 = 0 := nI_eq (b := 0) (by omega) (by decide)
  refine e_aloadn (pc := 0) dX6_refusalOfRows_0 rfl ?_
  refine e_iloadn (pc := 1) dX6_refusalOfRows_1 rfl ?_
  refine e_cvD (pc := 2) (sp_x_refSheet hk) dX6_refusalOfRows_2 kX6_228 rfl rfl rfl rfl rfl (mc_CR_of (Nat.le_of_ble_eq_true rfl) (Nat.le_of_ble_eq_true rfl) (Nat.le_refl _) (Nat.le_refl _)) (Nat.le_of_ble_eq_true rfl) ?_
  refine e_isn2 (pc := 5) dX6_refusalOfRows_5 (Nat.le_of_ble_eq_true rfl) rfl ?_
  refine e_iloadn (pc := 6) dX6_refusalOfRows_6 rfl ?_
  refine e_if_eq (pc := 7) dX6_refusalOfRows_7 (t := 12) (by decide) (fun c_7 => ?_) (fun c_7 => ?_)
  · skip
    refine e_aloadn (pc := 12) dX6_refusalOfRows_12 rfl ?_
    refine e_iloadn (pc := 13) dX6_refusalOfRows_13 rfl ?_
    refine e_cvD (pc := 14) (sp_x_sheetAt hk) dX6_refusalOfRows_14 kX6_171 rfl rfl rfl rfl rfl (mc_CR_of (Nat.le_of_ble_eq_true rfl) (Nat.le_of_ble_eq_true rfl) (Nat.le_refl _) (Nat.le_refl _)) (Nat.le_of_ble_eq_true rfl) ?_
    refine e_asn3 (pc := 17) dX6_refusalOfRows_17 (Nat.le_of_ble_eq_true rfl) rfl ?_
    refine e_aloadn (pc := 18) dX6_refusalOfRows_18 rfl ?_
    refine e_cvD (pc := 19) (sp_x_sizeR hk hL hS) dX6_refusalOfRows_19 kX6_198 (WW_sh hk) rfl rfl rfl rfl (mc_CR_of (Nat.le_of_ble_eq_true rfl) (Nat.le_of_ble_eq_true rfl) (Nat.le_refl _) (Nat.le_refl _)) (Nat.le_of_ble_eq_true rfl) ?_
    refine e_iconst (v := 2) (pc := 22) dX6_refusalOfRows_22 (by decide) ?_
    refine e_irem (pc := 23) dX6_refusalOfRows_23 (by decide) ?_
    refine e_top (y := nI ((xrow s a k).length % 2)) (xh2' (L := (xrow s a k).length) (by omega)).2.1 ?_
    refine e_if_eq (pc := 24) dX6_refusalOfRows_24 (t := 30) (by decide) (fun c_24 => ?_) (fun c_24 => ?_)
    · skip
      refine e_iconst (v := 0) (pc := 30) dX6_refusalOfRows_30 (by decide) ?_
      refine e_isw4 (pc := 31) dX6_refusalOfRows_31 (Nat.le_of_ble_eq_true rfl) rfl ?_
      have hm : ¬ xmis s k = true := fun q => by rw [if_pos q] at c_7; exact absurd c_7 (by decide)
      have hev := hz.mp c_24
      have eb : xsw s a k = if yevn (xrow s a k) 21 0 = true then 0 else -2 := by unfold xsw; rw [if_neg hm, if_neg (fun q => q hev)]
      rw [eb, if_neg hm]
      exact lp_x_refRows hev hk hL hS 21 0 (by omega) (by omega)
    · skip
      refine e_bipush (v := -2) (pc := 27) dX6_refusalOfRows_27 (by decide) ?_
      exact e_iret (pc := 29) dX6_refusalOfRows_29 rfl (Nat.le_refl _) (Nat.le_refl _) ⟨by unfold xsw; rw [if_neg (show ¬ xmis s k = true from fun q => by rw [if_pos q] at c_7; exact absurd c_7 (by decide)), if_pos (fun q => c_24 (hz.mpr q))], rfl⟩
  · skip
    refine e_iloadn (pc := 10) dX6_refusalOfRows_10 rfl ?_
    exact e_iret (pc := 11) dX6_refusalOfRows_11 rfl (Nat.le_refl _) (Nat.le_refl _) ⟨by unfold xsw; by_cases hm : xmis s k = true <;> simp_all, rfl⟩
theorem sp_x_refRows0 {s u m n : Nat → Int32} {a c b d : Nat → List Int32} {q : List (Option Nat)} {h : Nat} {z : mc_W} {v : Int32} (hv : mc_wi v 0 3 = false) : mc_D yX6_refusalOfRows cX6_refusalOfRows 5 (some .int) 5 [.ref 0, .int v] (WW s a q u c h m b n d z) (some (.int (-2))) (WW s a q u c h m b n d z) := by
  refine mc_start (own := RX6) (ini := false) rfl (by decide +kernel) (fun h => by cases h) (Nat.le_of_ble_eq_true rfl) ?_
  show mc_E _ _ _ _ _ [some (.ref 0), some (.int v), none, none, none] [] _ _ _
  refine e_aloadn (pc := 0) dX6_refusalOfRows_0 rfl ?_
  refine e_iloadn (pc := 1) dX6_refusalOfRows_1 rfl ?_
  refine e_cvD (pc := 2) (sp_x_refSheet0 hv) dX6_refusalOfRows_2 kX6_228 rfl rfl rfl rfl rfl (mc_CR_of (Nat.le_of_ble_eq_true rfl) (Nat.le_of_ble_eq_true rfl) (Nat.le_refl _) (Nat.le_refl _)) (Nat.le_of_ble_eq_true rfl) ?_
  refine e_isn2 (pc := 5) dX6_refusalOfRows_5 (Nat.le_of_ble_eq_true rfl) rfl ?_
  refine e_iloadn (pc := 6) dX6_refusalOfRows_6 rfl ?_
  refine e_if_eq (pc := 7) dX6_refusalOfRows_7 (t := 12) (by decide) (fun c_7 => absurd c_7 (by decide)) (fun _ => ?_)
  refine e_iloadn (pc := 10) dX6_refusalOfRows_10 rfl ?_
  exact e_iret (pc := 11) dX6_refusalOfRows_11 rfl (Nat.le_refl _) (Nat.le_refl _) ⟨rfl, rfl⟩
def xtw (s : Nat → Int32) (a : Nat → List Int32) (k : Nat) (j : Int32) : Int32 := if ¬ xsw s a k = 0 then xsw s a k else if mc_wi j 0 (s 2 - 1) = true then 0 else -5
theorem sp_x_refRowsBy {s u m n : Nat → Int32} {a c b d : Nat → List Int32} {q : List (Option Nat)} {h : Nat} {z : mc_W} {k : Nat} (hk : k < 4) (hL : xL a) (hS : xS s) {j : Int32} (hC : yC s) : mc_D yX6_refusalOfRowsBy cX6_refusalOfRowsBy 4 (some .int) 6 [.ref 0, .int (nI k), .int j] (WW s a q u c h m b n d z) (some (.int (xtw s a k j))) (WW s a q u c h m b n d z) := by
  refine mc_start (own := RX6) (ini := false) rfl (by decide +kernel) (fun h => by cases h) (Nat.le_of_ble_eq_true rfl) ?_
  show mc_E _ _ _ _ _ [some (.ref 0), some (.int (nI k)), some (.int j), none] [] _ _ _
  refine e_aloadn (pc := 0) dX6_refusalOfRowsBy_0 rfl ?_
  refine e_iloadn (pc := 1) dX6_refusalOfRowsBy_1 rfl ?_
  refine e_cvD (pc := 2) (sp_x_refRows hk hL hS) dX6_refusalOfRowsBy_2 kX6_286 rfl rfl rfl rfl rfl (mc_CR_of (Nat.le_of_ble_eq_true rfl) (Nat.le_of_ble_eq_true rfl) (Nat.le_refl _) (Nat.le_refl _)) (Nat.le_of_ble_eq_true rfl) ?_
  refine e_isn3 (pc := 5) dX6_refusalOfRowsBy_5 (Nat.le_of_ble_eq_true rfl) rfl ?_
  refine e_iloadn (pc := 6) dX6_refusalOfRowsBy_6 rfl ?_
  refine e_if_eq (pc := 7) dX6_refusalOfRowsBy_7 (t := 12) (by decide) (fun c_7 => ?_) (fun c_7 => ?_)
  · skip
    refine e_aloadn (pc := 12) dX6_refusalOfRowsBy_12 rfl ?_
    refine e_iloadn (pc := 13) dX6_refusalOfRowsBy_13 rfl ?_
    refine e_cvD (pc := 14) (sp_x_isClerk hC) dX6_refusalOfRowsBy_14 kX6_115 rfl rfl rfl rfl rfl (mc_CR_of (Nat.le_of_ble_eq_true rfl) (Nat.le_of_ble_eq_true rfl) (Nat.le_refl _) (Nat.le_refl _)) (Nat.le_of_ble_eq_true rfl) ?_
    refine e_if_eq (pc := 17) dX6_refusalOfRowsBy_17 (t := 24) (by decide) (fun c_17 => ?_) (fun c_17 => ?_)
    · skip
      refine e_bipush (v := -5) (pc := 24) dX6_refusalOfRowsBy_24 (by decide) ?_
      exact e_iret (pc := 26) dX6_refusalOfRowsBy_26 rfl (Nat.le_refl _) (Nat.le_refl _) ⟨by simp_all [xtw, mc_b0, mc_b1], rfl⟩
    · skip
      refine e_iconst (v := 0) (pc := 20) dX6_refusalOfRowsBy_20 (by decide) ?_
      refine e_goto (pc := 21) dX6_refusalOfRowsBy_21 (t := 26) (by decide) ?_
      exact e_iret (pc := 26) dX6_refusalOfRowsBy_26 rfl (Nat.le_refl _) (Nat.le_refl _) ⟨by simp_all [xtw, mc_b0, mc_b1], rfl⟩
  · skip
    refine e_iloadn (pc := 10) dX6_refusalOfRowsBy_10 rfl ?_
    exact e_iret (pc := 11) dX6_refusalOfRowsBy_11 rfl (Nat.le_refl _) (Nat.le_refl _) ⟨by simp_all [xtw, mc_b0, mc_b1], rfl⟩
theorem sp_x_refRowsBy0 {s u m n : Nat → Int32} {a c b d : Nat → List Int32} {q : List (Option Nat)} {h : Nat} {z : mc_W} {v j : Int32} (hv : mc_wi v 0 3 = false) : mc_D yX6_refusalOfRowsBy cX6_refusalOfRowsBy 4 (some .int) 6 [.ref 0, .int v, .int j] (WW s a q u c h m b n d z) (some (.int (-2))) (WW s a q u c h m b n d z) := by
  refine mc_start (own := RX6) (ini := false) rfl (by decide +kernel) (fun h => by cases h) (Nat.le_of_ble_eq_true rfl) ?_
  show mc_E _ _ _ _ _ [some (.ref 0), some (.int v), some (.int j), none] [] _ _ _
  refine e_aloadn (pc := 0) dX6_refusalOfRowsBy_0 rfl ?_
  refine e_iloadn (pc := 1) dX6_refusalOfRowsBy_1 rfl ?_
  refine e_cvD (pc := 2) (sp_x_refRows0 hv) dX6_refusalOfRowsBy_2 kX6_286 rfl rfl rfl rfl rfl (mc_CR_of (Nat.le_of_ble_eq_true rfl) (Nat.le_of_ble_eq_true rfl) (Nat.le_refl _) (Nat.le_refl _)) (Nat.le_of_ble_eq_true rfl) ?_
  refine e_isn3 (pc := 5) dX6_refusalOfRowsBy_5 (Nat.le_of_ble_eq_true rfl) rfl ?_
  refine e_iloadn (pc := 6) dX6_refusalOfRowsBy_6 rfl ?_
  refine e_if_eq (pc := 7) dX6_refusalOfRowsBy_7 (t := 12) (by decide) (fun c_7 => absurd c_7 (by decide)) (fun _ => ?_)
  refine e_iloadn (pc := 10) dX6_refusalOfRowsBy_10 rfl ?_
  exact e_iret (pc := 11) dX6_refusalOfRowsBy_11 rfl (Nat.le_refl _) (Nat.le_refl _) ⟨rfl, rfl⟩
/-- every other number of a row is a number to write -/
def xev (row : List Int32) : Prop := row.length ≤ 40 ∧ ∀ i, i < row.length / 2 → mc_wi (row.getD (2 * i) 0) 0 99999 = true
theorem yevn_num {row : List Int32} (hl : row.length ≤ 40) : ∀ f i, i + f = 21 → yevn row f i = true → ∀ j, i ≤ j → j < row.length / 2 → mc_wi (row.getD (2 * j) 0) 0 99999 = true := by
  intro f
  induction f with
  | zero => intro i hi h j h1 h2; omega
  | succ f ih =>
    intro i hi h j h1 h2
    have ey : yevn row (f + 1) i = (ynum (row.getD (2 * i) 0) && yevn row f (i + 1)) := if_pos (by omega)
    rw [ey, Bool.and_eq_true] at h
    by_cases e : j = i
    · rw [e]; exact h.1
    · exact ih (i + 1) (by omega) h.2 j (by omega) h2
theorem xsw_ev {s : Nat → Int32} {a : Nat → List Int32} {k : Nat} (hl : (xrow s a k).length ≤ 40) (h : xsw s a k = 0) : xev (xrow s a k) := by
  unfold xsw at h
  by_cases hm : xmis s k = true
  · rw [if_pos hm] at h; exact absurd h (by decide)
  · rw [if_neg hm] at h
    by_cases h2 : (xrow s a k).length % 2 = 0
    · rw [if_neg (fun q => q h2)] at h
      by_cases ha : yevn (xrow s a k) 21 0 = true
      · exact ⟨hl, fun i hi => yevn_num hl 21 0 (by omega) ha i (by omega) hi⟩
      · rw [if_neg ha] at h; exact absurd h (by decide)
    · rw [if_pos h2] at h; exact absurd h (by decide)
theorem xtw_0 {s : Nat → Int32} {a : Nat → List Int32} {k : Nat} {j : Int32} (h : xtw s a k j = 0) : xsw s a k = 0 ∧ mc_wi j 0 (s 2 - 1) = true := by
  unfold xtw at h
  by_cases h0 : xsw s a k = 0
  · rw [if_neg (fun q => q h0)] at h
    refine ⟨h0, ?_⟩
    by_cases hc : mc_wi j 0 (s 2 - 1) = true
    · exact hc
    · rw [if_neg hc] at h; exact absurd h (by decide)
  · rw [if_pos h0] at h; exact absurd h h0
/-- the first row that says otherwise -/
def xunf (P : Int32 → Int64) (row : List Int32) : Nat → Nat → Int32
  | 0, _ => -1
  | f + 1, i => if P (row.getD (2 * i) 0) = (row.getD (2 * i + 1) 0).toInt64 then xunf P row f (i + 1) else nI i
def xunl (K mo nu ba ye : Int32) (sg : Nat → List Int32) (row : List Int32) : Int32 := xunf (fun v => yrd ba (hwr K mo nu ba ye sg v)) row (row.length / 2) 0
theorem lp_x_first {s m n : Nat → Int32} {a b d : Nat → List Int32} {q : List (Option Nat)} {h : Nat} {z : mc_W} {c0 : Nat → List Int32} {K mo nu ba ye : Int32} {sg : Nat → List Int32} {k : Nat} (hk : k < 4) (hL : xL a) (hS : xS s) {V : Int32} (hN : xev (xrow s a k)) :
    ∀ (f i : Nat) (u : Nat → Int32) (c : Nat → List Int32), xHd q z h u c K mo nu ba ye sg → xKc c0 c → i + f = (xrow s a k).length / 2 → xunf (fun v => yrd ba (hwr K mo nu ba ye sg v)) (xrow s a k) f i = V →
      mc_E RX6 cX6_firstOtherwise 3 (mc_JM (some .int) false 7 0 0 (fun r' w' => r' = some (.int V) ∧ ∃ u1 c1, xHd q z h u1 c1 K mo nu ba ye sg ∧ xKc c0 c1 ∧ w' = (WW s a q u1 c1 h m b n d z))) 2 [some (.ref (21 + 2 * k)), some (.ref 17), some (.int (nI i))] [] (WW s a q u c h m b n d z) 0 0 := by
  have hl40 := hN.1
  intro f
  induction f with
  | zero =>
    intro i u c hH hk0 hi hV
    have e : i = (xrow s a k).length / 2 := by omega
    simp only [xunf] at hV
    subst hV
    refine e_iloadn (pc := 2) dX6_firstOtherwise_2 rfl ?_
    refine e_aloadn (pc := 3) dX6_firstOtherwise_3 rfl ?_
    refine e_cvD (pc := 4) (sp_x_sizeR hk hL hS) dX6_firstOtherwise_4 kX6_198 (WW_sh hk) rfl rfl rfl rfl (mc_CR_of (Nat.le_of_ble_eq_true rfl) (Nat.le_of_ble_eq_true rfl) (Nat.le_refl _) (Nat.le_refl _)) (Nat.le_of_ble_eq_true rfl) ?_
    refine e_iconst (v := 2) (pc := 7) dX6_firstOtherwise_7 (by decide) ?_
    refine e_idiv (pc := 8) dX6_firstOtherwise_8 (by decide) ?_
    refine e_top (y := nI ((xrow s a k).length / 2)) (xh2' (L := (xrow s a k).length) (by omega)).1 ?_
    refine e_icmp_ge (pc := 9) dX6_firstOtherwise_9 (t := 49) (by decide) (fun _ => ?_) (fun c_9 => absurd (nI_le (by omega) (by omega)) c_9)
    refine e_iconst (v := -1) (pc := 49) dX6_firstOtherwise_49 (by decide) ?_
    exact e_iret (pc := 50) dX6_firstOtherwise_50 rfl (Nat.le_refl _) (Nat.le_refl _) ⟨rfl, u, c, hH, hk0, rfl⟩
  | succ f ih =>
    intro i u c hH hk0 hi hV
    simp only [xunf] at hV
    have hi2 : 2 * i < (xrow s a k).length := by omega
    have hi3 : 2 * i + 1 < (xrow s a k).length := by omega
    refine e_iloadn (pc := 2) dX6_firstOtherwise_2 rfl ?_
    refine e_aloadn (pc := 3) dX6_firstOtherwise_3 rfl ?_
    refine e_cvD (pc := 4) (sp_x_sizeR hk hL hS) dX6_firstOtherwise_4 kX6_198 (WW_sh hk) rfl rfl rfl rfl (mc_CR_of (Nat.le_of_ble_eq_true rfl) (Nat.le_of_ble_eq_true rfl) (Nat.le_refl _) (Nat.le_refl _)) (Nat.le_of_ble_eq_true rfl) ?_
    refine e_iconst (v := 2) (pc := 7) dX6_firstOtherwise_7 (by decide) ?_
    refine e_idiv (pc := 8) dX6_firstOtherwise_8 (by decide) ?_
    refine e_top (y := nI ((xrow s a k).length / 2)) (xh2' (L := (xrow s a k).length) (by omega)).1 ?_
    refine e_icmp_ge (pc := 9) dX6_firstOtherwise_9 (t := 49) (by decide) (fun c_9 => absurd c_9 (nI_ge (by omega) (by omega))) (fun _ => ?_)
    refine e_aloadn (pc := 12) dX6_firstOtherwise_12 rfl ?_
    refine e_aloadn (pc := 13) dX6_firstOtherwise_13 rfl ?_
    refine e_iconst (v := 2) (pc := 14) dX6_firstOtherwise_14 (by decide) ?_
    refine e_iloadn (pc := 15) dX6_firstOtherwise_15 rfl ?_
    refine e_imul (pc := 16) dX6_firstOtherwise_16 ?_
    refine e_top (y := nI (2 * i)) (xh2' (L := i) (by omega)).2.2.1 ?_
    refine e_cvD (pc := 17) (sp_x_atR hk hL hS hi2) dX6_firstOtherwise_17 kX6_199 (WW_sh hk) rfl rfl rfl rfl (mc_CR_of (Nat.le_of_ble_eq_true rfl) (Nat.le_of_ble_eq_true rfl) (Nat.le_refl _) (Nat.le_refl _)) (Nat.le_of_ble_eq_true rfl) ?_
    refine e_cvY (pc := 20) (sp_x_write hH (hH.mk (wi_num (hN.2 i (by omega))))) dX6_firstOtherwise_20 kX6_135 rfl rfl rfl rfl rfl (mc_CR_of (Nat.le_of_ble_eq_true rfl) (Nat.le_of_ble_eq_true rfl) (Nat.le_refl _) (Nat.le_refl _)) (Nat.le_of_ble_eq_true rfl) (fun w1 hw1 => ?_)
    obtain ⟨u1, c1, hH1, hk1, hF1, rfl⟩ := hw1
    refine e_aloadn (pc := 23) dX6_firstOtherwise_23 rfl ?_
    refine e_cvD (pc := 24) (sp_x_readPl hH1 hF1) dX6_firstOtherwise_24 kX6_153 rfl rfl rfl rfl rfl (mc_CR_of (Nat.le_of_ble_eq_true rfl) (Nat.le_of_ble_eq_true rfl) (Nat.le_refl _) (Nat.le_refl _)) (Nat.le_of_ble_eq_true rfl) ?_
    refine e_aloadn (pc := 27) dX6_firstOtherwise_27 rfl ?_
    refine e_iconst (v := 2) (pc := 28) dX6_firstOtherwise_28 (by decide) ?_
    refine e_iloadn (pc := 29) dX6_firstOtherwise_29 rfl ?_
    refine e_imul (pc := 30) dX6_firstOtherwise_30 ?_
    refine e_top (y := nI (2 * i)) (xh2' (L := i) (by omega)).2.2.1 ?_
    refine e_iconst (v := 1) (pc := 31) dX6_firstOtherwise_31 (by decide) ?_
    refine e_iadd (pc := 32) dX6_firstOtherwise_32 ?_
    refine e_top (y := nI (2 * i + 1)) (xh2' (L := i) (by omega)).2.2.2.1 ?_
    refine e_cvD (pc := 33) (sp_x_atR hk hL hS hi3) dX6_firstOtherwise_33 kX6_199 (WW_sh hk) rfl rfl rfl rfl (mc_CR_of (Nat.le_of_ble_eq_true rfl) (Nat.le_of_ble_eq_true rfl) (Nat.le_refl _) (Nat.le_refl _)) (Nat.le_of_ble_eq_true rfl) ?_
    refine e_i2l (pc := 36) dX6_firstOtherwise_36 ?_
    refine e_lcmp (pc := 37) dX6_firstOtherwise_37 ?_
    refine e_if_eq (pc := 38) dX6_firstOtherwise_38 (t := 43) (by decide) (fun c_38 => ?_) (fun c_38 => ?_)
    · skip
      refine e_incC2 (pc := 43) dX6_firstOtherwise_43 (nI_1 i) (Nat.le_of_ble_eq_true rfl) rfl ?_
      refine e_goto (pc := 46) dX6_firstOtherwise_46 (t := 2) (by decide) ?_
      exact ih (i + 1) u1 c1 hH1 (hk0.trans hk1) (by omega) (by rw [← hV, if_pos (mc_cmp_eq.mp c_38)])
    · skip
      refine e_iloadn (pc := 41) dX6_firstOtherwise_41 rfl ?_
      exact e_iret (pc := 42) dX6_firstOtherwise_42 rfl (Nat.le_refl _) (Nat.le_refl _) ⟨by rw [← hV, if_neg (fun q => c_38 (mc_cmp_eq.mpr q))], u1, c1, hH1, hk0.trans hk1, rfl⟩
theorem sp_x_first {s u m n : Nat → Int32} {a c b d : Nat → List Int32} {q : List (Option Nat)} {h : Nat} {z : mc_W} {K mo nu ba ye : Int32} {sg : Nat → List Int32} (hH : xHd q z h u c K mo nu ba ye sg) {k : Nat} (hk : k < 4) (hL : xL a) (hS : xS s) (hN : xev (xrow s a k)) : mc_T yX6_firstOtherwise cX6_firstOtherwise 3 (some .int) 7 [.ref (21 + 2 * k), .ref 17] (WW s a q u c h m b n d z) (some (.int (xunl K mo nu ba ye sg (xrow s a k)))) (fun w1 => ∃ u1 c1, xHd q z h u1 c1 K mo nu ba ye sg ∧ xKc c c1 ∧ w1 = (WW s a q u1 c1 h m b n d z)) := by
  refine mc_start (own := RX6) (ini := false) rfl (by decide +kernel) (fun h => by cases h) (Nat.le_of_ble_eq_true rfl) ?_
  show mc_E _ _ _ _ _ [some (.ref (21 + 2 * k)), some (.ref 17), none] [] _ _ _
  refine e_iconst (v := 0) (pc := 0) dX6_firstOtherwise_0 (by decide) ?_
  refine e_isn2 (pc := 1) dX6_firstOtherwise_1 (Nat.le_of_ble_eq_true rfl) rfl ?_
  exact lp_x_first hk hL hS hN _ 0 u c hH (xKc_refl c) (by omega) rfl
def xbit (x n : Int32) : Int32 := if x = -1 then (1 : Int32) <<< (n &&& 31) else 0
theorem sp_x_bitOf {s u m n : Nat → Int32} {a c b d : Nat → List Int32} {q : List (Option Nat)} {h : Nat} {z : mc_W} {K mo nu ba ye : Int32} {sg : Nat → List Int32} {nn : Int32} (hH : xHd q z h u c K mo nu ba ye sg) {k : Nat} (hk : k < 4) (hL : xL a) (hS : xS s) (hN : xev (xrow s a k)) : mc_T yX6_bitOf cX6_bitOf 3 (some .int) 8 [.int nn, .ref (21 + 2 * k), .ref 17] (WW s a q u c h m b n d z) (some (.int (xbit (xunl K mo nu ba ye sg (xrow s a k)) nn))) (fun w1 => ∃ u1 c1, xHd q z h u1 c1 K mo nu ba ye sg ∧ xKc c c1 ∧ w1 = (WW s a q u1 c1 h m b n d z)) := by
  refine mc_start (own := RX6) (ini := false) rfl (by decide +kernel) (fun h => by cases h) (Nat.le_of_ble_eq_true rfl) ?_
  show mc_E _ _ _ _ _ [some (.int nn), some (.ref (21 + 2 * k)), some (.ref 17)] [] _ _ _
  refine e_aloadn (pc := 0) dX6_bitOf_0 rfl ?_
  refine e_aloadn (pc := 1) dX6_bitOf_1 rfl ?_
  refine e_csX (pc := 2) (sp_x_first hH hk hL hS hN) dX6_bitOf_2 kX6_278 rfl rfl (mc_CR_of (Nat.le_of_ble_eq_true rfl) (Nat.le_of_ble_eq_true rfl) (Nat.le_refl _) (Nat.le_refl _)) (Nat.le_of_ble_eq_true rfl) (fun w1 hw1 => ?_)
  obtain ⟨u1, c1, hH1, hk1, rfl⟩ := hw1
  refine e_iconst (v := -1) (pc := 5) dX6_bitOf_5 (by decide) ?_
  refine e_icmp_ne (pc := 6) dX6_bitOf_6 (t := 15) (by decide) (fun c_6 => ?_) (fun c_6 => ?_)
  · skip
    refine e_iconst (v := 0) (pc := 15) dX6_bitOf_15 (by decide) ?_
    exact e_iret (pc := 16) dX6_bitOf_16 rfl (Nat.le_refl _) (Nat.le_refl _) ⟨by unfold xbit; rw [if_neg c_6], u1, c1, hH1, hk1, rfl⟩
  · skip
    refine e_iconst (v := 1) (pc := 9) dX6_bitOf_9 (by decide) ?_
    refine e_iloadn (pc := 10) dX6_bitOf_10 rfl ?_
    refine e_ishl (pc := 11) dX6_bitOf_11 ?_
    refine e_goto (pc := 12) dX6_bitOf_12 (t := 16) (by decide) ?_
    exact e_iret (pc := 16) dX6_bitOf_16 rfl (Nat.le_refl _) (Nat.le_refl _) ⟨by unfold xbit; rw [if_pos c_6], u1, c1, hH1, hk1, rfl⟩
def xjudge (s : Nat → Int32) (a : Nat → List Int32) (sg : Nat → List Int32) (k : Nat) (j : Int32) : Int32 := if ¬ xtw s a k j = 0 then xtw s a k j else xunl (gt (a 0) j) (gt (a 1) j) j (s 0) (s 1) sg (xrow s a k)
theorem sp_x_judge {s u m n : Nat → Int32} {a c b d : Nat → List Int32} {q : List (Option Nat)} {h : Nat} {z : mc_W} {T : Nat} {sg : Nat → Nat → List Int32} {k : Nat} (hk : k < 4) (hS : xS s) {j : Int32} (hO : xOK s a q c z T sg) : mc_T yX6_judge cX6_judge 4 (some .int) 8 [.ref 0, .int (nI k), .int j] (WW s a q u c h m b n d z) (some (.int (xjudge s a (sg (tl s)) k j))) (fun w1 => ∃ u1 c1 h1, xC c1 ∧ w1 = (WW s a q u1 c1 h1 m b n d z)) := by
  refine mc_start (own := RX6) (ini := false) rfl (by decide +kernel) (fun h => by cases h) (Nat.le_of_ble_eq_true rfl) ?_
  show mc_E _ _ _ _ _ [some (.ref 0), some (.int (nI k)), some (.int j), none] [] _ _ _
  have hL := hO.1
  have hl40 := (xrow_len hk hL hS).2
  refine e_aloadn (pc := 0) dX6_judge_0 rfl ?_
  refine e_iloadn (pc := 1) dX6_judge_1 rfl ?_
  refine e_iloadn (pc := 2) dX6_judge_2 rfl ?_
  refine e_cvD (pc := 3) (sp_x_refRowsBy hk hL hS hO.2.1) dX6_judge_3 kX6_275 rfl rfl rfl rfl rfl (mc_CR_of (Nat.le_of_ble_eq_true rfl) (Nat.le_of_ble_eq_true rfl) (Nat.le_refl _) (Nat.le_refl _)) (Nat.le_of_ble_eq_true rfl) ?_
  refine e_isn3 (pc := 6) dX6_judge_6 (Nat.le_of_ble_eq_true rfl) rfl ?_
  refine e_iloadn (pc := 7) dX6_judge_7 rfl ?_
  refine e_if_eq (pc := 8) dX6_judge_8 (t := 13) (by decide) (fun c_8 => ?_) (fun c_8 => ?_)
  · skip
    refine e_aloadn (pc := 13) dX6_judge_13 rfl ?_
    refine e_iloadn (pc := 14) dX6_judge_14 rfl ?_
    refine e_cvD (pc := 15) (sp_x_sheetAt hk) dX6_judge_15 kX6_171 rfl rfl rfl rfl rfl (mc_CR_of (Nat.le_of_ble_eq_true rfl) (Nat.le_of_ble_eq_true rfl) (Nat.le_refl _) (Nat.le_refl _)) (Nat.le_of_ble_eq_true rfl) ?_
    refine e_aloadn (pc := 18) dX6_judge_18 rfl ?_
    refine e_iloadn (pc := 19) dX6_judge_19 rfl ?_
    refine e_cvX (pc := 20) (sp_x_handOf hO (xtw_0 c_8).2) dX6_judge_20 kX6_121 rfl rfl rfl rfl rfl (mc_CR_of (Nat.le_of_ble_eq_true rfl) (Nat.le_of_ble_eq_true rfl) (Nat.le_refl _) (Nat.le_refl _)) (Nat.le_of_ble_eq_true rfl) (fun w1 hw1 => ?_)
    obtain ⟨u1, c1, hH, hk1, rfl⟩ := hw1
    refine e_csX (pc := 23) (sp_x_first hH hk hL hS (xsw_ev hl40 (xtw_0 c_8).1)) dX6_judge_23 kX6_278 rfl rfl (mc_CR_of (Nat.le_of_ble_eq_true rfl) (Nat.le_of_ble_eq_true rfl) (Nat.le_refl _) (Nat.le_refl _)) (Nat.le_of_ble_eq_true rfl) (fun w1 hw1 => ?_)
    obtain ⟨u2, c2, hH2, hk2, rfl⟩ := hw1
    exact e_iret (pc := 26) dX6_judge_26 rfl (Nat.le_refl _) (Nat.le_refl _) ⟨by unfold xjudge; rw [if_neg (show ¬ ¬ xtw s a k j = 0 from fun q => q c_8)], u2, c2, _, hH2.C (hk1.trans hk2) hO.2.2.2.2.2.1, rfl⟩
  · skip
    refine e_iloadn (pc := 11) dX6_judge_11 rfl ?_
    exact e_iret (pc := 12) dX6_judge_12 rfl (Nat.le_refl _) (Nat.le_refl _) ⟨by unfold xjudge; rw [if_pos (show ¬ xtw s a k j = 0 from c_8)], u, c, h, hO.2.2.2.2.2.1, rfl⟩
theorem sp_x_judge0 {s u m n : Nat → Int32} {a c b d : Nat → List Int32} {q : List (Option Nat)} {h : Nat} {z : mc_W} {j : Int32} {x0 : Int32} (hv : mc_wi x0 0 3 = false) : mc_D yX6_judge cX6_judge 4 (some .int) 7 [.ref 0, .int x0, .int j] (WW s a q u c h m b n d z) (some (.int (-2))) (WW s a q u c h m b n d z) := by
  refine mc_start (own := RX6) (ini := false) rfl (by decide +kernel) (fun h => by cases h) (Nat.le_of_ble_eq_true rfl) ?_
  show mc_E _ _ _ _ _ [some (.ref 0), some (.int x0), some (.int j), none] [] _ _ _
  refine e_aloadn (pc := 0) dX6_judge_0 rfl ?_
  refine e_iloadn (pc := 1) dX6_judge_1 rfl ?_
  refine e_iloadn (pc := 2) dX6_judge_2 rfl ?_
  refine e_cvD (pc := 3) (sp_x_refRowsBy0 hv) dX6_judge_3 kX6_275 rfl rfl rfl rfl rfl (mc_CR_of (Nat.le_of_ble_eq_true rfl) (Nat.le_of_ble_eq_true rfl) (Nat.le_refl _) (Nat.le_refl _)) (Nat.le_of_ble_eq_true rfl) ?_
  refine e_isn3 (pc := 6) dX6_judge_6 (Nat.le_of_ble_eq_true rfl) rfl ?_
  refine e_iloadn (pc := 7) dX6_judge_7 rfl ?_
  refine e_if_eq (pc := 8) dX6_judge_8 (t := 13) (by decide) (fun c_8 => absurd c_8 (by decide)) (fun _ => ?_)
  refine e_iloadn (pc := 11) dX6_judge_11 rfl ?_
  exact e_iret (pc := 12) dX6_judge_12 rfl (Nat.le_refl _) (Nat.le_refl _) ⟨rfl, rfl⟩
theorem ybits_s (off : Nat → Int32) (f i : Nat) (acc : Int32) : ybits off (f + 1) i acc = ybits off f (i + 1) (acc ||| xbit (off i) (nI i)) := rfl
def xwhf (s : Nat → Int32) (a : Nat → List Int32) (sg : Nat → List Int32) (k : Nat) (i : Nat) : Int32 := xunl (gt (a 0) (nI i)) (gt (a 1) (nI i)) (nI i) (s 0) (s 1) sg (xrow s a k)
def xwhose (s : Nat → Int32) (a : Nat → List Int32) (sg : Nat → List Int32) (k : Nat) : Int32 := if ¬ xsw s a k = 0 then xsw s a k else ybits (xwhf s a sg k) (s 2).toNatClampNeg 0 0
theorem lp_x_whose {s m n : Nat → Int32} {a b d : Nat → List Int32} {q : List (Option Nat)}  {z : mc_W} {T : Nat} {sg : Nat → Nat → List Int32} {k : Nat} {V : Int32} {N : Nat} (hk : k < 4) (hS : xS s) (hE : xev (xrow s a k)) (hN : s 2 = nI N) (hN5 : N ≤ 5) :
    ∀ (f i : Nat) (acc : Int32) (u : Nat → Int32) (c : Nat → List Int32) (h : Nat), xOK s a q c z T sg → i + f = N → ybits (xwhf s a (sg (tl s)) k) f i acc = V →
      mc_E RX6 cX6_whose 5 (mc_JM (some .int) false 9 0 0 (fun r' w' => r' = some (.int V) ∧ ∃ u1 c1 h1, xC c1 ∧ w' = (WW s a q u1 c1 h1 m b n d z))) 17 [some (.ref 0), some (.int (nI k)), some (.int 0), some (.int acc), some (.int (nI i))] [] (WW s a q u c h m b n d z) 0 0 := by
  intro f
  induction f with
  | zero =>
    intro i acc u c h hO hi hV
    have e : i = N := by omega
    subst e
    simp only [ybits] at hV
    subst hV
    refine e_iload (pc := 17) dX6_whose_17 rfl ?_
    refine e_aloadn (pc := 19) dX6_whose_19 rfl ?_
    refine e_get (pc := 20) dX6_whose_20 fX6_76 rfl rfl ?_
    refine e_icmp_ge (pc := 23) dX6_whose_23 (t := 51) (by decide) (fun _ => ?_) (fun c_23 => absurd (by rw [hN]; exact nI_le (Nat.le_refl _) (by omega)) c_23)
    refine e_iloadn (pc := 51) dX6_whose_51 rfl ?_
    exact e_iret (pc := 52) dX6_whose_52 rfl (Nat.le_refl _) (Nat.le_refl _) ⟨rfl, u, c, h, hO.2.2.2.2.2.1, rfl⟩
  | succ f ih =>
    intro i acc u c h hO hi hV
    rw [ybits_s] at hV
    have hL := hO.1
    have hi2 : i < N := by omega
    have hck : mc_wi (nI i) 0 (s 2 - 1) = true := by rw [hN, mc_wi_iff, i0, nI_toInt (by omega), i32_sub (by rw [nI_toInt (by omega)]; omega) (by decide), nI_toInt (by omega), i1]; omega
    refine e_iload (pc := 17) dX6_whose_17 rfl ?_
    refine e_aloadn (pc := 19) dX6_whose_19 rfl ?_
    refine e_get (pc := 20) dX6_whose_20 fX6_76 rfl rfl ?_
    refine e_icmp_ge (pc := 23) dX6_whose_23 (t := 51) (by decide) (fun c_23 => absurd c_23 (by rw [hN]; exact nI_ge hi2 (by omega))) (fun _ => ?_)
    refine e_iloadn (pc := 26) dX6_whose_26 rfl ?_
    refine e_iload (pc := 27) dX6_whose_27 rfl ?_
    refine e_aloadn (pc := 29) dX6_whose_29 rfl ?_
    refine e_iloadn (pc := 30) dX6_whose_30 rfl ?_
    refine e_cvD (pc := 31) (sp_x_sheetAt hk) dX6_whose_31 kX6_171 rfl rfl rfl rfl rfl (mc_CR_of (Nat.le_of_ble_eq_true rfl) (Nat.le_of_ble_eq_true rfl) (Nat.le_refl _) (Nat.le_refl _)) (Nat.le_of_ble_eq_true rfl) ?_
    refine e_aloadn (pc := 34) dX6_whose_34 rfl ?_
    refine e_iload (pc := 35) dX6_whose_35 rfl ?_
    refine e_cvX (pc := 37) (sp_x_handOf hO hck) dX6_whose_37 kX6_121 rfl rfl rfl rfl rfl (mc_CR_of (Nat.le_of_ble_eq_true rfl) (Nat.le_of_ble_eq_true rfl) (Nat.le_refl _) (Nat.le_refl _)) (Nat.le_of_ble_eq_true rfl) (fun w1 hw1 => ?_)
    obtain ⟨u1, c1, hH, hk1, rfl⟩ := hw1
    refine e_csX (pc := 40) (sp_x_bitOf hH hk hL hS hE) dX6_whose_40 kX6_282 rfl rfl (mc_CR_of (Nat.le_of_ble_eq_true rfl) (Nat.le_of_ble_eq_true rfl) (Nat.le_refl _) (Nat.le_refl _)) (Nat.le_of_ble_eq_true rfl) (fun w1 hw1 => ?_)
    obtain ⟨u2, c2, hH2, hk2, rfl⟩ := hw1
    refine e_ior (pc := 43) dX6_whose_43 ?_
    refine e_isn3 (pc := 44) dX6_whose_44 (Nat.le_of_ble_eq_true rfl) rfl ?_
    refine e_incC4 (pc := 45) dX6_whose_45 (nI_1 i) (Nat.le_of_ble_eq_true rfl) rfl ?_
    refine e_goto (pc := 48) dX6_whose_48 (t := 17) (by decide) ?_
    exact ih (i + 1) _ _ _ _ (hO.c (hH2.C (hk1.trans hk2) hO.2.2.2.2.2.1)) (by omega) hV
theorem sp_x_whose {s u m n : Nat → Int32} {a c b d : Nat → List Int32} {q : List (Option Nat)} {h : Nat} {z : mc_W} {T : Nat} {sg : Nat → Nat → List Int32} {k : Nat} (hk : k < 4) (hS : xS s)  (hO : xOK s a q c z T sg) : mc_T yX6_whose cX6_whose 5 (some .int) 9 [.ref 0, .int (nI k)] (WW s a q u c h m b n d z) (some (.int (xwhose s a (sg (tl s)) k))) (fun w1 => ∃ u1 c1 h1, xC c1 ∧ w1 = (WW s a q u1 c1 h1 m b n d z)) := by
  refine mc_start (own := RX6) (ini := false) rfl (by decide +kernel) (fun h => by cases h) (Nat.le_of_ble_eq_true rfl) ?_
  show mc_E _ _ _ _ _ [some (.ref 0), some (.int (nI k)), none, none, none] [] _ _ _
  have hL := hO.1
  have hl40 := (xrow_len hk hL hS).2
  refine e_aloadn (pc := 0) dX6_whose_0 rfl ?_
  refine e_iloadn (pc := 1) dX6_whose_1 rfl ?_
  refine e_cvD (pc := 2) (sp_x_refRows hk hL hS) dX6_whose_2 kX6_286 rfl rfl rfl rfl rfl (mc_CR_of (Nat.le_of_ble_eq_true rfl) (Nat.le_of_ble_eq_true rfl) (Nat.le_refl _) (Nat.le_refl _)) (Nat.le_of_ble_eq_true rfl) ?_
  refine e_isn2 (pc := 5) dX6_whose_5 (Nat.le_of_ble_eq_true rfl) rfl ?_
  refine e_iloadn (pc := 6) dX6_whose_6 rfl ?_
  refine e_if_eq (pc := 7) dX6_whose_7 (t := 12) (by decide) (fun c_7 => ?_) (fun c_7 => ?_)
  · skip
    refine e_iconst (v := 0) (pc := 12) dX6_whose_12 (by decide) ?_
    refine e_isn3 (pc := 13) dX6_whose_13 (Nat.le_of_ble_eq_true rfl) rfl ?_
    refine e_iconst (v := 0) (pc := 14) dX6_whose_14 (by decide) ?_
    refine e_isw4 (pc := 15) dX6_whose_15 (Nat.le_of_ble_eq_true rfl) rfl ?_
    have e : xwhose s a (sg (tl s)) k = ybits (xwhf s a (sg (tl s)) k) (s 2).toNatClampNeg 0 0 := if_neg (fun q => q c_7)
    rw [e, show xsw s a k = 0 from c_7]
    have hC := hO.2.1
    have tn := tnc hC.1
    exact lp_x_whose (N := (s 2).toNatClampNeg) hk hS (xsw_ev hl40 c_7) (nI_back hC.1) (by have := hC.2; omega) _ 0 0 u c h hO (by omega) rfl
  · skip
    refine e_iloadn (pc := 10) dX6_whose_10 rfl ?_
    exact e_iret (pc := 11) dX6_whose_11 rfl (Nat.le_refl _) (Nat.le_refl _) ⟨by unfold xwhose; rw [if_pos (show ¬ xsw s a k = 0 from c_7)], u, c, h, hO.2.2.2.2.2.1, rfl⟩
theorem sp_x_whose0 {s u m n : Nat → Int32} {a c b d : Nat → List Int32} {q : List (Option Nat)} {h : Nat} {z : mc_W}  {x0 : Int32} (hv : mc_wi x0 0 3 = false) : mc_D yX6_whose cX6_whose 5 (some .int) 6 [.ref 0, .int x0] (WW s a q u c h m b n d z) (some (.int (-2))) (WW s a q u c h m b n d z) := by
  refine mc_start (own := RX6) (ini := false) rfl (by decide +kernel) (fun h => by cases h) (Nat.le_of_ble_eq_true rfl) ?_
  show mc_E _ _ _ _ _ [some (.ref 0), some (.int x0), none, none, none] [] _ _ _
  refine e_aloadn (pc := 0) dX6_whose_0 rfl ?_
  refine e_iloadn (pc := 1) dX6_whose_1 rfl ?_
  refine e_cvD (pc := 2) (sp_x_refRows0 hv) dX6_whose_2 kX6_286 rfl rfl rfl rfl rfl (mc_CR_of (Nat.le_of_ble_eq_true rfl) (Nat.le_of_ble_eq_true rfl) (Nat.le_refl _) (Nat.le_refl _)) (Nat.le_of_ble_eq_true rfl) ?_
  refine e_isn2 (pc := 5) dX6_whose_5 (Nat.le_of_ble_eq_true rfl) rfl ?_
  refine e_iloadn (pc := 6) dX6_whose_6 rfl ?_
  refine e_if_eq (pc := 7) dX6_whose_7 (t := 12) (by decide) (fun c_7 => absurd c_7 (by decide)) (fun _ => ?_)
  refine e_iloadn (pc := 10) dX6_whose_10 rfl ?_
  exact e_iret (pc := 11) dX6_whose_11 rfl (Nat.le_refl _) (Nat.le_refl _) ⟨rfl, rfl⟩
end Zj_6f_x16
section Zj_6g_x17
/-! ===== laws, kinds, film ===== -/
def xlw (s : Nat → Int32) (a : Nat → List Int32) (sg : Nat → Nat → List Int32) (k : Nat) (j : Int32) (i : Nat) : Int32 := xunl (gt (a 0) j) (gt (a 1) j) j (s 0) (s 1) (sg i) (xrow s a k)
def xlaws (s : Nat → Int32) (a : Nat → List Int32) (sg : Nat → Nat → List Int32) (T k : Nat) (j : Int32) : Int32 := if ¬ xtw s a k j = 0 then xtw s a k j else ybits (xlw s a sg k j) T 0 0
theorem lp_x_laws {s m n : Nat → Int32} {a b d : Nat → List Int32} {q : List (Option Nat)}  {z : mc_W} {T : Nat} {sg : Nat → Nat → List Int32} {c0 : Nat → List Int32} {k : Nat} {j : Int32} {V : Int32} (hO : xOK s a q c0 z T sg) (hk : k < 4) (hS : xS s) (hE : xev (xrow s a k)) (h3 : s 3 = nI T) :
    ∀ (f i : Nat) (acc ba ye : Int32) (sg1 : Nat → List Int32) (u : Nat → Int32) (c : Nat → List Int32) (h : Nat), xHd q z h u c (gt (a 0) j) (gt (a 1) j) j ba ye sg1 → xKc c0 c → i + f = T → ybits (xlw s a sg k j) f i acc = V →
      mc_E RX6 cX6_laws 7 (mc_JM (some .int) false 9 0 0 (fun r' w' => r' = some (.int V) ∧ ∃ u1 c1 h1, xC c1 ∧ w' = (WW s a q u1 c1 h1 m b n d z))) 26 [some (.ref 0), some (.int (nI k)), some (.int j), some (.int 0), some (.ref 17), some (.int acc), some (.int (nI i))] [] (WW s a q u c h m b n d z) 0 0 := by
  have hL := hO.1
  obtain ⟨-, -, -, hT, -, hc0, hb0, -⟩ := id hO
  have hT6 := hT.2.1
  intro f
  induction f with
  | zero =>
    intro i acc ba ye sg1 u c h hH hk0 hi hV
    have e : i = T := by omega
    subst e
    simp only [ybits] at hV
    subst hV
    refine e_iload (pc := 26) dX6_laws_26 rfl ?_
    refine e_aloadn (pc := 28) dX6_laws_28 rfl ?_
    refine e_get (pc := 29) dX6_laws_29 fX6_36 rfl rfl ?_
    refine e_icmp_ge (pc := 32) dX6_laws_32 (t := 77) (by decide) (fun _ => ?_) (fun c_32 => absurd (by rw [h3]; exact nI_le (Nat.le_refl _) (by omega)) c_32)
    refine e_iload (pc := 77) dX6_laws_77 rfl ?_
    exact e_iret (pc := 79) dX6_laws_79 rfl (Nat.le_refl _) (Nat.le_refl _) ⟨rfl, u, c, h, hH.C hk0 hc0, rfl⟩
  | succ f ih =>
    intro i acc ba ye sg1 u c h hH hk0 hi hV
    rw [ybits_s] at hV
    have hi2 : i < T := by omega
    refine e_iload (pc := 26) dX6_laws_26 rfl ?_
    refine e_aloadn (pc := 28) dX6_laws_28 rfl ?_
    refine e_get (pc := 29) dX6_laws_29 fX6_36 rfl rfl ?_
    refine e_icmp_ge (pc := 32) dX6_laws_32 (t := 77) (by decide) (fun c_32 => absurd c_32 (by rw [h3]; exact nI_ge hi2 (by omega))) (fun _ => ?_)
    refine e_aload (pc := 35) dX6_laws_35 rfl ?_
    refine e_aloadn (pc := 37) dX6_laws_37 rfl ?_
    refine e_get (pc := 38) dX6_laws_38 fX6_7 rfl rfl ?_
    refine e_aloadn (pc := 41) dX6_laws_41 rfl ?_
    refine e_get (pc := 42) dX6_laws_42 fX6_13 rfl rfl ?_
    refine e_aloadn (pc := 45) dX6_laws_45 rfl ?_
    refine e_iload (pc := 46) dX6_laws_46 rfl ?_
    refine e_cvD (pc := 48) (sp_x_textAt hT (rfl : nI i = nI i) hi2) dX6_laws_48 kX6_216 rfl rfl rfl rfl rfl (mc_CR_of (Nat.le_of_ble_eq_true rfl) (Nat.le_of_ble_eq_true rfl) (Nat.le_refl _) (Nat.le_refl _)) (Nat.le_of_ble_eq_true rfl) ?_
    refine e_cvY (pc := 51) (sp_x_liveH (bb := s 0) (yy := s 1) (h1 := xad i) (sg1 := sg i) hH (hT.2.2 _ hi2).2 hb0) dX6_laws_51 kX6_220 rfl rfl rfl rfl rfl (mc_CR_of (Nat.le_of_ble_eq_true rfl) (Nat.le_of_ble_eq_true rfl) (Nat.le_refl _) (Nat.le_refl _)) (Nat.le_of_ble_eq_true rfl) (fun w1 hw1 => ?_)
    obtain ⟨c1, hH1, hk1, rfl⟩ := hw1
    refine e_iload (pc := 54) dX6_laws_54 rfl ?_
    refine e_iload (pc := 56) dX6_laws_56 rfl ?_
    refine e_aloadn (pc := 58) dX6_laws_58 rfl ?_
    refine e_iloadn (pc := 59) dX6_laws_59 rfl ?_
    refine e_cvD (pc := 60) (sp_x_sheetAt hk) dX6_laws_60 kX6_171 rfl rfl rfl rfl rfl (mc_CR_of (Nat.le_of_ble_eq_true rfl) (Nat.le_of_ble_eq_true rfl) (Nat.le_refl _) (Nat.le_refl _)) (Nat.le_of_ble_eq_true rfl) ?_
    refine e_aload (pc := 63) dX6_laws_63 rfl ?_
    refine e_csX (pc := 65) (sp_x_bitOf hH1 hk hL hS hE) dX6_laws_65 kX6_282 rfl rfl (mc_CR_of (Nat.le_of_ble_eq_true rfl) (Nat.le_of_ble_eq_true rfl) (Nat.le_refl _) (Nat.le_refl _)) (Nat.le_of_ble_eq_true rfl) (fun w1 hw1 => ?_)
    obtain ⟨u2, c2, hH2, hk2, rfl⟩ := hw1
    refine e_ior (pc := 68) dX6_laws_68 ?_
    refine e_isw5 (pc := 69) dX6_laws_69 (Nat.le_of_ble_eq_true rfl) rfl ?_
    refine e_incC6 (pc := 71) dX6_laws_71 (nI_1 i) (Nat.le_of_ble_eq_true rfl) rfl ?_
    refine e_goto (pc := 74) dX6_laws_74 (t := 26) (by decide) ?_
    exact ih (i + 1) _ _ _ _ _ _ _ hH2 ((hk0.trans hk1).trans hk2) (by omega) hV
theorem sp_x_laws {s u m n : Nat → Int32} {a c b d : Nat → List Int32} {q : List (Option Nat)} {h : Nat} {z : mc_W} {T : Nat} {sg : Nat → Nat → List Int32} {k : Nat} (hk : k < 4) (hS : xS s) {j : Int32} (h3 : s 3 = nI T) (hO : xOK s a q c z T sg) : mc_T yX6_laws cX6_laws 7 (some .int) 9 [.ref 0, .int (nI k), .int j] (WW s a q u c h m b n d z) (some (.int (xlaws s a sg T k j))) (fun w1 => ∃ u1 c1 h1, xC c1 ∧ w1 = (WW s a q u1 c1 h1 m b n d z)) := by
  refine mc_start (own := RX6) (ini := false) rfl (by decide +kernel) (fun h => by cases h) (Nat.le_of_ble_eq_true rfl) ?_
  show mc_E _ _ _ _ _ [some (.ref 0), some (.int (nI k)), some (.int j), none, none, none, none] [] _ _ _
  have hL := hO.1
  have hl40 := (xrow_len hk hL hS).2
  refine e_aloadn (pc := 0) dX6_laws_0 rfl ?_
  refine e_iloadn (pc := 1) dX6_laws_1 rfl ?_
  refine e_iloadn (pc := 2) dX6_laws_2 rfl ?_
  refine e_cvD (pc := 3) (sp_x_refRowsBy hk hL hS hO.2.1) dX6_laws_3 kX6_275 rfl rfl rfl rfl rfl (mc_CR_of (Nat.le_of_ble_eq_true rfl) (Nat.le_of_ble_eq_true rfl) (Nat.le_refl _) (Nat.le_refl _)) (Nat.le_of_ble_eq_true rfl) ?_
  refine e_isn3 (pc := 6) dX6_laws_6 (Nat.le_of_ble_eq_true rfl) rfl ?_
  refine e_iloadn (pc := 7) dX6_laws_7 rfl ?_
  refine e_if_eq (pc := 8) dX6_laws_8 (t := 13) (by decide) (fun c_8 => ?_) (fun c_8 => ?_)
  · skip
    refine e_aloadn (pc := 13) dX6_laws_13 rfl ?_
    refine e_iloadn (pc := 14) dX6_laws_14 rfl ?_
    refine e_cvX (pc := 15) (sp_x_handOf hO (xtw_0 c_8).2) dX6_laws_15 kX6_121 rfl rfl rfl rfl rfl (mc_CR_of (Nat.le_of_ble_eq_true rfl) (Nat.le_of_ble_eq_true rfl) (Nat.le_refl _) (Nat.le_refl _)) (Nat.le_of_ble_eq_true rfl) (fun w1 hw1 => ?_)
    obtain ⟨u1, c1, hH, hk1, rfl⟩ := hw1
    refine e_asw4 (pc := 18) dX6_laws_18 (Nat.le_of_ble_eq_true rfl) rfl ?_
    refine e_iconst (v := 0) (pc := 20) dX6_laws_20 (by decide) ?_
    refine e_isw5 (pc := 21) dX6_laws_21 (Nat.le_of_ble_eq_true rfl) rfl ?_
    refine e_iconst (v := 0) (pc := 23) dX6_laws_23 (by decide) ?_
    refine e_isw6 (pc := 24) dX6_laws_24 (Nat.le_of_ble_eq_true rfl) rfl ?_
    have e : xlaws s a sg T k j = ybits (xlw s a sg k j) T 0 0 := if_neg (fun q => q c_8)
    rw [e, show xtw s a k j = 0 from c_8]
    exact lp_x_laws hO hk hS (xsw_ev hl40 (xtw_0 c_8).1) h3 T 0 0 _ _ _ u1 c1 _ hH hk1 (by omega) rfl
  · skip
    refine e_iloadn (pc := 11) dX6_laws_11 rfl ?_
    exact e_iret (pc := 12) dX6_laws_12 rfl (Nat.le_refl _) (Nat.le_refl _) ⟨by unfold xlaws; rw [if_pos (show ¬ xtw s a k j = 0 from c_8)], u, c, h, hO.2.2.2.2.2.1, rfl⟩
theorem sp_x_laws0 {s u m n : Nat → Int32} {a c b d : Nat → List Int32} {q : List (Option Nat)} {h : Nat} {z : mc_W} {j : Int32} {x0 : Int32} (hv : mc_wi x0 0 3 = false) : mc_D yX6_laws cX6_laws 7 (some .int) 7 [.ref 0, .int x0, .int j] (WW s a q u c h m b n d z) (some (.int (-2))) (WW s a q u c h m b n d z) := by
  refine mc_start (own := RX6) (ini := false) rfl (by decide +kernel) (fun h => by cases h) (Nat.le_of_ble_eq_true rfl) ?_
  show mc_E _ _ _ _ _ [some (.ref 0), some (.int x0), some (.int j), none, none, none, none] [] _ _ _
  refine e_aloadn (pc := 0) dX6_laws_0 rfl ?_
  refine e_iloadn (pc := 1) dX6_laws_1 rfl ?_
  refine e_iloadn (pc := 2) dX6_laws_2 rfl ?_
  refine e_cvD (pc := 3) (sp_x_refRowsBy0 hv) dX6_laws_3 kX6_275 rfl rfl rfl rfl rfl (mc_CR_of (Nat.le_of_ble_eq_true rfl) (Nat.le_of_ble_eq_true rfl) (Nat.le_refl _) (Nat.le_refl _)) (Nat.le_of_ble_eq_true rfl) ?_
  refine e_isn3 (pc := 6) dX6_laws_6 (Nat.le_of_ble_eq_true rfl) rfl ?_
  refine e_iloadn (pc := 7) dX6_laws_7 rfl ?_
  refine e_if_eq (pc := 8) dX6_laws_8 (t := 13) (by decide) (fun c_8 => absurd c_8 (by decide)) (fun _ => ?_)
  refine e_iloadn (pc := 11) dX6_laws_11 rfl ?_
  exact e_iret (pc := 12) dX6_laws_12 rfl (Nat.le_refl _) (Nat.le_refl _) ⟨rfl, rfl⟩
def xk0 (s : Nat → Int32) (a : Nat → List Int32) (sg : Nat → List Int32) (k : Nat) (j : Int32) (i : Nat) : Int32 := xunl (nI i) (gt (a 1) j) j (s 0) (s 1) sg (xrow s a k)
def xk1 (s : Nat → Int32) (a : Nat → List Int32) (sg : Nat → List Int32) (k : Nat) (j : Int32) (i : Nat) : Int32 := xunl (gt (a 0) j) (nI i) j (s 0) (s 1) sg (xrow s a k)
def xk2 (s : Nat → Int32) (a : Nat → List Int32) (sg : Nat → List Int32) (k : Nat) (j : Int32) (i : Nat) : Int32 := xunl (gt (a 0) j) (gt (a 1) j) j (nI i) (s 1) sg (xrow s a k)
def xkinds (s : Nat → Int32) (a : Nat → List Int32) (sg : Nat → List Int32) (k : Nat) (j so : Int32) : Int32 :=
  if ¬ xtw s a k j = 0 then xtw s a k j else if so = 0 then ybits (xk0 s a sg k j) 6 0 0 else if so = 1 then ybits (xk1 s a sg k j) 10 0 0 else if so = 2 then ybits (xk2 s a sg k j) 11 2 0 else -7
theorem lp_x_kinds0 {s m n : Nat → Int32} {a b d : Nat → List Int32} {q : List (Option Nat)}  {z : mc_W} {T : Nat} {sg : Nat → Nat → List Int32} {c0 : Nat → List Int32} {k : Nat} {j so : Int32} {V : Int32} (hO : xOK s a q c0 z T sg) (hk : k < 4) (hS : xS s) (hE : xev (xrow s a k)) (hj : mc_wi j 0 (s 2 - 1) = true) :
    ∀ (f i : Nat) (acc : Int32) (K mm : Int32) (u : Nat → Int32) (c : Nat → List Int32), xHd q z (xad (tl s)) u c K mm j (s 0) (s 1) (sg (tl s)) → xKc c0 c → i + f = 6 → ybits (xk0 s a (sg (tl s)) k j) f i acc = V →
      mc_E RX6 cX6_kinds 9 (mc_JM (some .int) false 9 0 0 (fun r' w' => r' = some (.int V) ∧ ∃ u1 c1 h1, xC c1 ∧ w' = (WW s a q u1 c1 h1 m b n d z))) 63 [some (.ref 0), some (.int (nI k)), some (.int j), some (.int so), some (.int 0), some (.ref (21 + 2 * k)), some (.ref 17), some (.int acc), some (.int (nI i))] [] (WW s a q u c (xad (tl s)) m b n d z) 0 0 := by
  have hL := hO.1
  obtain ⟨-, hC, hKK, hT, hs4, hc0, hb0, hm0⟩ := id hO
  have t4 := tnc hs4.1
  have e4 : s 4 = nI (tl s) := nI_back hs4.1
  have l4 : tl s < T := by unfold tl; omega
  have v0 := vp_ck hO.1.1 hj hO.2.1.1 hO.2.1.2
  have v1 := vp_ck hO.1.2.1 hj hO.2.1.1 hO.2.1.2
  have jl : j.toNatClampNeg < 5 := by
    have g := vp_in_iff.mp v0
    rw [hO.1.1] at g
    have := tnc g.1
    omega
  intro f
  induction f with
  | zero =>
    intro i acc K mm u c hH hk0 hi hV
    have e : i = 6 := by omega
    subst e
    simp only [ybits] at hV
    subst hV
    refine e_iload (pc := 63) dX6_kinds_63 rfl ?_
    refine e_iconst (v := 5) (pc := 65) dX6_kinds_65 (by decide) ?_
    refine e_icmp_gt (pc := 66) dX6_kinds_66 (t := 103) (by decide) (fun _ => ?_) (fun c_66 => absurd (by decide) c_66)
    refine e_iload (pc := 103) dX6_kinds_103 rfl ?_
    exact e_iret (pc := 105) dX6_kinds_105 rfl (Nat.le_refl _) (Nat.le_refl _) ⟨rfl, u, c, _, hH.C hk0 hc0, rfl⟩
  | succ f ih =>
    intro i acc K mm u c hH hk0 hi hV
    rw [ybits_s] at hV
    have hi2 : i < 6 := by omega
    have hi0 : 0 ≤ (nI i).toInt ∧ (nI i).toInt ≤ 5 := by rw [nI_toInt (by omega)]; omega
    refine e_iload (pc := 63) dX6_kinds_63 rfl ?_
    refine e_iconst (v := 5) (pc := 65) dX6_kinds_65 (by decide) ?_
    refine e_icmp_gt (pc := 66) dX6_kinds_66 (t := 103) (by decide) (fun c_66 => absurd c_66 (fun q => absurd (nI_le (a := i) (b := 5) (by omega) (by decide)) (Int32.not_le.mpr q))) (fun _ => ?_)
    refine e_aload (pc := 69) dX6_kinds_69 rfl ?_
    refine e_iloadn (pc := 71) dX6_kinds_71 rfl ?_
    refine e_iload (pc := 72) dX6_kinds_72 rfl ?_
    refine e_aloadn (pc := 74) dX6_kinds_74 rfl ?_
    refine e_get (pc := 75) dX6_kinds_75 fX6_20 rfl rfl ?_
    refine e_iloadn (pc := 78) dX6_kinds_78 rfl ?_
    refine ald_moreOf (pc := 79) dX6_kinds_79 v1 ?_
    refine e_cvY (pc := 80) (sp_x_beH (nn := j) (KK := nI i) (mw := gt (a 1) j) hH hi0 (hm0 _ jl)) dX6_kinds_80 kX6_281 rfl rfl rfl rfl rfl (mc_CR_of (Nat.le_of_ble_eq_true rfl) (Nat.le_of_ble_eq_true rfl) (Nat.le_refl _) (Nat.le_refl _)) (Nat.le_of_ble_eq_true rfl) (fun w1 hw1 => ?_)
    obtain ⟨u1, c1, hH1, hk1, rfl⟩ := hw1
    refine e_iload (pc := 83) dX6_kinds_83 rfl ?_
    refine e_iload (pc := 85) dX6_kinds_85 rfl ?_
    refine e_aload (pc := 87) dX6_kinds_87 rfl ?_
    refine e_aload (pc := 89) dX6_kinds_89 rfl ?_
    refine e_csX (pc := 91) (sp_x_bitOf hH1 hk hL hS hE) dX6_kinds_91 kX6_282 rfl rfl (mc_CR_of (Nat.le_of_ble_eq_true rfl) (Nat.le_of_ble_eq_true rfl) (Nat.le_refl _) (Nat.le_refl _)) (Nat.le_of_ble_eq_true rfl) (fun w1 hw1 => ?_)
    obtain ⟨u2, c2, hH2, hk2, rfl⟩ := hw1
    refine e_ior (pc := 94) dX6_kinds_94 ?_
    refine e_isw7 (pc := 95) dX6_kinds_95 (Nat.le_of_ble_eq_true rfl) rfl ?_
    refine e_incC8 (pc := 97) dX6_kinds_97 (nI_1 i) (Nat.le_of_ble_eq_true rfl) rfl ?_
    refine e_goto (pc := 100) dX6_kinds_100 (t := 63) (by decide) ?_
    exact ih (i + 1) _ _ _ _ _ hH2 ((hk0.trans hk1).trans hk2) (by omega) hV
theorem lp_x_kinds1 {s m n : Nat → Int32} {a b d : Nat → List Int32} {q : List (Option Nat)}  {z : mc_W} {T : Nat} {sg : Nat → Nat → List Int32} {c0 : Nat → List Int32} {k : Nat} {j so : Int32} {V : Int32} (hO : xOK s a q c0 z T sg) (hk : k < 4) (hS : xS s) (hE : xev (xrow s a k)) (hj : mc_wi j 0 (s 2 - 1) = true) :
    ∀ (f i : Nat) (acc : Int32) (K mm : Int32) (u : Nat → Int32) (c : Nat → List Int32), xHd q z (xad (tl s)) u c K mm j (s 0) (s 1) (sg (tl s)) → xKc c0 c → i + f = 10 → ybits (xk1 s a (sg (tl s)) k j) f i acc = V →
      mc_E RX6 cX6_kinds 9 (mc_JM (some .int) false 9 0 0 (fun r' w' => r' = some (.int V) ∧ ∃ u1 c1 h1, xC c1 ∧ w' = (WW s a q u1 c1 h1 m b n d z))) 109 [some (.ref 0), some (.int (nI k)), some (.int j), some (.int so), some (.int 0), some (.ref (21 + 2 * k)), some (.ref 17), some (.int acc), some (.int (nI i))] [] (WW s a q u c (xad (tl s)) m b n d z) 0 0 := by
  have hL := hO.1
  obtain ⟨-, hC, hKK, hT, hs4, hc0, hb0, hm0⟩ := id hO
  have t4 := tnc hs4.1
  have e4 : s 4 = nI (tl s) := nI_back hs4.1
  have l4 : tl s < T := by unfold tl; omega
  have v0 := vp_ck hO.1.1 hj hO.2.1.1 hO.2.1.2
  have v1 := vp_ck hO.1.2.1 hj hO.2.1.1 hO.2.1.2
  have jl : j.toNatClampNeg < 5 := by
    have g := vp_in_iff.mp v0
    rw [hO.1.1] at g
    have := tnc g.1
    omega
  intro f
  induction f with
  | zero =>
    intro i acc K mm u c hH hk0 hi hV
    have e : i = 10 := by omega
    subst e
    simp only [ybits] at hV
    subst hV
    refine e_iload (pc := 109) dX6_kinds_109 rfl ?_
    refine e_bipush (v := 9) (pc := 111) dX6_kinds_111 (by decide) ?_
    refine e_icmp_gt (pc := 113) dX6_kinds_113 (t := 150) (by decide) (fun _ => ?_) (fun c_113 => absurd (by decide) c_113)
    refine e_iload (pc := 150) dX6_kinds_150 rfl ?_
    exact e_iret (pc := 152) dX6_kinds_152 rfl (Nat.le_refl _) (Nat.le_refl _) ⟨rfl, u, c, _, hH.C hk0 hc0, rfl⟩
  | succ f ih =>
    intro i acc K mm u c hH hk0 hi hV
    rw [ybits_s] at hV
    have hi2 : i < 10 := by omega
    have hi0 : 0 ≤ (nI i).toInt ∧ (nI i).toInt ≤ 9 := by rw [nI_toInt (by omega)]; omega
    refine e_iload (pc := 109) dX6_kinds_109 rfl ?_
    refine e_bipush (v := 9) (pc := 111) dX6_kinds_111 (by decide) ?_
    refine e_icmp_gt (pc := 113) dX6_kinds_113 (t := 150) (by decide) (fun c_113 => absurd c_113 (fun q => absurd (nI_le (a := i) (b := 9) (by omega) (by decide)) (Int32.not_le.mpr q))) (fun _ => ?_)
    refine e_aload (pc := 116) dX6_kinds_116 rfl ?_
    refine e_iloadn (pc := 118) dX6_kinds_118 rfl ?_
    refine e_aloadn (pc := 119) dX6_kinds_119 rfl ?_
    refine e_get (pc := 120) dX6_kinds_120 fX6_16 rfl rfl ?_
    refine e_iloadn (pc := 123) dX6_kinds_123 rfl ?_
    refine ald_kindOf (pc := 124) dX6_kinds_124 v0 ?_
    refine e_iload (pc := 125) dX6_kinds_125 rfl ?_
    refine e_cvY (pc := 127) (sp_x_beH (nn := j) (KK := gt (a 0) j) (mw := nI i) hH (hKK _ jl) hi0) dX6_kinds_127 kX6_281 rfl rfl rfl rfl rfl (mc_CR_of (Nat.le_of_ble_eq_true rfl) (Nat.le_of_ble_eq_true rfl) (Nat.le_refl _) (Nat.le_refl _)) (Nat.le_of_ble_eq_true rfl) (fun w1 hw1 => ?_)
    obtain ⟨u1, c1, hH1, hk1, rfl⟩ := hw1
    refine e_iload (pc := 130) dX6_kinds_130 rfl ?_
    refine e_iload (pc := 132) dX6_kinds_132 rfl ?_
    refine e_aload (pc := 134) dX6_kinds_134 rfl ?_
    refine e_aload (pc := 136) dX6_kinds_136 rfl ?_
    refine e_csX (pc := 138) (sp_x_bitOf hH1 hk hL hS hE) dX6_kinds_138 kX6_282 rfl rfl (mc_CR_of (Nat.le_of_ble_eq_true rfl) (Nat.le_of_ble_eq_true rfl) (Nat.le_refl _) (Nat.le_refl _)) (Nat.le_of_ble_eq_true rfl) (fun w1 hw1 => ?_)
    obtain ⟨u2, c2, hH2, hk2, rfl⟩ := hw1
    refine e_ior (pc := 141) dX6_kinds_141 ?_
    refine e_isw7 (pc := 142) dX6_kinds_142 (Nat.le_of_ble_eq_true rfl) rfl ?_
    refine e_incC8 (pc := 144) dX6_kinds_144 (nI_1 i) (Nat.le_of_ble_eq_true rfl) rfl ?_
    refine e_goto (pc := 147) dX6_kinds_147 (t := 109) (by decide) ?_
    exact ih (i + 1) _ _ _ _ _ hH2 ((hk0.trans hk1).trans hk2) (by omega) hV
theorem lp_x_kinds2 {s m n : Nat → Int32} {a b d : Nat → List Int32} {q : List (Option Nat)}  {z : mc_W} {T : Nat} {sg : Nat → Nat → List Int32} {c0 : Nat → List Int32} {k : Nat} {j so : Int32} {V : Int32} (hO : xOK s a q c0 z T sg) (hk : k < 4) (hS : xS s) (hE : xev (xrow s a k)) (hj : mc_wi j 0 (s 2 - 1) = true) :
    ∀ (f i : Nat) (acc : Int32) (ba : Int32) (u : Nat → Int32) (c : Nat → List Int32), xHd q z (xad (tl s)) u c (gt (a 0) j) (gt (a 1) j) j ba (s 1) (sg (tl s)) → xKc c0 c → 2 ≤ i → i + f = 13 → ybits (xk2 s a (sg (tl s)) k j) f i acc = V →
      mc_E RX6 cX6_kinds 9 (mc_JM (some .int) false 9 0 0 (fun r' w' => r' = some (.int V) ∧ ∃ u1 c1 h1, xC c1 ∧ w' = (WW s a q u1 c1 h1 m b n d z))) 156 [some (.ref 0), some (.int (nI k)), some (.int j), some (.int so), some (.int 0), some (.ref (21 + 2 * k)), some (.ref 17), some (.int acc), some (.int (nI i))] [] (WW s a q u c (xad (tl s)) m b n d z) 0 0 := by
  have hL := hO.1
  obtain ⟨-, hC, hKK, hT, hs4, hc0, hb0, hm0⟩ := id hO
  have t4 := tnc hs4.1
  have e4 : s 4 = nI (tl s) := nI_back hs4.1
  have l4 : tl s < T := by unfold tl; omega
  have v0 := vp_ck hO.1.1 hj hO.2.1.1 hO.2.1.2
  have v1 := vp_ck hO.1.2.1 hj hO.2.1.1 hO.2.1.2
  have jl : j.toNatClampNeg < 5 := by
    have g := vp_in_iff.mp v0
    rw [hO.1.1] at g
    have := tnc g.1
    omega
  intro f
  induction f with
  | zero =>
    intro i acc ba u c hH hk0 h2 hi hV
    have e : i = 13 := by omega
    subst e
    simp only [ybits] at hV
    subst hV
    refine e_iload (pc := 156) dX6_kinds_156 rfl ?_
    refine e_bipush (v := 12) (pc := 158) dX6_kinds_158 (by decide) ?_
    refine e_icmp_gt (pc := 160) dX6_kinds_160 (t := 202) (by decide) (fun _ => ?_) (fun c_160 => absurd (by decide) c_160)
    refine e_iload (pc := 202) dX6_kinds_202 rfl ?_
    exact e_iret (pc := 204) dX6_kinds_204 rfl (Nat.le_refl _) (Nat.le_refl _) ⟨rfl, u, c, _, hH.C hk0 hc0, rfl⟩
  | succ f ih =>
    intro i acc ba u c hH hk0 h2 hi hV
    rw [ybits_s] at hV
    have hi2 : i < 13 := by omega
    have hi0 : 2 ≤ (nI i).toInt ∧ (nI i).toInt ≤ 12 := by rw [nI_toInt (by omega)]; omega
    refine e_iload (pc := 156) dX6_kinds_156 rfl ?_
    refine e_bipush (v := 12) (pc := 158) dX6_kinds_158 (by decide) ?_
    refine e_icmp_gt (pc := 160) dX6_kinds_160 (t := 202) (by decide) (fun c_160 => absurd c_160 (fun q => absurd (nI_le (a := i) (b := 12) (by omega) (by decide)) (Int32.not_le.mpr q))) (fun _ => ?_)
    refine e_aload (pc := 163) dX6_kinds_163 rfl ?_
    refine e_iload (pc := 165) dX6_kinds_165 rfl ?_
    refine e_aloadn (pc := 167) dX6_kinds_167 rfl ?_
    refine e_get (pc := 168) dX6_kinds_168 fX6_13 rfl rfl ?_
    refine e_aloadn (pc := 171) dX6_kinds_171 rfl ?_
    refine e_aloadn (pc := 172) dX6_kinds_172 rfl ?_
    refine e_get (pc := 173) dX6_kinds_173 fX6_79 rfl rfl ?_
    refine e_cvD (pc := 176) (sp_x_textAt hT e4 l4) dX6_kinds_176 kX6_216 rfl rfl rfl rfl rfl (mc_CR_of (Nat.le_of_ble_eq_true rfl) (Nat.le_of_ble_eq_true rfl) (Nat.le_refl _) (Nat.le_refl _)) (Nat.le_of_ble_eq_true rfl) ?_
    refine e_cvY (pc := 179) (sp_x_liveH (bb := nI i) (yy := s 1) (h1 := xad (tl s)) (sg1 := (sg (tl s))) hH (hT.2.2 _ l4).2 hi0) dX6_kinds_179 kX6_220 rfl rfl rfl rfl rfl (mc_CR_of (Nat.le_of_ble_eq_true rfl) (Nat.le_of_ble_eq_true rfl) (Nat.le_refl _) (Nat.le_refl _)) (Nat.le_of_ble_eq_true rfl) (fun w1 hw1 => ?_)
    obtain ⟨c1, hH1, hk1, rfl⟩ := hw1
    refine e_iload (pc := 182) dX6_kinds_182 rfl ?_
    refine e_iload (pc := 184) dX6_kinds_184 rfl ?_
    refine e_aload (pc := 186) dX6_kinds_186 rfl ?_
    refine e_aload (pc := 188) dX6_kinds_188 rfl ?_
    refine e_csX (pc := 190) (sp_x_bitOf hH1 hk hL hS hE) dX6_kinds_190 kX6_282 rfl rfl (mc_CR_of (Nat.le_of_ble_eq_true rfl) (Nat.le_of_ble_eq_true rfl) (Nat.le_refl _) (Nat.le_refl _)) (Nat.le_of_ble_eq_true rfl) (fun w1 hw1 => ?_)
    obtain ⟨u2, c2, hH2, hk2, rfl⟩ := hw1
    refine e_ior (pc := 193) dX6_kinds_193 ?_
    refine e_isw7 (pc := 194) dX6_kinds_194 (Nat.le_of_ble_eq_true rfl) rfl ?_
    refine e_incC8 (pc := 196) dX6_kinds_196 (nI_1 i) (Nat.le_of_ble_eq_true rfl) rfl ?_
    refine e_goto (pc := 199) dX6_kinds_199 (t := 156) (by decide) ?_
    exact ih (i + 1) _ _ _ _ hH2 ((hk0.trans hk1).trans hk2) (by omega) (by omega) hV
theorem sp_x_kinds {s u m n : Nat → Int32} {a c b d : Nat → List Int32} {q : List (Option Nat)} {h : Nat} {z : mc_W} {T : Nat} {sg : Nat → Nat → List Int32} {k : Nat} (hk : k < 4) (hS : xS s) {j so : Int32} (hO : xOK s a q c z T sg) : mc_T yX6_kinds cX6_kinds 9 (some .int) 9 [.ref 0, .int (nI k), .int j, .int so] (WW s a q u c h m b n d z) (some (.int (xkinds s a (sg (tl s)) k j so))) (fun w1 => ∃ u1 c1 h1, xC c1 ∧ w1 = (WW s a q u1 c1 h1 m b n d z)) := by
  refine mc_start (own := RX6) (ini := false) rfl (by decide +kernel) (fun h => by cases h) (Nat.le_of_ble_eq_true rfl) ?_
  show mc_E _ _ _ _ _ [some (.ref 0), some (.int (nI k)), some (.int j), some (.int so), none, none, none, none, none] [] _ _ _
  have hL := hO.1
  have hl40 := (xrow_len hk hL hS).2
  refine e_aloadn (pc := 0) dX6_kinds_0 rfl ?_
  refine e_iloadn (pc := 1) dX6_kinds_1 rfl ?_
  refine e_iloadn (pc := 2) dX6_kinds_2 rfl ?_
  refine e_cvD (pc := 3) (sp_x_refRowsBy hk hL hS hO.2.1) dX6_kinds_3 kX6_275 rfl rfl rfl rfl rfl (mc_CR_of (Nat.le_of_ble_eq_true rfl) (Nat.le_of_ble_eq_true rfl) (Nat.le_refl _) (Nat.le_refl _)) (Nat.le_of_ble_eq_true rfl) ?_
  refine e_isw4 (pc := 6) dX6_kinds_6 (Nat.le_of_ble_eq_true rfl) rfl ?_
  refine e_iload (pc := 8) dX6_kinds_8 rfl ?_
  refine e_if_eq (pc := 10) dX6_kinds_10 (t := 16) (by decide) (fun c_10 => ?_) (fun c_10 => ?_)
  · skip
    refine e_aloadn (pc := 16) dX6_kinds_16 rfl ?_
    refine e_iloadn (pc := 17) dX6_kinds_17 rfl ?_
    refine e_cvD (pc := 18) (sp_x_sheetAt hk) dX6_kinds_18 kX6_171 rfl rfl rfl rfl rfl (mc_CR_of (Nat.le_of_ble_eq_true rfl) (Nat.le_of_ble_eq_true rfl) (Nat.le_refl _) (Nat.le_refl _)) (Nat.le_of_ble_eq_true rfl) ?_
    refine e_asw5 (pc := 21) dX6_kinds_21 (Nat.le_of_ble_eq_true rfl) rfl ?_
    refine e_aloadn (pc := 23) dX6_kinds_23 rfl ?_
    refine e_iloadn (pc := 24) dX6_kinds_24 rfl ?_
    refine e_cvX (pc := 25) (sp_x_handOf hO (xtw_0 c_10).2) dX6_kinds_25 kX6_121 rfl rfl rfl rfl rfl (mc_CR_of (Nat.le_of_ble_eq_true rfl) (Nat.le_of_ble_eq_true rfl) (Nat.le_refl _) (Nat.le_refl _)) (Nat.le_of_ble_eq_true rfl) (fun w1 hw1 => ?_)
    obtain ⟨u1, c1, hH, hk1, rfl⟩ := hw1
    refine e_asw6 (pc := 28) dX6_kinds_28 (Nat.le_of_ble_eq_true rfl) rfl ?_
    refine e_iconst (v := 0) (pc := 30) dX6_kinds_30 (by decide) ?_
    refine e_isw7 (pc := 31) dX6_kinds_31 (Nat.le_of_ble_eq_true rfl) rfl ?_
    refine e_iloadn (pc := 33) dX6_kinds_33 rfl ?_
    by_cases hs_34_0 : so = 0
    · rw [hs_34_0]
      refine e_tabIn (pc := 34) (t := 60) dX6_kinds_34 (by decide) (by decide) rfl (by decide) ?_
      refine e_iconst (v := 0) (pc := 60) dX6_kinds_60 (by decide) ?_
      refine e_isw8 (pc := 61) dX6_kinds_61 (Nat.le_of_ble_eq_true rfl) rfl ?_
      rw [show xkinds s a (sg (tl s)) k j 0 = ybits (xk0 s a (sg (tl s)) k j) 6 0 0 from by unfold xkinds; rw [if_neg (show ¬ ¬ xtw s a k j = 0 from fun q => q c_10)]; rfl, show xtw s a k j = 0 from c_10]
      exact lp_x_kinds0 hO hk hS (xsw_ev hl40 (xtw_0 c_10).1) (xtw_0 c_10).2 6 0 0 _ _ u1 c1 hH hk1 (by omega) rfl
    by_cases hs_34_1 : so = 1
    · rw [hs_34_1]
      refine e_tabIn (pc := 34) (t := 106) dX6_kinds_34 (by decide) (by decide) rfl (by decide) ?_
      refine e_iconst (v := 0) (pc := 106) dX6_kinds_106 (by decide) ?_
      refine e_isw8 (pc := 107) dX6_kinds_107 (Nat.le_of_ble_eq_true rfl) rfl ?_
      rw [show xkinds s a (sg (tl s)) k j 1 = ybits (xk1 s a (sg (tl s)) k j) 10 0 0 from by unfold xkinds; rw [if_neg (show ¬ ¬ xtw s a k j = 0 from fun q => q c_10)]; rfl, show xtw s a k j = 0 from c_10]
      exact lp_x_kinds1 hO hk hS (xsw_ev hl40 (xtw_0 c_10).1) (xtw_0 c_10).2 10 0 0 _ _ u1 c1 hH hk1 (by omega) rfl
    by_cases hs_34_2 : so = 2
    · rw [hs_34_2]
      refine e_tabIn (pc := 34) (t := 153) dX6_kinds_34 (by decide) (by decide) rfl (by decide) ?_
      refine e_iconst (v := 2) (pc := 153) dX6_kinds_153 (by decide) ?_
      refine e_isw8 (pc := 154) dX6_kinds_154 (Nat.le_of_ble_eq_true rfl) rfl ?_
      rw [show xkinds s a (sg (tl s)) k j 2 = ybits (xk2 s a (sg (tl s)) k j) 11 2 0 from by unfold xkinds; rw [if_neg (show ¬ ¬ xtw s a k j = 0 from fun q => q c_10)]; rfl, show xtw s a k j = 0 from c_10]
      exact lp_x_kinds2 hO hk hS (xsw_ev hl40 (xtw_0 c_10).1) (xtw_0 c_10).2 11 2 0 _ u1 c1 hH hk1 (by omega) (by omega) rfl
    refine e_tabOut (pc := 34) (t := 205) dX6_kinds_34 (mc_tabout (by decide) (fun k h1 h2 => ?_)) (by decide) ?_
    · rcases (show k = 0 ∨ k = 1 ∨ k = 2 by omega) with rfl | rfl | rfl <;> assumption
    refine e_bipush (v := -7) (pc := 205) dX6_kinds_205 (by decide) ?_
    exact e_iret (pc := 207) dX6_kinds_207 rfl (Nat.le_refl _) (Nat.le_refl _) ⟨by unfold xkinds; rw [if_neg (show ¬ ¬ xtw s a k j = 0 from fun q => q c_10), if_neg (show ¬ so = 0 from hs_34_0), if_neg (show ¬ so = 1 from hs_34_1), if_neg (show ¬ so = 2 from hs_34_2)], u1, c1, _, hH.C hk1 hO.2.2.2.2.2.1, rfl⟩
  · skip
    refine e_iload (pc := 13) dX6_kinds_13 rfl ?_
    exact e_iret (pc := 15) dX6_kinds_15 rfl (Nat.le_refl _) (Nat.le_refl _) ⟨by unfold xkinds; rw [if_pos (show ¬ xtw s a k j = 0 from c_10)], u, c, h, hO.2.2.2.2.2.1, rfl⟩
theorem sp_x_kinds0 {s u m n : Nat → Int32} {a c b d : Nat → List Int32} {q : List (Option Nat)} {h : Nat} {z : mc_W} {j so : Int32} {x0 : Int32} (hv : mc_wi x0 0 3 = false) : mc_D yX6_kinds cX6_kinds 9 (some .int) 7 [.ref 0, .int x0, .int j, .int so] (WW s a q u c h m b n d z) (some (.int (-2))) (WW s a q u c h m b n d z) := by
  refine mc_start (own := RX6) (ini := false) rfl (by decide +kernel) (fun h => by cases h) (Nat.le_of_ble_eq_true rfl) ?_
  show mc_E _ _ _ _ _ [some (.ref 0), some (.int x0), some (.int j), some (.int so), none, none, none, none, none] [] _ _ _
  refine e_aloadn (pc := 0) dX6_kinds_0 rfl ?_
  refine e_iloadn (pc := 1) dX6_kinds_1 rfl ?_
  refine e_iloadn (pc := 2) dX6_kinds_2 rfl ?_
  refine e_cvD (pc := 3) (sp_x_refRowsBy0 hv) dX6_kinds_3 kX6_275 rfl rfl rfl rfl rfl (mc_CR_of (Nat.le_of_ble_eq_true rfl) (Nat.le_of_ble_eq_true rfl) (Nat.le_refl _) (Nat.le_refl _)) (Nat.le_of_ble_eq_true rfl) ?_
  refine e_isw4 (pc := 6) dX6_kinds_6 (Nat.le_of_ble_eq_true rfl) rfl ?_
  refine e_iload (pc := 8) dX6_kinds_8 rfl ?_
  refine e_if_eq (pc := 10) dX6_kinds_10 (t := 16) (by decide) (fun c_10 => absurd c_10 (by decide)) (fun _ => ?_)
  refine e_iload (pc := 13) dX6_kinds_13 rfl ?_
  exact e_iret (pc := 15) dX6_kinds_15 rfl (Nat.le_refl _) (Nat.le_refl _) ⟨rfl, rfl⟩
end Zj_6g_x17
section Zj_6h_x18
/-! ===== film, cells ===== -/
theorem upn {α : Type} {f : Nat → α} {k j : Nat} {x : α} (h : j ≠ k) : mc_up f k x j = f j := by unfold mc_up; rw [if_neg h]
theorem xL.up {a : Nat → List Int32} {k : Nat} {l : List Int32} (h : xL a) (hl : l.length = 40) : xL (mc_up a (5 + k) l) := by
  obtain ⟨l0, l1, l2, l3, l4, l5⟩ := h
  refine ⟨?_, ?_, ?_, ?_, ?_, fun p hp => ?_⟩
  · rw [upn (by omega)]; exact l0
  · rw [upn (by omega)]; exact l1
  · rw [upn (by omega)]; exact l2
  · rw [upn (by omega)]; exact l3
  · rw [upn (by omega)]; exact l4
  · by_cases e : p = k
    · rw [e, up_at]; exact hl
    · rw [upn (by omega)]; exact l5 p hp
def xplv (K mo nu ba ye : Int32) (sg : Nat → List Int32) (v : Int32) : Int64 := yrd ba (hwr K mo nu ba ye sg v)
/-- the numbers of a film -/
def xfl (P : Int32 → Int64) (F S : Nat) : Nat → Nat → List Int32 → List Int32
  | 0, _, l => l
  | g + 1, i, l => xfl P F S g (i + 1) ((l.set (2 * i) (nI (F + i * S))).set (2 * i + 1) (yclip (P (nI (F + i * S)))))
def xfok (s : Nat → Int32) (j fr sm : Int32) : Bool := mc_wi j 0 (s 2 - 1) && (mc_wi fr 0 999 && (decide (0 ≤ sm) && (decide (sm / 100 ≤ 99) && decide (sm - sm / 100 * 100 ≤ 20))))
def xf1 (s : Nat → Int32) (j fr sm : Int32) : Int32 := if mc_wi j 0 (s 2 - 1) = false then -5 else if xfok s j fr sm = true then sm - sm / 100 * 100 else -7
def xfs (s : Nat → Int32) (k : Nat) (j fr sm : Int32) : Nat → Int32 := if xfok s j fr sm = true then xbs s k 2 (2 * (sm - sm / 100 * 100)) else s
def xfa (s : Nat → Int32) (a : Nat → List Int32) (sg : Nat → List Int32) (k : Nat) (j fr sm : Int32) : Nat → List Int32 :=
  if xfok s j fr sm = true then mc_up a (5 + k) (xfl (xplv (gt (a 0) j) (gt (a 1) j) j (s 0) (s 1) sg) fr.toNatClampNeg (sm / 100).toNatClampNeg (sm - sm / 100 * 100).toNatClampNeg 0 (List.replicate 40 0)) else a
theorem xf_no {s : Nat → Int32} {a : Nat → List Int32} {sg : Nat → List Int32} {k : Nat} {j fr sm : Int32} (e : xfok s j fr sm = false) : xfs s k j fr sm = s ∧ xfa s a sg k j fr sm = a := by
  unfold xfs xfa
  rw [e]
  exact ⟨rfl, rfl⟩
theorem xsto_in {a0 : Nat → List Int32} {s : Nat → Int32} {k i N : Nat} {v : Int32} {l : List Int32} (hk : k < 4) (hN : N ≤ 20) :
    2 * i + 1 < 2 * N → xsto (mc_up a0 (5 + k) l) (xbs s k 2 (nI (2 * N))) k (nI (2 * i)) v = mc_up a0 (5 + k) (l.set (2 * i) v) ∧ xsto (mc_up a0 (5 + k) l) (xbs s k 2 (nI (2 * N))) k (nI (2 * i + 1)) v = mc_up a0 (5 + k) (l.set (2 * i + 1) v) := by
  intro hi
  have tN := nI_toInt (n := 2 * N) (by omega)
  have e12 : xbs s k 2 (nI (2 * N)) (12 + 2 * k) = nI (2 * N) := by
    unfold xbs; rw [up_at, xcl_in (by omega) (by omega)]
  have e11 : xbs s k 2 (nI (2 * N)) (11 + 2 * k) = 2 := by
    unfold xbs; rw [up_ne (by omega), up_at]
  have hh : ∀ x, x < 2 * N → xhas (nI x) (nI (2 * N)) = true := fun x hx => by
    unfold xhas
    simp only [Bool.and_eq_true, decide_eq_true_eq, Int32.le_iff_toInt_le, Int32.lt_iff_toInt_lt, i0, show (40 : Int32).toInt = 40 from rfl, tN, nI_toInt (n := x) (by omega)]
    omega
  unfold xsto
  rw [e12, e11, if_pos (hh _ (by omega)), if_pos (hh _ hi), up_at, up_up, up_up, nIc (by omega), nIc (by omega)]
  exact ⟨rfl, rfl⟩
theorem lp_x_film {m n : Nat → Int32} {b d : Nat → List Int32} {q : List (Option Nat)} {h : Nat} {z : mc_W} {c0 : Nat → List Int32} {K mo nu ba ye : Int32} {sg : Nat → List Int32} {k F S N : Nat} {j sm : Int32} {s s1 : Nat → Int32} {a0 : Nat → List Int32} {V : List Int32} (hk : k < 4) (hL0 : xL a0) (hc0 : xC c0) (hF : F ≤ 999) (hSS : S ≤ 99) (hN : N ≤ 20) (hs1 : s1 = xbs s k 2 (nI (2 * N))) :
    ∀ (f i : Nat) (l : List Int32) (u : Nat → Int32) (c : Nat → List Int32) (x10 : Option Value), xHd q z h u c K mo nu ba ye sg → xKc c0 c → i + f = N → l.length = 40 → xfl (xplv K mo nu ba ye sg) F S f i l = V →
      mc_E RX6 cX6_film 11 (mc_JM (some .int) false 7 0 0 (fun r' w' => r' = some (.int (nI N)) ∧ ∃ u1 c1 h1, xC c1 ∧ w' = (WW s1 (mc_up a0 (5 + k) V) q u1 c1 h1 m b n d z))) 95 [some (.ref 0), some (.int (nI k)), some (.int j), some (.int (nI F)), some (.int sm), some (.int (nI S)), some (.int (nI N)), some (.ref (21 + 2 * k)), some (.ref 17), some (.int (nI i)), x10] [] (WW s1 (mc_up a0 (5 + k) l) q u c h m b n d z) 0 0 := by
  intro f
  induction f with
  | zero =>
    intro i l u c x10 hH hk0 hi hl hV
    have e : i = N := by omega
    subst e
    simp only [xfl] at hV
    subst hV
    refine e_iload (pc := 95) dX6_film_95 rfl ?_
    refine e_iload (pc := 97) dX6_film_97 rfl ?_
    refine e_icmp_ge (pc := 99) dX6_film_99 (t := 158) (by decide) (fun _ => ?_) (fun c_99 => absurd (nI_le (Nat.le_refl _) (by omega)) c_99)
    refine e_iload (pc := 158) dX6_film_158 rfl ?_
    exact e_iret (pc := 160) dX6_film_160 rfl (Nat.le_refl _) (Nat.le_refl _) ⟨rfl, u, c, h, hH.C hk0 hc0, rfl⟩
  | succ f ih =>
    intro i l u c x10 hH hk0 hi hl hV
    simp only [xfl] at hV
    have hi2 : i < N := by omega
    have hiS : i * S ≤ 1980 := Nat.le_trans (Nat.mul_le_mul (by omega : i ≤ 20) hSS) (by decide)
    have em : nI i * nI S = nI (i * S) := pk_mul i S
    have ev : nI F + nI (i * S) = nI (F + i * S) := by rw [nI_add]
    have hv : 0 ≤ (nI (F + i * S)).toInt ∧ (nI (F + i * S)).toInt ≤ 99999 := by rw [nI_toInt (by omega)]; omega
    have hLl : ∀ l : List Int32, l.length = 40 → xL (mc_up a0 (5 + k) l) := fun l hl => hL0.up hl
    have X := fun l v => xsto_in (a0 := a0) (s := s) (k := k) (i := i) (N := N) (v := v) (l := l) hk hN (by omega)
    refine e_iload (pc := 95) dX6_film_95 rfl ?_
    refine e_iload (pc := 97) dX6_film_97 rfl ?_
    refine e_icmp_ge (pc := 99) dX6_film_99 (t := 158) (by decide) (fun c_99 => absurd c_99 (nI_ge hi2 (by omega))) (fun _ => ?_)
    refine e_iloadn (pc := 102) dX6_film_102 rfl ?_
    refine e_iload (pc := 103) dX6_film_103 rfl ?_
    refine e_iload (pc := 105) dX6_film_105 rfl ?_
    refine e_imul (pc := 107) dX6_film_107 ?_
    refine e_top (y := nI (i * S)) em ?_
    refine e_iadd (pc := 108) dX6_film_108 ?_
    refine e_top (y := nI (F + i * S)) ev ?_
    refine e_isw10 (pc := 109) dX6_film_109 (Nat.le_of_ble_eq_true rfl) rfl ?_
    refine e_aload (pc := 111) dX6_film_111 rfl ?_
    refine e_iload (pc := 113) dX6_film_113 rfl ?_
    refine e_cvY (pc := 115) (sp_x_write hH (hH.mk hv)) dX6_film_115 kX6_135 rfl rfl rfl rfl rfl (mc_CR_of (Nat.le_of_ble_eq_true rfl) (Nat.le_of_ble_eq_true rfl) (Nat.le_refl _) (Nat.le_refl _)) (Nat.le_of_ble_eq_true rfl) (fun w1 hw1 => ?_)
    obtain ⟨u1, c1, hH1, hk1, hF1, rfl⟩ := hw1
    refine e_aload (pc := 118) dX6_film_118 rfl ?_
    refine e_iconst (v := 2) (pc := 120) dX6_film_120 (by decide) ?_
    refine e_iload (pc := 121) dX6_film_121 rfl ?_
    refine e_imul (pc := 123) dX6_film_123 ?_
    refine e_top (y := nI (2 * i)) (xh2' (L := i) (by omega)).2.2.1 ?_
    refine e_iload (pc := 124) dX6_film_124 rfl ?_
    refine e_cvU (pc := 126) (sp_x_store hk (hLl l hl)) dX6_film_126 kX6_294 (WW_sh hk) rfl rfl rfl rfl (mc_CR_of (Nat.le_of_ble_eq_true rfl) (Nat.le_of_ble_eq_true rfl) (Nat.le_refl _) (Nat.le_refl _)) (Nat.le_of_ble_eq_true rfl) ?_
    rw [hs1, (X l _).1, ← hs1]
    refine e_aload (pc := 129) dX6_film_129 rfl ?_
    refine e_iconst (v := 2) (pc := 131) dX6_film_131 (by decide) ?_
    refine e_iload (pc := 132) dX6_film_132 rfl ?_
    refine e_imul (pc := 134) dX6_film_134 ?_
    refine e_top (y := nI (2 * i)) (xh2' (L := i) (by omega)).2.2.1 ?_
    refine e_iconst (v := 1) (pc := 135) dX6_film_135 (by decide) ?_
    refine e_iadd (pc := 136) dX6_film_136 ?_
    refine e_top (y := nI (2 * i + 1)) (xh2' (L := i) (by omega)).2.2.2.1 ?_
    refine e_aload (pc := 137) dX6_film_137 rfl ?_
    refine e_cvD (pc := 139) (sp_x_readPl hH1 hF1) dX6_film_139 kX6_153 rfl rfl rfl rfl rfl (mc_CR_of (Nat.le_of_ble_eq_true rfl) (Nat.le_of_ble_eq_true rfl) (Nat.le_refl _) (Nat.le_refl _)) (Nat.le_of_ble_eq_true rfl) ?_
    refine e_ldc2 (pc := 142) dX6_film_142 qX6_297 ?_
    refine e_minl (pc := 145) dX6_film_145 mX6_188 (mc_JR_of (Nat.le_of_ble_eq_true rfl) (Nat.le_refl _) (Nat.le_refl _) (Nat.le_of_ble_eq_true rfl)) ?_
    refine e_l2i (pc := 148) dX6_film_148 ?_
    refine e_top (y := yclip (xplv K mo nu ba ye sg (nI (F + i * S)))) (by unfold yclip xplv; split <;> rfl) ?_
    refine e_cvU (pc := 149) (sp_x_store hk (hLl _ (by rw [List.length_set]; exact hl))) dX6_film_149 kX6_294 (WW_sh hk) rfl rfl rfl rfl (mc_CR_of (Nat.le_of_ble_eq_true rfl) (Nat.le_of_ble_eq_true rfl) (Nat.le_refl _) (Nat.le_refl _)) (Nat.le_of_ble_eq_true rfl) ?_
    rw [hs1, (X _ _).2, ← hs1]
    refine e_incC9 (pc := 152) dX6_film_152 (nI_1 i) (Nat.le_of_ble_eq_true rfl) rfl ?_
    refine e_goto (pc := 155) dX6_film_155 (t := 95) (by decide) ?_
    exact ih (i + 1) _ u1 c1 _ hH1 (hk0.trans hk1) (by omega) (by rw [List.length_set, List.length_set]; exact hl) hV
theorem sp_x_film {s u m n : Nat → Int32} {a c b d : Nat → List Int32} {q : List (Option Nat)} {h : Nat} {z : mc_W} {T : Nat} {sg : Nat → Nat → List Int32} {k : Nat} (hk : k < 4) {j fr sm : Int32} (hO : xOK s a q c z T sg) : mc_T yX6_film cX6_film 11 (some .int) 7 [.ref 0, .int (nI k), .int j, .int fr, .int sm] (WW s a q u c h m b n d z) (some (.int (xf1 s j fr sm))) (fun w1 => ∃ u1 c1 h1, xC c1 ∧ w1 = (WW (xfs s k j fr sm) (xfa s a (sg (tl s)) k j fr sm) q u1 c1 h1 m b n d z)) := by
  refine mc_start (own := RX6) (ini := false) rfl (by decide +kernel) (fun h => by cases h) (Nat.le_of_ble_eq_true rfl) ?_
  show mc_E _ _ _ _ _ [some (.ref 0), some (.int (nI k)), some (.int j), some (.int fr), some (.int sm), none, none, none, none, none, none] [] _ _ _
  have hL := hO.1
  refine e_iloadn (pc := 0) dX6_film_0 rfl ?_
  refine e_csD (pc := 1) (sp_isSheet) dX6_film_1 kX6_289 rfl rfl (mc_CR_of (Nat.le_of_ble_eq_true rfl) (Nat.le_of_ble_eq_true rfl) (Nat.le_refl _) (Nat.le_refl _)) (Nat.le_of_ble_eq_true rfl) ?_
  refine e_if_ne (pc := 4) dX6_film_4 (t := 10) (by decide) (fun _ => ?_) (fun c_4 => absurd c_4 (mc_b1.mpr (wi_nk hk)))
  refine e_aloadn (pc := 10) dX6_film_10 rfl ?_
  refine e_iloadn (pc := 11) dX6_film_11 rfl ?_
  refine e_cvD (pc := 12) (sp_x_isClerk hO.2.1) dX6_film_12 kX6_115 rfl rfl rfl rfl rfl (mc_CR_of (Nat.le_of_ble_eq_true rfl) (Nat.le_of_ble_eq_true rfl) (Nat.le_refl _) (Nat.le_refl _)) (Nat.le_of_ble_eq_true rfl) ?_
  refine e_if_ne (pc := 15) dX6_film_15 (t := 21) (by decide) (fun c_15 => ?_) (fun c_15 => ?_)
  · skip
    refine e_iload (pc := 21) dX6_film_21 rfl ?_
    refine e_bipush (v := 100) (pc := 23) dX6_film_23 (by decide) ?_
    refine e_idiv (pc := 25) dX6_film_25 (by decide) ?_
    refine e_isw5 (pc := 26) dX6_film_26 (Nat.le_of_ble_eq_true rfl) rfl ?_
    refine e_iload (pc := 28) dX6_film_28 rfl ?_
    refine e_bipush (v := 100) (pc := 30) dX6_film_30 (by decide) ?_
    refine e_irem (pc := 32) dX6_film_32 (by decide) ?_
    refine e_isw6 (pc := 33) dX6_film_33 (Nat.le_of_ble_eq_true rfl) rfl ?_
    refine e_iloadn (pc := 35) dX6_film_35 rfl ?_
    refine e_iconst (v := 0) (pc := 36) dX6_film_36 (by decide) ?_
    refine e_sipush (v := 999) (pc := 37) dX6_film_37 (by decide) ?_
    refine e_csD (pc := 40) (sp_isWithin) dX6_film_40 kX6_86 rfl rfl (mc_CR_of (Nat.le_of_ble_eq_true rfl) (Nat.le_of_ble_eq_true rfl) (Nat.le_refl _) (Nat.le_refl _)) (Nat.le_of_ble_eq_true rfl) ?_
    refine e_if_eq (pc := 43) dX6_film_43 (t := 65) (by decide) (fun c_43 => ?_) (fun c_43 => ?_)
    · skip
      refine e_bipush (v := -7) (pc := 65) dX6_film_65 (by decide) ?_
      exact e_iret (pc := 67) dX6_film_67 rfl (Nat.le_refl _) (Nat.le_refl _) (have e : xfok s j fr sm = false := (by unfold xfok; rw [mc_b0.mp c_43]; simp); ⟨by unfold xf1; rw [if_neg (show ¬ mc_wi j 0 (s 2 - 1) = false by rw [mc_b1.mp c_15]; decide), if_neg (show ¬ xfok s j fr sm = true by rw [e]; decide)], u, c, h, hO.2.2.2.2.2.1, by rw [(xf_no (a := a) (sg := sg (tl s)) (k := k) e).1, (xf_no (a := a) (sg := sg (tl s)) (k := k) e).2]⟩)
    · skip
      refine e_iload (pc := 46) dX6_film_46 rfl ?_
      refine e_if_lt (pc := 48) dX6_film_48 (t := 65) (by decide) (fun c_48 => ?_) (fun c_48 => ?_)
      · skip
        refine e_bipush (v := -7) (pc := 65) dX6_film_65 (by decide) ?_
        exact e_iret (pc := 67) dX6_film_67 rfl (Nat.le_refl _) (Nat.le_refl _) (have e : xfok s j fr sm = false := (by unfold xfok; rw [show decide (0 ≤ sm) = false from decide_eq_false (Int32.not_le.mpr c_48)]; simp); ⟨by unfold xf1; rw [if_neg (show ¬ mc_wi j 0 (s 2 - 1) = false by rw [mc_b1.mp c_15]; decide), if_neg (show ¬ xfok s j fr sm = true by rw [e]; decide)], u, c, h, hO.2.2.2.2.2.1, by rw [(xf_no (a := a) (sg := sg (tl s)) (k := k) e).1, (xf_no (a := a) (sg := sg (tl s)) (k := k) e).2]⟩)
      · skip
        refine e_iload (pc := 51) dX6_film_51 rfl ?_
        refine e_bipush (v := 99) (pc := 53) dX6_film_53 (by decide) ?_
        refine e_icmp_gt (pc := 55) dX6_film_55 (t := 65) (by decide) (fun c_55 => ?_) (fun c_55 => ?_)
        · skip
          refine e_bipush (v := -7) (pc := 65) dX6_film_65 (by decide) ?_
          exact e_iret (pc := 67) dX6_film_67 rfl (Nat.le_refl _) (Nat.le_refl _) (have e : xfok s j fr sm = false := (by unfold xfok; rw [show decide (sm / 100 ≤ 99) = false from decide_eq_false (Int32.not_le.mpr c_55)]; simp); ⟨by unfold xf1; rw [if_neg (show ¬ mc_wi j 0 (s 2 - 1) = false by rw [mc_b1.mp c_15]; decide), if_neg (show ¬ xfok s j fr sm = true by rw [e]; decide)], u, c, h, hO.2.2.2.2.2.1, by rw [(xf_no (a := a) (sg := sg (tl s)) (k := k) e).1, (xf_no (a := a) (sg := sg (tl s)) (k := k) e).2]⟩)
        · skip
          refine e_iload (pc := 58) dX6_film_58 rfl ?_
          refine e_bipush (v := 20) (pc := 60) dX6_film_60 (by decide) ?_
          refine e_icmp_le (pc := 62) dX6_film_62 (t := 68) (by decide) (fun c_62 => ?_) (fun c_62 => ?_)
          · skip
            refine e_aloadn (pc := 68) dX6_film_68 rfl ?_
            refine e_iloadn (pc := 69) dX6_film_69 rfl ?_
            refine e_cvD (pc := 70) (sp_x_sheetAt hk) dX6_film_70 kX6_171 rfl rfl rfl rfl rfl (mc_CR_of (Nat.le_of_ble_eq_true rfl) (Nat.le_of_ble_eq_true rfl) (Nat.le_refl _) (Nat.le_refl _)) (Nat.le_of_ble_eq_true rfl) ?_
            refine e_asw7 (pc := 73) dX6_film_73 (Nat.le_of_ble_eq_true rfl) rfl ?_
            refine e_aloadn (pc := 75) dX6_film_75 rfl ?_
            refine e_iloadn (pc := 76) dX6_film_76 rfl ?_
            refine e_cvX (pc := 77) (sp_x_handOf hO (mc_b1.mp c_15)) dX6_film_77 kX6_121 rfl rfl rfl rfl rfl (mc_CR_of (Nat.le_of_ble_eq_true rfl) (Nat.le_of_ble_eq_true rfl) (Nat.le_refl _) (Nat.le_refl _)) (Nat.le_of_ble_eq_true rfl) (fun w1 hw1 => ?_)
            obtain ⟨u1, c1, hH, hk1, rfl⟩ := hw1
            refine e_asw8 (pc := 80) dX6_film_80 (Nat.le_of_ble_eq_true rfl) rfl ?_
            refine e_aload (pc := 82) dX6_film_82 rfl ?_
            refine e_iconst (v := 2) (pc := 84) dX6_film_84 (by decide) ?_
            refine e_iconst (v := 2) (pc := 85) dX6_film_85 (by decide) ?_
            refine e_iload (pc := 86) dX6_film_86 rfl ?_
            refine e_imul (pc := 88) dX6_film_88 ?_
            refine e_cvU (pc := 89) (sp_x_sbecome hk hL) dX6_film_89 kX6_292 (WW_sh hk) rfl rfl rfl rfl (mc_CR_of (Nat.le_of_ble_eq_true rfl) (Nat.le_of_ble_eq_true rfl) (Nat.le_refl _) (Nat.le_refl _)) (Nat.le_of_ble_eq_true rfl) ?_
            refine e_iconst (v := 0) (pc := 92) dX6_film_92 (by decide) ?_
            refine e_isw9 (pc := 93) dX6_film_93 (Nat.le_of_ble_eq_true rfl) rfl ?_
            have q1 := mc_b1.mp c_15
            have q2 : mc_wi fr 0 999 = true := by simpa [mc_b0] using c_43
            have q3 : 0 ≤ sm := Int32.not_lt.mp c_48
            have q4 : sm / 100 ≤ 99 := Int32.not_lt.mp c_55
            have ok : xfok s j fr sm = true := by unfold xfok; rw [q1, q2, decide_eq_true q3, decide_eq_true q4, decide_eq_true c_62]; rfl
            have o1 : xf1 s j fr sm = sm - sm / 100 * 100 := by unfold xf1; rw [if_neg (show ¬ mc_wi j 0 (s 2 - 1) = false by rw [q1]; decide), if_pos ok]
            have o2 : xfs s k j fr sm = xbs s k 2 (2 * (sm - sm / 100 * 100)) := if_pos ok
            have o3 : xfa s a (sg (tl s)) k j fr sm = mc_up a (5 + k) (xfl (xplv (gt (a 0) j) (gt (a 1) j) j (s 0) (s 1) (sg (tl s))) fr.toNatClampNeg (sm / 100).toNatClampNeg (sm - sm / 100 * 100).toNatClampNeg 0 (List.replicate 40 0)) := if_pos ok
            rw [o1, o2, o3]
            clear o1 o2 o3 ok
            have hf := mc_wi_iff.mp q2
            rw [i0, show (999 : Int32).toInt = 999 from rfl] at hf
            rw [Int32.le_iff_toInt_le, i0] at q3
            have hsm := Int32.toInt_lt sm
            obtain ⟨F, hF, rfl⟩ : ∃ F : Nat, F ≤ 999 ∧ fr = nI F := ⟨fr.toNatClampNeg, by have := tnc hf.1; omega, nI_back hf.1⟩
            obtain ⟨P, hP, rfl⟩ : ∃ P : Nat, P < 2 ^ 31 ∧ sm = nI P := ⟨sm.toNatClampNeg, by have := tnc q3; omega, nI_back q3⟩
            have eS : nI P / 100 = nI (P / 100) := pk_div (a := P) (d := 100) (by omega) (by decide) (by decide)
            have eR : nI P - nI P / 100 * 100 = nI (P % 100) := pk_rem (a := P) (d := 100) (by omega) (by decide) (by decide)
            have hR : P % 100 ≤ 20 := by
              have := c_62
              rw [eR, Int32.le_iff_toInt_le, nI_toInt (by omega), show (20 : Int32).toInt = 20 from rfl] at this
              omega
            have hS : P / 100 ≤ 99 := by
              rw [eS, Int32.le_iff_toInt_le, nI_toInt (by omega), show (99 : Int32).toInt = 99 from rfl] at q4
              omega
            rw [eR, eS, nIc (n := F) (by omega), nIc (n := P / 100) (by omega), nIc (n := P % 100) (by omega), (xh2' (L := P % 100) (by omega)).2.2.1]
            exact lp_x_film (s1 := xbs s k 2 (nI (2 * (P % 100)))) hk hL hO.2.2.2.2.2.1 hF hS hR rfl (P % 100) 0 (List.replicate 40 0) u1 c1 _ hH hk1 (by omega) (List.length_replicate) rfl
          · skip
            refine e_bipush (v := -7) (pc := 65) dX6_film_65 (by decide) ?_
            exact e_iret (pc := 67) dX6_film_67 rfl (Nat.le_refl _) (Nat.le_refl _) (have e : xfok s j fr sm = false := (by unfold xfok; rw [show decide (sm - sm / 100 * 100 ≤ 20) = false from decide_eq_false c_62]; simp); ⟨by unfold xf1; rw [if_neg (show ¬ mc_wi j 0 (s 2 - 1) = false by rw [mc_b1.mp c_15]; decide), if_neg (show ¬ xfok s j fr sm = true by rw [e]; decide)], u, c, h, hO.2.2.2.2.2.1, by rw [(xf_no (a := a) (sg := sg (tl s)) (k := k) e).1, (xf_no (a := a) (sg := sg (tl s)) (k := k) e).2]⟩)
  · skip
    refine e_bipush (v := -5) (pc := 18) dX6_film_18 (by decide) ?_
    exact e_iret (pc := 20) dX6_film_20 rfl (Nat.le_refl _) (Nat.le_refl _) (have e : xfok s j fr sm = false := (by unfold xfok; rw [mc_b0.mp c_15]; rfl); ⟨by unfold xf1; rw [if_pos (mc_b0.mp c_15)], u, c, h, hO.2.2.2.2.2.1, by rw [(xf_no (a := a) (sg := sg (tl s)) (k := k) e).1, (xf_no (a := a) (sg := sg (tl s)) (k := k) e).2]⟩)
theorem sp_x_film0 {s u m n : Nat → Int32} {a c b d : Nat → List Int32} {q : List (Option Nat)} {h : Nat} {z : mc_W} {x0 j fr sm : Int32} (hv : mc_wi x0 0 3 = false) : mc_D yX6_film cX6_film 11 (some .int) 3 [.ref 0, .int x0, .int j, .int fr, .int sm] (WW s a q u c h m b n d z) (some (.int (-2))) (WW s a q u c h m b n d z) := by
  refine mc_start (own := RX6) (ini := false) rfl (by decide +kernel) (fun h => by cases h) (Nat.le_of_ble_eq_true rfl) ?_
  show mc_E _ _ _ _ _ [some (.ref 0), some (.int x0), some (.int j), some (.int fr), some (.int sm), none, none, none, none, none, none] [] _ _ _
  refine e_iloadn (pc := 0) dX6_film_0 rfl ?_
  refine e_csD (pc := 1) (sp_isSheet) dX6_film_1 kX6_289 rfl rfl (mc_CR_of (Nat.le_of_ble_eq_true rfl) (Nat.le_of_ble_eq_true rfl) (Nat.le_refl _) (Nat.le_refl _)) (Nat.le_of_ble_eq_true rfl) ?_
  refine e_if_ne (pc := 4) dX6_film_4 (t := 10) (by decide) (fun c_4 => absurd c_4 (by rw [mc_b0.mpr hv]; decide)) (fun _ => ?_)
  refine e_bipush (v := -2) (pc := 7) dX6_film_7 (by decide) ?_
  exact e_iret (pc := 9) dX6_film_9 rfl (Nat.le_refl _) (Nat.le_refl _) ⟨rfl, rfl⟩
end Zj_6h_x18
