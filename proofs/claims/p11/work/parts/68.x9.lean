/-! ===== a clerk as he is ===== -/
/-- the texts that there are: T of them, their parts by sg -/
def xTexts (q : List (Option Nat)) (z : mc_W) (T : Nat) (sg : Nat → Nat → List Int32) : Prop := q.length = 6 ∧ T ≤ 6 ∧ ∀ t, t < T → q.getD t none = some (xad t) ∧ ∃ cd sa ca, xTz q z (xad t) cd sa ca ∧ xTr cd sa ca (sg t)
/-- how long the rows are that are written anew -/
def xC (c : Nat → List Int32) : Prop := (c 0).length = 160 ∧ (c 1).length = 6 ∧ (c 2).length = 6 ∧ (c 3).length = 6 ∧ (c 4).length = 48 ∧ (c 5).length = 40
/-- what the calls that ask a clerk stand on -/
def xOK (s : Nat → Int32) (a : Nat → List Int32) (q : List (Option Nat)) (c : Nat → List Int32) (z : mc_W) (T : Nat) (sg : Nat → Nat → List Int32) : Prop :=
  xL a ∧ yC s ∧ xK s a ∧ xTexts q z T sg ∧ (0 ≤ (s 4).toInt ∧ (s 4).toInt < T) ∧ xC c ∧ (2 ≤ (s 0).toInt ∧ (s 0).toInt ≤ 12) ∧ ∀ i, i < 5 → 0 ≤ ((a 1).getD i 0).toInt ∧ ((a 1).getD i 0).toInt ≤ 9
def tl (s : Nat → Int32) : Nat := (s 4).toNatClampNeg
theorem xHd.C {q : List (Option Nat)} {z : mc_W} {h : Nat} {u : Nat → Int32} {c c0 : Nat → List Int32} {K mo nu ba ye : Int32} {sg : Nat → List Int32} (h : xHd q z h u c K mo nu ba ye sg) (hk : xKc c0 c) (h0 : xC c0) : xC c := by
  obtain ⟨-, -, ⟨x, y, hc3⟩, h48, h40, -⟩ := h
  exact ⟨by rw [hk.1]; exact h0.1, by rw [hk.2.1]; exact h0.2.1, by rw [hk.2.2]; exact h0.2.2.1, by rw [hc3]; rfl, h48, h40⟩
theorem len6 {l : List Int32} (h : l.length = 6) : ∃ x0 x1 x2 x3 x4 x5, l = [x0, x1, x2, x3, x4, x5] := by
  match l, h with
  | [x0, x1, x2, x3, x4, x5], _ => exact ⟨x0, x1, x2, x3, x4, x5, rfl⟩
theorem sp_x_textAt {s u m n : Nat → Int32} {a c b d : Nat → List Int32} {q : List (Option Nat)} {h : Nat} {z : mc_W} {v : Int32} {t T : Nat} {sg : Nat → Nat → List Int32} (hT : xTexts q z T sg) (hv : v = nI t) (ht : t < T) : mc_D yX6_textAt cX6_textAt 3 (some (.object "NoZeroWithin$Text")) 1 [.ref 0, .int v] (WW s a q u c h m b n d z) (some (.ref (xad t))) (WW s a q u c h m b n d z) := by
  refine mc_start (own := RX6) (ini := false) rfl (by decide +kernel) (fun h => by cases h) (Nat.le_of_ble_eq_true rfl) ?_
  show mc_E _ _ _ _ _ [some (.ref 0), some (.int v), none] [] _ _ _
  have h6 := hT.1
  have hT6 := hT.2.1
  have hq := (hT.2.2 t ht).1
  subst hv
  refine e_iloadn (pc := 0) dX6_textAt_0 rfl ?_
  refine e_if_lt (pc := 1) dX6_textAt_1 (t := 22) (by decide) (fun c => absurd c (nI_pos (by omega))) (fun _ => ?_)
  refine e_iloadn (pc := 4) dX6_textAt_4 rfl ?_
  refine e_aloadn (pc := 5) dX6_textAt_5 rfl ?_
  refine e_get (pc := 6) dX6_textAt_6 fX6_32 rfl rfl ?_
  refine e_alenq (pc := 9) dX6_textAt_9 rfl (Or.inl rfl) (show Int32.ofNat q.length = nI 6 by rw [h6]; rfl) ?_
  refine e_icmp_ge (pc := 10) dX6_textAt_10 (t := 22) (by decide) (fun c => absurd c (nI_ge (by omega) (by decide))) (fun _ => ?_)
  refine e_aloadn (pc := 13) dX6_textAt_13 rfl ?_
  refine e_get (pc := 14) dX6_textAt_14 fX6_32 rfl rfl ?_
  refine e_iloadn (pc := 17) dX6_textAt_17 rfl ?_
  refine e_aldq (pc := 18) (r := some (xad t)) dX6_textAt_18 rfl (Or.inl rfl) (by rw [h6]; exact vp_in_nI (by omega) (by decide)) (by rw [nIc (by omega)]; exact hq) ?_
  show mc_E _ _ _ _ 19 _ [.ref (xad t)] _ _ _
  refine e_goto (pc := 19) dX6_textAt_19 (t := 23) (by decide) ?_
  refine e_asn2 (pc := 23) dX6_textAt_23 (Nat.le_of_ble_eq_true rfl) rfl ?_
  refine e_aloadn (pc := 24) dX6_textAt_24 rfl ?_
  refine e_ifnonnull (pc := 25) (x := xad t) dX6_textAt_25 (t := 35) (by decide) ?_
  refine e_aloadn (pc := 35) dX6_textAt_35 rfl ?_
  exact e_aret (pc := 36) dX6_textAt_36 rfl (Or.inl ⟨_, rfl⟩) (Nat.le_refl _) (Nat.le_refl _) ⟨rfl, rfl⟩
theorem sp_x_become1 {s u m n : Nat → Int32} {a c b d : Nat → List Int32} {q : List (Option Nat)} {h : Nat} {z : mc_W} {nu K mo : Int32} {x0 x1 x2 x3 x4 x5 : Int32} (hc3 : c 3 = [x0, x1, x2, x3, x4, x5]) : mc_D yX1_become cX1_become 4 none 1 [.ref 17, .int nu, .int K, .int mo] (WW s a q u c h m b n d z) none (WW s a q (mc_up u 6 K) (mc_up c 3 [mo, nu, x2, x3, x4, x5]) h m b n d z) := by
  refine mc_start (own := RX1) (ini := false) rfl (by decide +kernel) (fun h => by cases h) (Nat.le_of_ble_eq_true rfl) ?_
  show mc_E _ _ _ _ _ [some (.ref 17), some (.int nu), some (.int K), some (.int mo)] [] _ _ _
  refine e_aloadn (pc := 0) dX1_become_0 rfl ?_
  refine e_iloadn (pc := 1) dX1_become_1 rfl ?_
  refine put_hand_kind (pc := 2) dX1_become_2 pX1_25 ?_
  refine e_aloadn (pc := 5) dX1_become_5 rfl ?_
  refine e_get (pc := 6) dX1_become_6 fX1_11 rfl rfl ?_
  refine e_iconst (v := 1) (pc := 9) dX1_become_9 (by decide) ?_
  refine e_iloadn (pc := 10) dX1_become_10 rfl ?_
  refine ast_names (pc := 11) dX1_become_11 (vi6 hc3 (by decide +kernel)) ?_
  refine e_aloadn (pc := 12) dX1_become_12 rfl ?_
  refine e_get (pc := 13) dX1_become_13 fX1_11 rfl rfl ?_
  refine e_iconst (v := 0) (pc := 16) dX1_become_16 (by decide) ?_
  refine e_iloadn (pc := 17) dX1_become_17 rfl ?_
  refine ast_names (pc := 18) dX1_become_18 (by show vp_in _ ((c 3).set _ _).length; rw [List.length_set]; exact vi6 hc3 (by decide +kernel)) ?_
  exact e_vret (pc := 19) dX1_become_19 rfl (Nat.le_refl _) (Nat.le_refl _) ⟨rfl, by rw [up_up, up_at, hc3]; rfl⟩
theorem sp_x_liveBy {s u m n : Nat → Int32} {a c b d : Nat → List Int32} {q : List (Option Nat)} {h : Nat} {z : mc_W} {ba ye : Int32} {h1 : Nat} {x0 x1 x2 x3 x4 x5 : Int32} (hc3 : c 3 = [x0, x1, x2, x3, x4, x5]) : mc_D yX1_liveBy cX1_liveBy 4 none 1 [.ref 17, .int ba, .int ye, .ref h1] (WW s a q u c h m b n d z) none (WW s a q u (mc_up c 3 [x0, x1, x2, x3, ba, ye]) h1 m b n d z) := by
  refine mc_start (own := RX1) (ini := false) rfl (by decide +kernel) (fun h => by cases h) (Nat.le_of_ble_eq_true rfl) ?_
  show mc_E _ _ _ _ _ [some (.ref 17), some (.int ba), some (.int ye), some (.ref h1)] [] _ _ _
  refine e_aloadn (pc := 0) dX1_liveBy_0 rfl ?_
  refine e_get (pc := 1) dX1_liveBy_1 fX1_11 rfl rfl ?_
  refine e_iconst (v := 4) (pc := 4) dX1_liveBy_4 (by decide) ?_
  refine e_iloadn (pc := 5) dX1_liveBy_5 rfl ?_
  refine ast_names (pc := 6) dX1_liveBy_6 (vi6 hc3 (by decide +kernel)) ?_
  refine e_aloadn (pc := 7) dX1_liveBy_7 rfl ?_
  refine e_get (pc := 8) dX1_liveBy_8 fX1_11 rfl rfl ?_
  refine e_iconst (v := 5) (pc := 11) dX1_liveBy_11 (by decide) ?_
  refine e_iloadn (pc := 12) dX1_liveBy_12 rfl ?_
  refine ast_names (pc := 13) dX1_liveBy_13 (by show vp_in _ ((c 3).set _ _).length; rw [List.length_set]; exact vi6 hc3 (by decide +kernel)) ?_
  refine e_aloadn (pc := 14) dX1_liveBy_14 rfl ?_
  refine e_aloadn (pc := 15) dX1_liveBy_15 rfl ?_
  refine put_hand_law (pc := 16) dX1_liveBy_16 pX1_21 ?_
  exact e_vret (pc := 19) dX1_liveBy_19 rfl (Nat.le_refl _) (Nat.le_refl _) ⟨rfl, by rw [up_up, up_at, hc3]; rfl⟩
theorem sp_x_handOf {s u m n : Nat → Int32} {a c b d : Nat → List Int32} {q : List (Option Nat)} {h : Nat} {z : mc_W} {T : Nat} {sg : Nat → Nat → List Int32} {k : Int32} (hO : xOK s a q c z T sg) (hk : mc_wi k 0 (s 2 - 1) = true) : mc_T yX6_handOf cX6_handOf 3 (some (.object "NoZeroWithin$Hand")) 2 [.ref 0, .int k] (WW s a q u c h m b n d z) (some (.ref 17)) (fun w1 => ∃ u1 c1, xHd q z (xad (tl s)) u1 c1 (gt (a 0) k) (gt (a 1) k) k (s 0) (s 1) (sg (tl s)) ∧ xKc c c1 ∧ w1 = (WW s a q u1 c1 (xad (tl s)) m b n d z)) := by
  refine mc_start (own := RX6) (ini := false) rfl (by decide +kernel) (fun h => by cases h) (Nat.le_of_ble_eq_true rfl) ?_
  show mc_E _ _ _ _ _ [some (.ref 0), some (.int k), none] [] _ _ _
  obtain ⟨hL, hC, hK, hT, hr, hc, hb, hm⟩ := id hO
  have v0 : vp_in k (a 0).length := vp_ck hL.1 hk hC.1 hC.2
  have v1 : vp_in k (a 1).length := vp_ck hL.2.1 hk hC.1 hC.2
  have hkl : k.toNatClampNeg < 5 := by
    have := v0
    rw [vp_in_iff, hL.1] at this
    have := tnc this.1
    omega
  have e4 : s 4 = nI (tl s) := nI_back hr.1
  have t4 : tl s < T := by have := tnc hr.1; unfold tl; omega
  obtain ⟨x0, x1, x2, x3, x4, x5, hc3⟩ := len6 hc.2.2.2.1
  have hTt := (hT.2.2 (tl s) t4).2
  refine e_aloadn (pc := 0) dX6_handOf_0 rfl ?_
  refine e_iloadn (pc := 1) dX6_handOf_1 rfl ?_
  refine e_cvD (pc := 2) (sp_x_isClerk hC) dX6_handOf_2 kX6_115 rfl rfl rfl rfl rfl (mc_CR_of (Nat.le_of_ble_eq_true rfl) (Nat.le_of_ble_eq_true rfl) (Nat.le_refl _) (Nat.le_refl _)) (Nat.le_of_ble_eq_true rfl) ?_
  refine e_if_eq (pc := 5) dX6_handOf_5 (t := 12) (by decide) (fun c_5 => absurd c_5 (mc_b1.mpr hk)) (fun _ => ?_)
  refine e_iloadn (pc := 8) dX6_handOf_8 rfl ?_
  refine e_goto (pc := 9) dX6_handOf_9 (t := 13) (by decide) ?_
  refine e_isn2 (pc := 13) dX6_handOf_13 (Nat.le_of_ble_eq_true rfl) rfl ?_
  refine e_aloadn (pc := 14) dX6_handOf_14 rfl ?_
  refine e_get (pc := 15) dX6_handOf_15 fX6_71 rfl rfl ?_
  refine e_iloadn (pc := 18) dX6_handOf_18 rfl ?_
  refine e_aloadn (pc := 19) dX6_handOf_19 rfl ?_
  refine e_get (pc := 20) dX6_handOf_20 fX6_16 rfl rfl ?_
  refine e_iloadn (pc := 23) dX6_handOf_23 rfl ?_
  refine ald_kindOf (pc := 24) dX6_handOf_24 v0 ?_
  refine e_aloadn (pc := 25) dX6_handOf_25 rfl ?_
  refine e_get (pc := 26) dX6_handOf_26 fX6_20 rfl rfl ?_
  refine e_iloadn (pc := 29) dX6_handOf_29 rfl ?_
  refine ald_moreOf (pc := 30) dX6_handOf_30 v1 ?_
  refine e_cvU (pc := 31) (sp_x_become1 hc3) dX6_handOf_31 kX6_281 rfl rfl rfl rfl rfl (mc_CR_of (Nat.le_of_ble_eq_true rfl) (Nat.le_of_ble_eq_true rfl) (Nat.le_refl _) (Nat.le_refl _)) (Nat.le_of_ble_eq_true rfl) ?_
  refine e_aloadn (pc := 34) dX6_handOf_34 rfl ?_
  refine e_get (pc := 35) dX6_handOf_35 fX6_71 rfl rfl ?_
  refine e_aloadn (pc := 38) dX6_handOf_38 rfl ?_
  refine e_get (pc := 39) dX6_handOf_39 fX6_7 rfl rfl ?_
  refine e_aloadn (pc := 42) dX6_handOf_42 rfl ?_
  refine e_get (pc := 43) dX6_handOf_43 fX6_13 rfl rfl ?_
  refine e_aloadn (pc := 46) dX6_handOf_46 rfl ?_
  refine e_aloadn (pc := 47) dX6_handOf_47 rfl ?_
  refine e_get (pc := 48) dX6_handOf_48 fX6_79 rfl rfl ?_
  refine e_cvD (pc := 51) (sp_x_textAt hT e4 t4) dX6_handOf_51 kX6_216 rfl rfl rfl rfl rfl (mc_CR_of (Nat.le_of_ble_eq_true rfl) (Nat.le_of_ble_eq_true rfl) (Nat.le_refl _) (Nat.le_refl _)) (Nat.le_of_ble_eq_true rfl) ?_
  refine e_cvU (pc := 54) (sp_x_liveBy (c := mc_up c 3 [gt (a 1) k, k, x2, x3, x4, x5]) (h1 := xad (tl s)) rfl) dX6_handOf_54 kX6_220 rfl rfl rfl rfl rfl (mc_CR_of (Nat.le_of_ble_eq_true rfl) (Nat.le_of_ble_eq_true rfl) (Nat.le_refl _) (Nat.le_refl _)) (Nat.le_of_ble_eq_true rfl) ?_
  refine e_aloadn (pc := 57) dX6_handOf_57 rfl ?_
  refine e_get (pc := 58) dX6_handOf_58 fX6_71 rfl rfl ?_
  exact e_aret (pc := 61) dX6_handOf_61 rfl (by first | exact Or.inl ⟨_, rfl⟩ | exact Or.inr ⟨_, rfl⟩) (Nat.le_refl _) (Nat.le_refl _) ⟨rfl, mc_up u 6 (gt (a 0) k), mc_up (mc_up c 3 [gt (a 1) k, k, x2, x3, x4, x5]) 3 [gt (a 1) k, k, x2, x3, s 0, s 1], ⟨hTt, rfl, ⟨x2, x3, rfl⟩, hc.2.2.2.2.1, hc.2.2.2.2.2, hK _ hkl, hm _ hkl, hb⟩, ⟨rfl, rfl, rfl⟩, rfl⟩
def xtd (s : Nat → Int32) (a : Nat → List Int32) (k w : Int32) : Int32 := if mc_wi k 0 (s 2 - 1) = false then -5 else if w = 0 then gt (a 0) k else if w = 1 then gt (a 1) k else if w = 2 then yy_fg (gt (a 0) k) (gt (a 1) k) (s 0) else if w = 3 then mc_b (yy_it (gt (a 0) k)) else -7
theorem sp_x_told {s u m n : Nat → Int32} {a c b d : Nat → List Int32} {q : List (Option Nat)} {h : Nat} {z : mc_W} {T : Nat} {sg : Nat → Nat → List Int32} {k w : Int32} (hO : xOK s a q c z T sg) : mc_T yX6_told cX6_told 3 (some .int) 3 [.ref 0, .int k, .int w] (WW s a q u c h m b n d z) (some (.int (xtd s a k w))) (fun w1 => ∃ u1 c1 h1, xC c1 ∧ w1 = (WW s a q u1 c1 h1 m b n d z)) := by
  refine mc_start (own := RX6) (ini := false) rfl (by decide +kernel) (fun h => by cases h) (Nat.le_of_ble_eq_true rfl) ?_
  show mc_E _ _ _ _ _ [some (.ref 0), some (.int k), some (.int w)] [] _ _ _
  refine e_aloadn (pc := 0) dX6_told_0 rfl ?_
  refine e_iloadn (pc := 1) dX6_told_1 rfl ?_
  refine e_cvD (pc := 2) (sp_x_isClerk hO.2.1) dX6_told_2 kX6_115 rfl rfl rfl rfl rfl (mc_CR_of (Nat.le_of_ble_eq_true rfl) (Nat.le_of_ble_eq_true rfl) (Nat.le_refl _) (Nat.le_refl _)) (Nat.le_of_ble_eq_true rfl) ?_
  refine e_if_ne (pc := 5) dX6_told_5 (t := 11) (by decide) (fun c_5 => ?_) (fun c_5 => ?_)
  · skip
    refine e_iloadn (pc := 11) dX6_told_11 rfl ?_
    by_cases hs_12_0 : w = 0
    · rw [hs_12_0]
      refine e_tabIn (pc := 12) (t := 44) dX6_told_12 (by decide) (by decide) rfl (by decide) ?_
      refine e_aloadn (pc := 44) dX6_told_44 rfl ?_
      refine e_get (pc := 45) dX6_told_45 fX6_16 rfl rfl ?_
      refine e_iloadn (pc := 48) dX6_told_48 rfl ?_
      refine ald_kindOf (pc := 49) dX6_told_49 (vp_ck hO.1.1 (mc_b1.mp c_5) hO.2.1.1 hO.2.1.2) ?_
      exact e_iret (pc := 50) dX6_told_50 rfl (Nat.le_refl _) (Nat.le_refl _) ⟨by unfold xtd; rw [if_neg (by rw [mc_b1.mp c_5]; decide)]; rw [if_pos rfl]; rfl, u, c, h, hO.2.2.2.2.2.1, rfl⟩
    by_cases hs_12_1 : w = 1
    · rw [hs_12_1]
      refine e_tabIn (pc := 12) (t := 51) dX6_told_12 (by decide) (by decide) rfl (by decide) ?_
      refine e_aloadn (pc := 51) dX6_told_51 rfl ?_
      refine e_get (pc := 52) dX6_told_52 fX6_20 rfl rfl ?_
      refine e_iloadn (pc := 55) dX6_told_55 rfl ?_
      refine ald_moreOf (pc := 56) dX6_told_56 (vp_ck hO.1.2.1 (mc_b1.mp c_5) hO.2.1.1 hO.2.1.2) ?_
      exact e_iret (pc := 57) dX6_told_57 rfl (Nat.le_refl _) (Nat.le_refl _) ⟨by unfold xtd; rw [if_neg (by rw [mc_b1.mp c_5]; decide)]; rw [if_neg (by decide), if_pos rfl]; rfl, u, c, h, hO.2.2.2.2.2.1, rfl⟩
    by_cases hs_12_2 : w = 2
    · rw [hs_12_2]
      refine e_tabIn (pc := 12) (t := 58) dX6_told_12 (by decide) (by decide) rfl (by decide) ?_
      refine e_aloadn (pc := 58) dX6_told_58 rfl ?_
      refine e_iloadn (pc := 59) dX6_told_59 rfl ?_
      refine e_cvX (pc := 60) (sp_x_handOf hO (mc_b1.mp c_5)) dX6_told_60 kX6_121 rfl rfl rfl rfl rfl (mc_CR_of (Nat.le_of_ble_eq_true rfl) (Nat.le_of_ble_eq_true rfl) (Nat.le_refl _) (Nat.le_refl _)) (Nat.le_of_ble_eq_true rfl) (fun w1 hw1 => ?_)
      obtain ⟨u1, c1, hH, hk1, rfl⟩ := hw1
      refine e_cvD (pc := 63) (sp_x_figures hH) dX6_told_63 kX6_129 rfl rfl rfl rfl rfl (mc_CR_of (Nat.le_of_ble_eq_true rfl) (Nat.le_of_ble_eq_true rfl) (Nat.le_refl _) (Nat.le_refl _)) (Nat.le_of_ble_eq_true rfl) ?_
      exact e_iret (pc := 66) dX6_told_66 rfl (Nat.le_refl _) (Nat.le_refl _) ⟨by unfold xtd; rw [if_neg (by rw [mc_b1.mp c_5]; decide)]; rw [if_neg (by decide), if_neg (by decide), if_pos rfl], u1, c1, _, hH.C hk1 hO.2.2.2.2.2.1, rfl⟩
    by_cases hs_12_3 : w = 3
    · rw [hs_12_3]
      refine e_tabIn (pc := 12) (t := 67) dX6_told_12 (by decide) (by decide) rfl (by decide) ?_
      refine e_aloadn (pc := 67) dX6_told_67 rfl ?_
      refine e_iloadn (pc := 68) dX6_told_68 rfl ?_
      refine e_cvX (pc := 69) (sp_x_handOf hO (mc_b1.mp c_5)) dX6_told_69 kX6_121 rfl rfl rfl rfl rfl (mc_CR_of (Nat.le_of_ble_eq_true rfl) (Nat.le_of_ble_eq_true rfl) (Nat.le_refl _) (Nat.le_refl _)) (Nat.le_of_ble_eq_true rfl) (fun w1 hw1 => ?_)
      obtain ⟨u1, c1, hH, hk1, rfl⟩ := hw1
      refine e_cvD (pc := 72) (sp_x_isTurned hH) dX6_told_72 kX6_132 rfl rfl rfl rfl rfl (mc_CR_of (Nat.le_of_ble_eq_true rfl) (Nat.le_of_ble_eq_true rfl) (Nat.le_refl _) (Nat.le_refl _)) (Nat.le_of_ble_eq_true rfl) ?_
      refine e_if_eq (pc := 75) dX6_told_75 (t := 82) (by decide) (fun c_75 => ?_) (fun c_75 => ?_)
      · skip
        refine e_iconst (v := 0) (pc := 82) dX6_told_82 (by decide) ?_
        exact e_iret (pc := 83) dX6_told_83 rfl (Nat.le_refl _) (Nat.le_refl _) ⟨by unfold xtd; rw [if_neg (by rw [mc_b1.mp c_5]; decide)]; rw [if_neg (by decide), if_neg (by decide), if_neg (by decide), if_pos rfl, mc_b0.mp c_75]; rfl, u1, c1, _, hH.C hk1 hO.2.2.2.2.2.1, rfl⟩
      · skip
        refine e_iconst (v := 1) (pc := 78) dX6_told_78 (by decide) ?_
        refine e_goto (pc := 79) dX6_told_79 (t := 83) (by decide) ?_
        exact e_iret (pc := 83) dX6_told_83 rfl (Nat.le_refl _) (Nat.le_refl _) ⟨by unfold xtd; rw [if_neg (by rw [mc_b1.mp c_5]; decide)]; rw [if_neg (by decide), if_neg (by decide), if_neg (by decide), if_pos rfl, mc_b1.mp c_75]; rfl, u1, c1, _, hH.C hk1 hO.2.2.2.2.2.1, rfl⟩
    refine e_tabOut (pc := 12) (t := 84) dX6_told_12 (mc_tabout (by decide) (fun k h1 h2 => ?_)) (by decide) ?_
    · rcases (show k = 0 ∨ k = 1 ∨ k = 2 ∨ k = 3 by omega) with rfl | rfl | rfl | rfl <;> assumption
    refine e_bipush (v := -7) (pc := 84) dX6_told_84 (by decide) ?_
    exact e_iret (pc := 86) dX6_told_86 rfl (Nat.le_refl _) (Nat.le_refl _) ⟨by unfold xtd; rw [if_neg (by rw [mc_b1.mp c_5]; decide)]; rw [if_neg (by assumption), if_neg (by assumption), if_neg (by assumption), if_neg (by assumption)], u, c, h, hO.2.2.2.2.2.1, rfl⟩
  · skip
    refine e_bipush (v := -5) (pc := 8) dX6_told_8 (by decide) ?_
    exact e_iret (pc := 10) dX6_told_10 rfl (Nat.le_refl _) (Nat.le_refl _) ⟨by unfold xtd; rw [if_pos (mc_b0.mp c_5)], u, c, h, hO.2.2.2.2.2.1, rfl⟩
def xasks (s : Nat → Int32) (a : Nat → List Int32) (sg : Nat → List Int32) (pt k v o : Int32) : Int32 := if (mc_wi pt 0 2 && mc_wi k 0 (s 2 - 1) && mc_wi v 0 99999 && mc_wi o 0 99999) = true then hask (gt (a 1) k) k (s 0) (s 1) sg pt.toNatClampNeg v (if pt = 2 then o else 0) else -2
theorem wi_2 {v : Int32} (h : mc_wi v 0 2 = true) : v = 0 ∨ v = 1 ∨ v = 2 := by
  rw [mc_wi_iff, i0, show (2 : Int32).toInt = 2 from rfl] at h
  have : v.toInt = 0 ∨ v.toInt = 1 ∨ v.toInt = 2 := by omega
  rcases this with q | q | q
  · exact Or.inl (Int32.toInt_inj.mp q)
  · exact Or.inr (Or.inl (Int32.toInt_inj.mp q))
  · exact Or.inr (Or.inr (Int32.toInt_inj.mp q))
theorem sp_x_asks0 {s u m n : Nat → Int32} {a c b d : Nat → List Int32} {q : List (Option Nat)} {h : Nat} {z : mc_W} {T : Nat} {sg : Nat → Nat → List Int32} {k v o : Int32} (hO : xOK s a q c z T sg) : mc_T yX6_asks cX6_asks 5 (some .int) 5 [.ref 0, .int 0, .int k, .int v, .int o] (WW s a q u c h m b n d z) (some (.int (xasks s a (sg (tl s)) 0 k v o))) (fun w1 => ∃ u1 c1 h1, xC c1 ∧ w1 = (WW s a q u1 c1 h1 m b n d z)) := by
  refine mc_start (own := RX6) (ini := false) rfl (by decide +kernel) (fun h => by cases h) (Nat.le_of_ble_eq_true rfl) ?_
  show mc_E _ _ _ _ _ [some (.ref 0), some (.int 0), some (.int k), some (.int v), some (.int o)] [] _ _ _
  refine e_iloadn (pc := 0) dX6_asks_0 rfl ?_
  refine e_iconst (v := 0) (pc := 1) dX6_asks_1 (by decide) ?_
  refine e_iconst (v := 2) (pc := 2) dX6_asks_2 (by decide) ?_
  refine e_csD (pc := 3) (sp_isWithin) dX6_asks_3 kX6_86 rfl rfl (mc_CR_of (Nat.le_of_ble_eq_true rfl) (Nat.le_of_ble_eq_true rfl) (Nat.le_refl _) (Nat.le_refl _)) (Nat.le_of_ble_eq_true rfl) ?_
  refine e_if_eq (pc := 6) dX6_asks_6 (t := 32) (by decide) (fun c_6 => ?_) (fun c_6 => ?_)
  · skip
    refine e_bipush (v := -2) (pc := 32) dX6_asks_32 (by decide) ?_
    exact e_iret (pc := 34) dX6_asks_34 rfl (Nat.le_refl _) (Nat.le_refl _) ⟨by unfold xasks; rw [if_neg (by simp only [mc_b0, mc_b1] at *; simp_all)], u, c, h, hO.2.2.2.2.2.1, rfl⟩
  · skip
    refine e_aloadn (pc := 9) dX6_asks_9 rfl ?_
    refine e_iloadn (pc := 10) dX6_asks_10 rfl ?_
    refine e_cvD (pc := 11) (sp_x_isClerk hO.2.1) dX6_asks_11 kX6_115 rfl rfl rfl rfl rfl (mc_CR_of (Nat.le_of_ble_eq_true rfl) (Nat.le_of_ble_eq_true rfl) (Nat.le_refl _) (Nat.le_refl _)) (Nat.le_of_ble_eq_true rfl) ?_
    refine e_if_eq (pc := 14) dX6_asks_14 (t := 32) (by decide) (fun c_14 => ?_) (fun c_14 => ?_)
    · skip
      refine e_bipush (v := -2) (pc := 32) dX6_asks_32 (by decide) ?_
      exact e_iret (pc := 34) dX6_asks_34 rfl (Nat.le_refl _) (Nat.le_refl _) ⟨by unfold xasks; rw [if_neg (by simp only [mc_b0, mc_b1] at *; simp_all)], u, c, h, hO.2.2.2.2.2.1, rfl⟩
    · skip
      refine e_iloadn (pc := 17) dX6_asks_17 rfl ?_
      refine e_csD (pc := 18) (sp_isNumber) dX6_asks_18 kX6_118 rfl rfl (mc_CR_of (Nat.le_of_ble_eq_true rfl) (Nat.le_of_ble_eq_true rfl) (Nat.le_refl _) (Nat.le_refl _)) (Nat.le_of_ble_eq_true rfl) ?_
      refine e_if_eq (pc := 21) dX6_asks_21 (t := 32) (by decide) (fun c_21 => ?_) (fun c_21 => ?_)
      · skip
        refine e_bipush (v := -2) (pc := 32) dX6_asks_32 (by decide) ?_
        exact e_iret (pc := 34) dX6_asks_34 rfl (Nat.le_refl _) (Nat.le_refl _) ⟨by unfold xasks; rw [if_neg (by simp only [mc_b0, mc_b1] at *; simp_all)], u, c, h, hO.2.2.2.2.2.1, rfl⟩
      · skip
        refine e_iload (pc := 24) dX6_asks_24 rfl ?_
        refine e_csD (pc := 26) (sp_isNumber) dX6_asks_26 kX6_118 rfl rfl (mc_CR_of (Nat.le_of_ble_eq_true rfl) (Nat.le_of_ble_eq_true rfl) (Nat.le_refl _) (Nat.le_refl _)) (Nat.le_of_ble_eq_true rfl) ?_
        refine e_if_ne (pc := 29) dX6_asks_29 (t := 35) (by decide) (fun c_29 => ?_) (fun c_29 => ?_)
        · skip
          refine e_aloadn (pc := 35) dX6_asks_35 rfl ?_
          refine e_iloadn (pc := 36) dX6_asks_36 rfl ?_
          refine e_cvX (pc := 37) (sp_x_handOf hO (mc_b1.mp c_14)) dX6_asks_37 kX6_121 rfl rfl rfl rfl rfl (mc_CR_of (Nat.le_of_ble_eq_true rfl) (Nat.le_of_ble_eq_true rfl) (Nat.le_refl _) (Nat.le_refl _)) (Nat.le_of_ble_eq_true rfl) (fun w1 hw1 => ?_)
          obtain ⟨u1, c1, hH, hk1, rfl⟩ := hw1
          refine e_iloadn (pc := 40) dX6_asks_40 rfl ?_
          refine e_iloadn (pc := 41) dX6_asks_41 rfl ?_
          refine e_iload (pc := 42) dX6_asks_42 rfl ?_
          refine e_cvX (pc := 44) (sp_x_says0 hH) dX6_asks_44 kX6_125 rfl rfl rfl rfl rfl (mc_CR_of (Nat.le_of_ble_eq_true rfl) (Nat.le_of_ble_eq_true rfl) (Nat.le_refl _) (Nat.le_refl _)) (Nat.le_of_ble_eq_true rfl) (fun w1 hw1 => ?_)
          obtain ⟨c2, hH2, hk2, -, rfl⟩ := hw1
          exact e_iret (pc := 47) dX6_asks_47 rfl (Nat.le_refl _) (Nat.le_refl _) ⟨by unfold xasks; rw [if_pos (by simp only [mc_b0, mc_b1, Bool.not_eq_false] at *; simp_all)]; rfl, u1, c2, _, hH2.C (hk1.trans hk2) hO.2.2.2.2.2.1, rfl⟩
        · skip
          refine e_bipush (v := -2) (pc := 32) dX6_asks_32 (by decide) ?_
          exact e_iret (pc := 34) dX6_asks_34 rfl (Nat.le_refl _) (Nat.le_refl _) ⟨by unfold xasks; rw [if_neg (by simp only [mc_b0, mc_b1] at *; simp_all)], u, c, h, hO.2.2.2.2.2.1, rfl⟩
theorem sp_x_asks1 {s u m n : Nat → Int32} {a c b d : Nat → List Int32} {q : List (Option Nat)} {h : Nat} {z : mc_W} {T : Nat} {sg : Nat → Nat → List Int32} {k v o : Int32} (hO : xOK s a q c z T sg) : mc_T yX6_asks cX6_asks 5 (some .int) 5 [.ref 0, .int 1, .int k, .int v, .int o] (WW s a q u c h m b n d z) (some (.int (xasks s a (sg (tl s)) 1 k v o))) (fun w1 => ∃ u1 c1 h1, xC c1 ∧ w1 = (WW s a q u1 c1 h1 m b n d z)) := by
  refine mc_start (own := RX6) (ini := false) rfl (by decide +kernel) (fun h => by cases h) (Nat.le_of_ble_eq_true rfl) ?_
  show mc_E _ _ _ _ _ [some (.ref 0), some (.int 1), some (.int k), some (.int v), some (.int o)] [] _ _ _
  refine e_iloadn (pc := 0) dX6_asks_0 rfl ?_
  refine e_iconst (v := 0) (pc := 1) dX6_asks_1 (by decide) ?_
  refine e_iconst (v := 2) (pc := 2) dX6_asks_2 (by decide) ?_
  refine e_csD (pc := 3) (sp_isWithin) dX6_asks_3 kX6_86 rfl rfl (mc_CR_of (Nat.le_of_ble_eq_true rfl) (Nat.le_of_ble_eq_true rfl) (Nat.le_refl _) (Nat.le_refl _)) (Nat.le_of_ble_eq_true rfl) ?_
  refine e_if_eq (pc := 6) dX6_asks_6 (t := 32) (by decide) (fun c_6 => ?_) (fun c_6 => ?_)
  · skip
    refine e_bipush (v := -2) (pc := 32) dX6_asks_32 (by decide) ?_
    exact e_iret (pc := 34) dX6_asks_34 rfl (Nat.le_refl _) (Nat.le_refl _) ⟨by unfold xasks; rw [if_neg (by simp only [mc_b0, mc_b1] at *; simp_all)], u, c, h, hO.2.2.2.2.2.1, rfl⟩
  · skip
    refine e_aloadn (pc := 9) dX6_asks_9 rfl ?_
    refine e_iloadn (pc := 10) dX6_asks_10 rfl ?_
    refine e_cvD (pc := 11) (sp_x_isClerk hO.2.1) dX6_asks_11 kX6_115 rfl rfl rfl rfl rfl (mc_CR_of (Nat.le_of_ble_eq_true rfl) (Nat.le_of_ble_eq_true rfl) (Nat.le_refl _) (Nat.le_refl _)) (Nat.le_of_ble_eq_true rfl) ?_
    refine e_if_eq (pc := 14) dX6_asks_14 (t := 32) (by decide) (fun c_14 => ?_) (fun c_14 => ?_)
    · skip
      refine e_bipush (v := -2) (pc := 32) dX6_asks_32 (by decide) ?_
      exact e_iret (pc := 34) dX6_asks_34 rfl (Nat.le_refl _) (Nat.le_refl _) ⟨by unfold xasks; rw [if_neg (by simp only [mc_b0, mc_b1] at *; simp_all)], u, c, h, hO.2.2.2.2.2.1, rfl⟩
    · skip
      refine e_iloadn (pc := 17) dX6_asks_17 rfl ?_
      refine e_csD (pc := 18) (sp_isNumber) dX6_asks_18 kX6_118 rfl rfl (mc_CR_of (Nat.le_of_ble_eq_true rfl) (Nat.le_of_ble_eq_true rfl) (Nat.le_refl _) (Nat.le_refl _)) (Nat.le_of_ble_eq_true rfl) ?_
      refine e_if_eq (pc := 21) dX6_asks_21 (t := 32) (by decide) (fun c_21 => ?_) (fun c_21 => ?_)
      · skip
        refine e_bipush (v := -2) (pc := 32) dX6_asks_32 (by decide) ?_
        exact e_iret (pc := 34) dX6_asks_34 rfl (Nat.le_refl _) (Nat.le_refl _) ⟨by unfold xasks; rw [if_neg (by simp only [mc_b0, mc_b1] at *; simp_all)], u, c, h, hO.2.2.2.2.2.1, rfl⟩
      · skip
        refine e_iload (pc := 24) dX6_asks_24 rfl ?_
        refine e_csD (pc := 26) (sp_isNumber) dX6_asks_26 kX6_118 rfl rfl (mc_CR_of (Nat.le_of_ble_eq_true rfl) (Nat.le_of_ble_eq_true rfl) (Nat.le_refl _) (Nat.le_refl _)) (Nat.le_of_ble_eq_true rfl) ?_
        refine e_if_ne (pc := 29) dX6_asks_29 (t := 35) (by decide) (fun c_29 => ?_) (fun c_29 => ?_)
        · skip
          refine e_aloadn (pc := 35) dX6_asks_35 rfl ?_
          refine e_iloadn (pc := 36) dX6_asks_36 rfl ?_
          refine e_cvX (pc := 37) (sp_x_handOf hO (mc_b1.mp c_14)) dX6_asks_37 kX6_121 rfl rfl rfl rfl rfl (mc_CR_of (Nat.le_of_ble_eq_true rfl) (Nat.le_of_ble_eq_true rfl) (Nat.le_refl _) (Nat.le_refl _)) (Nat.le_of_ble_eq_true rfl) (fun w1 hw1 => ?_)
          obtain ⟨u1, c1, hH, hk1, rfl⟩ := hw1
          refine e_iloadn (pc := 40) dX6_asks_40 rfl ?_
          refine e_iloadn (pc := 41) dX6_asks_41 rfl ?_
          refine e_iload (pc := 42) dX6_asks_42 rfl ?_
          refine e_cvX (pc := 44) (sp_x_says1 hH) dX6_asks_44 kX6_125 rfl rfl rfl rfl rfl (mc_CR_of (Nat.le_of_ble_eq_true rfl) (Nat.le_of_ble_eq_true rfl) (Nat.le_refl _) (Nat.le_refl _)) (Nat.le_of_ble_eq_true rfl) (fun w1 hw1 => ?_)
          obtain ⟨c2, hH2, hk2, -, rfl⟩ := hw1
          exact e_iret (pc := 47) dX6_asks_47 rfl (Nat.le_refl _) (Nat.le_refl _) ⟨by unfold xasks; rw [if_pos (by simp only [mc_b0, mc_b1, Bool.not_eq_false] at *; simp_all)]; rfl, u1, c2, _, hH2.C (hk1.trans hk2) hO.2.2.2.2.2.1, rfl⟩
        · skip
          refine e_bipush (v := -2) (pc := 32) dX6_asks_32 (by decide) ?_
          exact e_iret (pc := 34) dX6_asks_34 rfl (Nat.le_refl _) (Nat.le_refl _) ⟨by unfold xasks; rw [if_neg (by simp only [mc_b0, mc_b1] at *; simp_all)], u, c, h, hO.2.2.2.2.2.1, rfl⟩
theorem sp_x_asks2 {s u m n : Nat → Int32} {a c b d : Nat → List Int32} {q : List (Option Nat)} {h : Nat} {z : mc_W} {T : Nat} {sg : Nat → Nat → List Int32} {k v o : Int32} (hO : xOK s a q c z T sg) : mc_T yX6_asks cX6_asks 5 (some .int) 5 [.ref 0, .int 2, .int k, .int v, .int o] (WW s a q u c h m b n d z) (some (.int (xasks s a (sg (tl s)) 2 k v o))) (fun w1 => ∃ u1 c1 h1, xC c1 ∧ w1 = (WW s a q u1 c1 h1 m b n d z)) := by
  refine mc_start (own := RX6) (ini := false) rfl (by decide +kernel) (fun h => by cases h) (Nat.le_of_ble_eq_true rfl) ?_
  show mc_E _ _ _ _ _ [some (.ref 0), some (.int 2), some (.int k), some (.int v), some (.int o)] [] _ _ _
  refine e_iloadn (pc := 0) dX6_asks_0 rfl ?_
  refine e_iconst (v := 0) (pc := 1) dX6_asks_1 (by decide) ?_
  refine e_iconst (v := 2) (pc := 2) dX6_asks_2 (by decide) ?_
  refine e_csD (pc := 3) (sp_isWithin) dX6_asks_3 kX6_86 rfl rfl (mc_CR_of (Nat.le_of_ble_eq_true rfl) (Nat.le_of_ble_eq_true rfl) (Nat.le_refl _) (Nat.le_refl _)) (Nat.le_of_ble_eq_true rfl) ?_
  refine e_if_eq (pc := 6) dX6_asks_6 (t := 32) (by decide) (fun c_6 => ?_) (fun c_6 => ?_)
  · skip
    refine e_bipush (v := -2) (pc := 32) dX6_asks_32 (by decide) ?_
    exact e_iret (pc := 34) dX6_asks_34 rfl (Nat.le_refl _) (Nat.le_refl _) ⟨by unfold xasks; rw [if_neg (by simp only [mc_b0, mc_b1] at *; simp_all)], u, c, h, hO.2.2.2.2.2.1, rfl⟩
  · skip
    refine e_aloadn (pc := 9) dX6_asks_9 rfl ?_
    refine e_iloadn (pc := 10) dX6_asks_10 rfl ?_
    refine e_cvD (pc := 11) (sp_x_isClerk hO.2.1) dX6_asks_11 kX6_115 rfl rfl rfl rfl rfl (mc_CR_of (Nat.le_of_ble_eq_true rfl) (Nat.le_of_ble_eq_true rfl) (Nat.le_refl _) (Nat.le_refl _)) (Nat.le_of_ble_eq_true rfl) ?_
    refine e_if_eq (pc := 14) dX6_asks_14 (t := 32) (by decide) (fun c_14 => ?_) (fun c_14 => ?_)
    · skip
      refine e_bipush (v := -2) (pc := 32) dX6_asks_32 (by decide) ?_
      exact e_iret (pc := 34) dX6_asks_34 rfl (Nat.le_refl _) (Nat.le_refl _) ⟨by unfold xasks; rw [if_neg (by simp only [mc_b0, mc_b1] at *; simp_all)], u, c, h, hO.2.2.2.2.2.1, rfl⟩
    · skip
      refine e_iloadn (pc := 17) dX6_asks_17 rfl ?_
      refine e_csD (pc := 18) (sp_isNumber) dX6_asks_18 kX6_118 rfl rfl (mc_CR_of (Nat.le_of_ble_eq_true rfl) (Nat.le_of_ble_eq_true rfl) (Nat.le_refl _) (Nat.le_refl _)) (Nat.le_of_ble_eq_true rfl) ?_
      refine e_if_eq (pc := 21) dX6_asks_21 (t := 32) (by decide) (fun c_21 => ?_) (fun c_21 => ?_)
      · skip
        refine e_bipush (v := -2) (pc := 32) dX6_asks_32 (by decide) ?_
        exact e_iret (pc := 34) dX6_asks_34 rfl (Nat.le_refl _) (Nat.le_refl _) ⟨by unfold xasks; rw [if_neg (by simp only [mc_b0, mc_b1] at *; simp_all)], u, c, h, hO.2.2.2.2.2.1, rfl⟩
      · skip
        refine e_iload (pc := 24) dX6_asks_24 rfl ?_
        refine e_csD (pc := 26) (sp_isNumber) dX6_asks_26 kX6_118 rfl rfl (mc_CR_of (Nat.le_of_ble_eq_true rfl) (Nat.le_of_ble_eq_true rfl) (Nat.le_refl _) (Nat.le_refl _)) (Nat.le_of_ble_eq_true rfl) ?_
        refine e_if_ne (pc := 29) dX6_asks_29 (t := 35) (by decide) (fun c_29 => ?_) (fun c_29 => ?_)
        · skip
          refine e_aloadn (pc := 35) dX6_asks_35 rfl ?_
          refine e_iloadn (pc := 36) dX6_asks_36 rfl ?_
          refine e_cvX (pc := 37) (sp_x_handOf hO (mc_b1.mp c_14)) dX6_asks_37 kX6_121 rfl rfl rfl rfl rfl (mc_CR_of (Nat.le_of_ble_eq_true rfl) (Nat.le_of_ble_eq_true rfl) (Nat.le_refl _) (Nat.le_refl _)) (Nat.le_of_ble_eq_true rfl) (fun w1 hw1 => ?_)
          obtain ⟨u1, c1, hH, hk1, rfl⟩ := hw1
          refine e_iloadn (pc := 40) dX6_asks_40 rfl ?_
          refine e_iloadn (pc := 41) dX6_asks_41 rfl ?_
          refine e_iload (pc := 42) dX6_asks_42 rfl ?_
          refine e_cvX (pc := 44) (sp_x_says2 hH) dX6_asks_44 kX6_125 rfl rfl rfl rfl rfl (mc_CR_of (Nat.le_of_ble_eq_true rfl) (Nat.le_of_ble_eq_true rfl) (Nat.le_refl _) (Nat.le_refl _)) (Nat.le_of_ble_eq_true rfl) (fun w1 hw1 => ?_)
          obtain ⟨c2, hH2, hk2, -, rfl⟩ := hw1
          exact e_iret (pc := 47) dX6_asks_47 rfl (Nat.le_refl _) (Nat.le_refl _) ⟨by unfold xasks; rw [if_pos (by simp only [mc_b0, mc_b1, Bool.not_eq_false] at *; simp_all)]; rfl, u1, c2, _, hH2.C (hk1.trans hk2) hO.2.2.2.2.2.1, rfl⟩
        · skip
          refine e_bipush (v := -2) (pc := 32) dX6_asks_32 (by decide) ?_
          exact e_iret (pc := 34) dX6_asks_34 rfl (Nat.le_refl _) (Nat.le_refl _) ⟨by unfold xasks; rw [if_neg (by simp only [mc_b0, mc_b1] at *; simp_all)], u, c, h, hO.2.2.2.2.2.1, rfl⟩
theorem sp_x_asksB {s u m n : Nat → Int32} {a c b d : Nat → List Int32} {q : List (Option Nat)} {h : Nat} {z : mc_W} {T : Nat} {sg : Nat → Nat → List Int32} {pt k v o : Int32} (hp : mc_wi pt 0 2 = false) (hO : xOK s a q c z T sg) : mc_T yX6_asks cX6_asks 5 (some .int) 5 [.ref 0, .int pt, .int k, .int v, .int o] (WW s a q u c h m b n d z) (some (.int (xasks s a (sg (tl s)) pt k v o))) (fun w1 => ∃ u1 c1 h1, xC c1 ∧ w1 = (WW s a q u1 c1 h1 m b n d z)) := by
  refine mc_start (own := RX6) (ini := false) rfl (by decide +kernel) (fun h => by cases h) (Nat.le_of_ble_eq_true rfl) ?_
  show mc_E _ _ _ _ _ [some (.ref 0), some (.int pt), some (.int k), some (.int v), some (.int o)] [] _ _ _
  refine e_iloadn (pc := 0) dX6_asks_0 rfl ?_
  refine e_iconst (v := 0) (pc := 1) dX6_asks_1 (by decide) ?_
  refine e_iconst (v := 2) (pc := 2) dX6_asks_2 (by decide) ?_
  refine e_csD (pc := 3) (sp_isWithin) dX6_asks_3 kX6_86 rfl rfl (mc_CR_of (Nat.le_of_ble_eq_true rfl) (Nat.le_of_ble_eq_true rfl) (Nat.le_refl _) (Nat.le_refl _)) (Nat.le_of_ble_eq_true rfl) ?_
  refine e_if_eq (pc := 6) dX6_asks_6 (t := 32) (by decide) (fun _ => ?_) (fun c_6 => absurd (mc_b0.mpr hp) c_6)
  refine e_bipush (v := -2) (pc := 32) dX6_asks_32 (by decide) ?_
  exact e_iret (pc := 34) dX6_asks_34 rfl (Nat.le_refl _) (Nat.le_refl _) ⟨by unfold xasks; rw [if_neg (by rw [hp]; simp)], u, c, h, hO.2.2.2.2.2.1, rfl⟩
theorem sp_x_asks {s u m n : Nat → Int32} {a c b d : Nat → List Int32} {q : List (Option Nat)} {h : Nat} {z : mc_W} {T : Nat} {sg : Nat → Nat → List Int32} {pt k v o : Int32} (hO : xOK s a q c z T sg) : mc_T yX6_asks cX6_asks 5 (some .int) 5 [.ref 0, .int pt, .int k, .int v, .int o] (WW s a q u c h m b n d z) (some (.int (xasks s a (sg (tl s)) pt k v o))) (fun w1 => ∃ u1 c1 h1, xC c1 ∧ w1 = (WW s a q u1 c1 h1 m b n d z)) := by
  by_cases hp : mc_wi pt 0 2 = true
  · rcases wi_2 hp with rfl | rfl | rfl
    · exact sp_x_asks0 hO
    · exact sp_x_asks1 hO
    · exact sp_x_asks2 hO
  · exact sp_x_asksB (by simpa using hp) hO
