theorem sp_x_text {s u m n : Nat → Int32} {a c b d : Nat → List Int32} {q : List (Option Nat)} {h : Nat} {z : mc_W} (hL : xL a) {N : Nat} (hN : s 5 = nI N) (hN1 : N ≤ 160) {t : Nat} (h3 : s 3 = nI t) (ht : t ≤ 6) (hq : q.length = 6) (hl : (c 0).length = 160) (hz : z.length ≤ 800000) :
    mc_S yX6_text cX6_text 3 (some .int) 46 2 170 [.ref 0] (WW s a q u c h m b n d z) (fun r w => r = some (.int (xtxt (xT a) N t)) ∧ (t = 6 → w = (WW s a q u c h m b n d z)) ∧ (t ≠ 6 → ∃ u1 c1, (∀ j, 6 ≤ j → u1 j = u j) ∧ (∀ j, 1 ≤ j → c1 j = c j) ∧ (c1 0).length = 160 ∧ w = (if (xtv (xT a) N).1 = true then (WW (mc_up (mc_up s 5 0) 3 (nI (t + 1))) a (q.set t (some (z.length + 46))) u1 c1 h m b n d (z ++ [.inl (5, [.ref (z.length + 47), .int (nI (xtA (xT a) N).2.2.length), .int (nI (xtB (xT a) N).2.2.length)]), .inr (.inl (xtC (xT a) N).2.2)])) else (WW (mc_up s 5 0) a q u1 c1 h m b n d z)))) := by
  refine mc_start (own := RX6) (ini := false) rfl (by decide +kernel) (fun h => by cases h) (Nat.le_of_ble_eq_true rfl) ?_
  show mc_E _ _ _ _ _ [some (.ref 0), none, none] [] _ _ _
  have c6 : s 3 < 6 ↔ t < 6 := by rw [h3, Int32.lt_iff_toInt_lt, nI_toInt (by omega), show (6 : Int32).toInt = 6 from rfl]; omega
  refine e_aloadn (pc := 0) dX6_text_0 rfl ?_
  refine e_get (pc := 1) dX6_text_1 fX6_36 rfl rfl ?_
  refine e_bipush (v := 6) (pc := 4) dX6_text_4 (by decide) ?_
  refine e_icmp_lt (pc := 6) dX6_text_6 (t := 12) (by decide) (fun c_6 => ?_) (fun c_6 => ?_)
  · skip
    refine e_aloadn (pc := 12) dX6_text_12 rfl ?_
    refine e_get (pc := 13) dX6_text_13 fX6_42 rfl rfl ?_
    refine e_cvX (pc := 16) (sp_x_isText hL hN hN1 hl) dX6_text_16 kX6_101 rfl rfl rfl rfl rfl (mc_CR_of (Nat.le_of_ble_eq_true rfl) (Nat.le_of_ble_eq_true rfl) (Nat.le_of_ble_eq_true rfl) (Nat.le_of_ble_eq_true rfl)) (Nat.le_of_ble_eq_true rfl) (fun w1 hw1 => ?_)
    obtain ⟨u1, c1, hTL, rfl⟩ := hw1
    refine e_isn1 (pc := 19) dX6_text_19 (Nat.le_of_ble_eq_true rfl) rfl ?_
    refine e_aloadn (pc := 20) dX6_text_20 rfl ?_
    refine e_get (pc := 21) dX6_text_21 fX6_42 rfl rfl ?_
    refine e_cvU (pc := 24) (sp_x_tempty) dX6_text_24 kX6_105 rfl rfl rfl rfl rfl (mc_CR_of (Nat.le_of_ble_eq_true rfl) (Nat.le_of_ble_eq_true rfl) (Nat.le_of_ble_eq_true rfl) (Nat.le_of_ble_eq_true rfl)) (Nat.le_of_ble_eq_true rfl) ?_
    refine e_iloadn (pc := 27) dX6_text_27 rfl ?_
    refine e_if_ne (pc := 28) dX6_text_28 (t := 42) (by decide) (fun c_28 => ?_) (fun c_28 => ?_)
    · skip
      have ok : (xtv (xT a) N).1 = true := mc_b1.mp c_28
      obtain ⟨o3, o0, o4, o5⟩ := hTL.2.2.2.2 ok
      have t6 := c6.mp c_6
      have hlen := xtC_len (xT a) N hN1 ok
      refine e_aloadn (pc := 42) dX6_text_42 rfl ?_
      refine e_get (pc := 43) dX6_text_43 fX6_36 rfl rfl ?_
      refine e_isn2 (pc := 46) dX6_text_46 (Nat.le_of_ble_eq_true rfl) rfl ?_
      refine e_aloadn (pc := 47) dX6_text_47 rfl ?_
      refine e_get (pc := 48) dX6_text_48 fX6_32 rfl rfl ?_
      refine e_iloadn (pc := 51) dX6_text_51 rfl ?_
      refine e_aloadn (pc := 52) dX6_text_52 rfl ?_
      refine e_get (pc := 53) dX6_text_53 fX6_42 rfl rfl ?_
      refine e_callV (sp_x_result (K := (xtC (xT a) N).2.2.length) o3 hlen hTL.2.2.2.1 hz) dX6_text_56 kX6_111 rfl rfl rfl rfl (mc_CR_of (Nat.le_of_ble_eq_true rfl) (Nat.le_of_ble_eq_true rfl) (Nat.le_of_ble_eq_true rfl) (Nat.le_of_ble_eq_true rfl)) rfl (Nat.le_of_ble_eq_true rfl) (fun r w1 h => ?_)
      obtain ⟨rfl, rfl⟩ := h
      show mc_E _ _ _ _ _ _ [.ref (z.length + 46), .int (s 3), .ref 5] _ _ _
      refine e_aast (vs := [.ref (z.length + 47), .int (u1 4), .int (u1 5)]) (pc := 59) dX6_text_59 (Or.inl ⟨rfl, rfl⟩) rfl (by show (z ++ [_, _])[z.length]? = _; simp) (by rw [h3, hq]; exact vp_in_nI t6 (by decide)) ?_
      refine e_w (w2 := (WW (mc_up s 5 0) a (q.set t (some (z.length + 46))) u1 c1 h m b n d (z ++ [.inl (5, [.ref (z.length + 47), .int (u1 4), .int (u1 5)]), .inr (.inl ((c1 0).take (xtC (xT a) N).2.2.length))]))) (by rw [h3, nIc (by omega)]; rfl) ?_
      refine e_aloadn (pc := 60) dX6_text_60 rfl ?_
      refine e_dup (pc := 61) dX6_text_61 rfl ?_
      refine e_get (pc := 62) dX6_text_62 fX6_36 rfl rfl ?_
      refine e_iconst (v := 1) (pc := 65) dX6_text_65 (by decide) ?_
      refine e_iadd (pc := 66) dX6_text_66 ?_
      refine e_top ((show mc_up s 5 0 3 + 1 = nI (t + 1) by rw [upn (by decide), h3, nI_1])) ?_
      refine put_x_textCount (pc := 67) dX6_text_67 pX6_36 ?_
      refine e_iloadn (pc := 70) dX6_text_70 rfl ?_
      exact e_iret (pc := 71) dX6_text_71 rfl (Nat.le_of_ble_eq_true rfl) (Nat.le_of_ble_eq_true rfl) ⟨by unfold xtxt; rw [if_neg (show ¬ t = 6 by omega), if_pos ok]; show some (Value.int (s 3)) = _; rw [h3], fun q => absurd q (by omega), fun _ => ⟨u1, c1, hTL.2.1, hTL.2.2.1, hTL.2.2.2.1, by rw [if_pos ok, o4, o5, o0]; try rfl⟩⟩
    · skip
      refine e_bipush (v := -100) (pc := 31) dX6_text_31 (by decide) ?_
      refine e_aloadn (pc := 33) dX6_text_33 rfl ?_
      refine e_get (pc := 34) dX6_text_34 fX6_42 rfl rfl ?_
      refine e_cvD (pc := 37) (sp_x_faultPlace) dX6_text_37 kX6_108 rfl rfl rfl rfl rfl (mc_CR_of (Nat.le_of_ble_eq_true rfl) (Nat.le_of_ble_eq_true rfl) (Nat.le_of_ble_eq_true rfl) (Nat.le_of_ble_eq_true rfl)) (Nat.le_of_ble_eq_true rfl) ?_
      refine e_isub (pc := 40) dX6_text_40 ?_
      exact e_iret (pc := 41) dX6_text_41 rfl (Nat.le_of_ble_eq_true rfl) (Nat.le_of_ble_eq_true rfl) ⟨by unfold xtxt; rw [if_neg (show ¬ t = 6 by have := c6.mp c_6; omega), if_neg (show ¬ (xtv (xT a) N).1 = true by rw [mc_b0.mp c_28]; decide), hTL.1], fun q => absurd q (by have := c6.mp c_6; omega), fun _ => ⟨u1, c1, hTL.2.1, hTL.2.2.1, hTL.2.2.2.1, by rw [if_neg (show ¬ (xtv (xT a) N).1 = true by rw [mc_b0.mp c_28]; decide)]⟩⟩
  · skip
    refine e_bipush (v := -4) (pc := 9) dX6_text_9 (by decide) ?_
    exact e_iret (pc := 11) dX6_text_11 rfl (Nat.le_of_ble_eq_true rfl) (Nat.le_of_ble_eq_true rfl) ⟨by unfold xtxt; rw [if_pos (show t = 6 from Nat.le_antisymm ht (Nat.not_lt.mp (fun q => c_6 (c6.mpr q))))], fun _ => rfl, fun q => absurd (show t = 6 from Nat.le_antisymm ht (Nat.not_lt.mp (fun q => c_6 (c6.mpr q)))) q⟩
