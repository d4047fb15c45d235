/-! ===== the tape is fed; debts are cleared, forgiven ===== -/
theorem sp_x_tapp {s u m n : Nat → Int32} {a c b d : Nat → List Int32} {q : List (Option Nat)} {h : Nat} {z : mc_W} {x : Int32} {N : Nat} (hL : (a 2).length = 160) (hN : s 5 = nI N) (hN2 : N < 160) : mc_D yX4_append cX4_append 2 none 1 [.ref 6, .int x] (WW s a q u c h m b n d z) none (WW (mc_up s 5 (nI (N + 1))) (mc_up a 2 ((a 2).set N x)) q u c h m b n d z) := by
  refine mc_start (own := RX4) (ini := false) rfl (by decide +kernel) (fun h => by cases h) (Nat.le_of_ble_eq_true rfl) ?_
  show mc_E _ _ _ _ _ [some (.ref 6), some (.int x)] [] _ _ _
  refine e_aloadn (pc := 0) dX4_append_0 rfl ?_
  refine e_get (pc := 1) dX4_append_1 fX4_18 rfl rfl ?_
  refine e_if_lt (pc := 4) dX4_append_4 (t := 39) (by decide) (fun c_4 => absurd c_4 (by rw [hN]; exact nI_pos (by omega))) (fun _ => ?_)
  refine e_aloadn (pc := 7) dX4_append_7 rfl ?_
  refine e_get (pc := 8) dX4_append_8 fX4_18 rfl rfl ?_
  refine e_aloadn (pc := 11) dX4_append_11 rfl ?_
  refine e_get (pc := 12) dX4_append_12 fX4_9 rfl rfl ?_
  refine e_alen (pc := 15) dX4_append_15 rfl (show Int32.ofNat (a 2).length = 160 by rw [hL]; rfl) ?_
  refine e_icmp_ge (pc := 16) dX4_append_16 (t := 39) (by decide) (fun c_16 => absurd c_16 (by rw [hN]; exact nI_ge (b := 160) hN2 (by decide))) (fun _ => ?_)
  refine e_aloadn (pc := 19) dX4_append_19 rfl ?_
  refine e_get (pc := 20) dX4_append_20 fX4_9 rfl rfl ?_
  refine e_aloadn (pc := 23) dX4_append_23 rfl ?_
  refine e_get (pc := 24) dX4_append_24 fX4_18 rfl rfl ?_
  refine e_iloadn (pc := 27) dX4_append_27 rfl ?_
  refine ast_bytes (pc := 28) dX4_append_28 (by rw [hL, hN]; exact vp_in_nI hN2 (by decide)) ?_
  refine e_aloadn (pc := 29) dX4_append_29 rfl ?_
  refine e_dup (pc := 30) dX4_append_30 rfl ?_
  refine e_get (pc := 31) dX4_append_31 fX4_18 rfl rfl ?_
  refine e_iconst (v := 1) (pc := 34) dX4_append_34 (by decide) ?_
  refine e_iadd (pc := 35) dX4_append_35 ?_
  refine put_tape_size (pc := 36) dX4_append_36 pX4_18 ?_
  exact e_vret (pc := 39) dX4_append_39 rfl (Nat.le_refl _) (Nat.le_refl _) ⟨rfl, by rw [hN, nIc (by omega), nI_1]⟩
theorem sp_x_feed1 {s u m n : Nat → Int32} {a c b d : Nat → List Int32} {q : List (Option Nat)} {h : Nat} {z : mc_W} {x0 x1 x2 x3 x4 : Int32} {N : Nat} (hL : (a 2).length = 160) (hN : s 5 = nI N) (hN2 : N + 1 ≤ 160) (hb : (mc_wi x0 0 255 && mc_wi x1 0 255 && mc_wi x2 0 255 && mc_wi x3 0 255 && mc_wi x4 0 255) = true) : mc_D yX6_feed cX6_feed 7 (some .int) 3 [.ref 0, .int 1, .int x0, .int x1, .int x2, .int x3, .int x4] (WW s a q u c h m b n d z) (some (.int (nI (N + 1)))) (WW (mc_up s 5 (nI (N + 1))) (mc_up a 2 ((a 2).set N x0)) q u c h m b n d z) := by
  refine mc_start (own := RX6) (ini := false) rfl (by decide +kernel) (fun h => by cases h) (Nat.le_of_ble_eq_true rfl) ?_
  show mc_E _ _ _ _ _ [some (.ref 0), some (.int 1), some (.int x0), some (.int x1), some (.int x2), some (.int x3), some (.int x4)] [] _ _ _
  simp only [Bool.and_eq_true] at hb
  obtain ⟨⟨⟨⟨hb0, hb1⟩, hb2⟩, hb3⟩, hb4⟩ := hb
  refine e_iloadn (pc := 0) dX6_feed_0 rfl ?_
  refine e_iconst (v := 1) (pc := 1) dX6_feed_1 (by decide) ?_
  refine e_iconst (v := 5) (pc := 2) dX6_feed_2 (by decide) ?_
  refine e_csD (pc := 3) (sp_isWithin) dX6_feed_3 kX6_86 rfl rfl (mc_CR_of (Nat.le_of_ble_eq_true rfl) (Nat.le_of_ble_eq_true rfl) (Nat.le_refl _) (Nat.le_refl _)) (Nat.le_of_ble_eq_true rfl) ?_
  refine e_if_eq (pc := 6) dX6_feed_6 (t := 47) (by decide) (fun c_6 => absurd c_6 (by decide)) (fun _ => ?_)
  refine e_iloadn (pc := 9) dX6_feed_9 rfl ?_
  refine e_csD (pc := 10) (sp_isByte) dX6_feed_10 kX6_94 rfl rfl (mc_CR_of (Nat.le_of_ble_eq_true rfl) (Nat.le_of_ble_eq_true rfl) (Nat.le_refl _) (Nat.le_refl _)) (Nat.le_of_ble_eq_true rfl) ?_
  refine e_if_eq (pc := 13) dX6_feed_13 (t := 47) (by decide) (fun c_13 => absurd c_13 (mc_b1.mpr hb0)) (fun _ => ?_)
  refine e_iloadn (pc := 16) dX6_feed_16 rfl ?_
  refine e_csD (pc := 17) (sp_isByte) dX6_feed_17 kX6_94 rfl rfl (mc_CR_of (Nat.le_of_ble_eq_true rfl) (Nat.le_of_ble_eq_true rfl) (Nat.le_refl _) (Nat.le_refl _)) (Nat.le_of_ble_eq_true rfl) ?_
  refine e_if_eq (pc := 20) dX6_feed_20 (t := 47) (by decide) (fun c_20 => absurd c_20 (mc_b1.mpr hb1)) (fun _ => ?_)
  refine e_iload (pc := 23) dX6_feed_23 rfl ?_
  refine e_csD (pc := 25) (sp_isByte) dX6_feed_25 kX6_94 rfl rfl (mc_CR_of (Nat.le_of_ble_eq_true rfl) (Nat.le_of_ble_eq_true rfl) (Nat.le_refl _) (Nat.le_refl _)) (Nat.le_of_ble_eq_true rfl) ?_
  refine e_if_eq (pc := 28) dX6_feed_28 (t := 47) (by decide) (fun c_28 => absurd c_28 (mc_b1.mpr hb2)) (fun _ => ?_)
  refine e_iload (pc := 31) dX6_feed_31 rfl ?_
  refine e_csD (pc := 33) (sp_isByte) dX6_feed_33 kX6_94 rfl rfl (mc_CR_of (Nat.le_of_ble_eq_true rfl) (Nat.le_of_ble_eq_true rfl) (Nat.le_refl _) (Nat.le_refl _)) (Nat.le_of_ble_eq_true rfl) ?_
  refine e_if_eq (pc := 36) dX6_feed_36 (t := 47) (by decide) (fun c_36 => absurd c_36 (mc_b1.mpr hb3)) (fun _ => ?_)
  refine e_iload (pc := 39) dX6_feed_39 rfl ?_
  refine e_csD (pc := 41) (sp_isByte) dX6_feed_41 kX6_94 rfl rfl (mc_CR_of (Nat.le_of_ble_eq_true rfl) (Nat.le_of_ble_eq_true rfl) (Nat.le_refl _) (Nat.le_refl _)) (Nat.le_of_ble_eq_true rfl) ?_
  refine e_if_ne (pc := 44) dX6_feed_44 (t := 50) (by decide) (fun _ => ?_) (fun c_44 => absurd c_44 (mc_b1.mpr hb4))
  refine e_aloadn (pc := 50) dX6_feed_50 rfl ?_
  refine e_get (pc := 51) dX6_feed_51 fX6_42 rfl rfl ?_
  refine e_cvD (pc := 54) (sp_x_tsize) dX6_feed_54 kX6_82 rfl rfl rfl rfl rfl (mc_CR_of (Nat.le_of_ble_eq_true rfl) (Nat.le_of_ble_eq_true rfl) (Nat.le_refl _) (Nat.le_refl _)) (Nat.le_of_ble_eq_true rfl) ?_
  refine e_sipush (v := 160) (pc := 57) dX6_feed_57 (by decide) ?_
  refine e_iloadn (pc := 60) dX6_feed_60 rfl ?_
  refine e_isub (pc := 61) dX6_feed_61 ?_
  refine e_icmp_le (pc := 62) dX6_feed_62 (t := 68) (by decide) (fun _ => ?_) (fun c_62 => absurd (by rw [hN]; exact nI_le (b := 159) (by omega) (by decide)) c_62)
  refine e_aloadn (pc := 68) dX6_feed_68 rfl ?_
  refine e_get (pc := 69) dX6_feed_69 fX6_42 rfl rfl ?_
  refine e_iloadn (pc := 72) dX6_feed_72 rfl ?_
  refine e_cvU (pc := 73) (sp_x_tapp (N := N) hL hN (by omega)) dX6_feed_73 kX6_97 rfl rfl rfl rfl rfl (mc_CR_of (Nat.le_of_ble_eq_true rfl) (Nat.le_of_ble_eq_true rfl) (Nat.le_refl _) (Nat.le_refl _)) (Nat.le_of_ble_eq_true rfl) ?_
  refine e_w (w2 := (WW (mc_up s 5 (nI (N + 1))) (mc_up a 2 ((a 2).set N x0)) q u c h m b n d z)) rfl ?_
  refine e_iloadn (pc := 76) dX6_feed_76 rfl ?_
  refine e_iconst (v := 1) (pc := 77) dX6_feed_77 (by decide) ?_
  refine e_icmp_le (pc := 78) dX6_feed_78 (t := 89) (by decide) (fun _ => ?_) (fun c_78 => absurd (by decide) c_78)
  refine e_iloadn (pc := 89) dX6_feed_89 rfl ?_
  refine e_iconst (v := 2) (pc := 90) dX6_feed_90 (by decide) ?_
  refine e_icmp_le (pc := 91) dX6_feed_91 (t := 103) (by decide) (fun _ => ?_) (fun c_91 => absurd (by decide) c_91)
  refine e_iloadn (pc := 103) dX6_feed_103 rfl ?_
  refine e_iconst (v := 3) (pc := 104) dX6_feed_104 (by decide) ?_
  refine e_icmp_le (pc := 105) dX6_feed_105 (t := 117) (by decide) (fun _ => ?_) (fun c_105 => absurd (by decide) c_105)
  refine e_iloadn (pc := 117) dX6_feed_117 rfl ?_
  refine e_iconst (v := 4) (pc := 118) dX6_feed_118 (by decide) ?_
  refine e_icmp_le (pc := 119) dX6_feed_119 (t := 131) (by decide) (fun _ => ?_) (fun c_119 => absurd (by decide) c_119)
  refine e_aloadn (pc := 131) dX6_feed_131 rfl ?_
  refine e_get (pc := 132) dX6_feed_132 fX6_42 rfl rfl ?_
  refine e_cvD (pc := 135) (sp_x_tsize (s := (mc_up s 5 (nI (N + 1))))) dX6_feed_135 kX6_82 rfl rfl rfl rfl rfl (mc_CR_of (Nat.le_of_ble_eq_true rfl) (Nat.le_of_ble_eq_true rfl) (Nat.le_refl _) (Nat.le_refl _)) (Nat.le_of_ble_eq_true rfl) ?_
  exact e_iret (pc := 138) dX6_feed_138 rfl (Nat.le_refl _) (Nat.le_refl _) ⟨rfl, rfl⟩
theorem sp_x_feed2 {s u m n : Nat → Int32} {a c b d : Nat → List Int32} {q : List (Option Nat)} {h : Nat} {z : mc_W} {x0 x1 x2 x3 x4 : Int32} {N : Nat} (hL : (a 2).length = 160) (hN : s 5 = nI N) (hN2 : N + 2 ≤ 160) (hb : (mc_wi x0 0 255 && mc_wi x1 0 255 && mc_wi x2 0 255 && mc_wi x3 0 255 && mc_wi x4 0 255) = true) : mc_D yX6_feed cX6_feed 7 (some .int) 3 [.ref 0, .int 2, .int x0, .int x1, .int x2, .int x3, .int x4] (WW s a q u c h m b n d z) (some (.int (nI (N + 2)))) (WW (mc_up s 5 (nI (N + 2))) (mc_up a 2 (((a 2).set N x0).set (N + 1) x1)) q u c h m b n d z) := by
  refine mc_start (own := RX6) (ini := false) rfl (by decide +kernel) (fun h => by cases h) (Nat.le_of_ble_eq_true rfl) ?_
  show mc_E _ _ _ _ _ [some (.ref 0), some (.int 2), some (.int x0), some (.int x1), some (.int x2), some (.int x3), some (.int x4)] [] _ _ _
  simp only [Bool.and_eq_true] at hb
  obtain ⟨⟨⟨⟨hb0, hb1⟩, hb2⟩, hb3⟩, hb4⟩ := hb
  refine e_iloadn (pc := 0) dX6_feed_0 rfl ?_
  refine e_iconst (v := 1) (pc := 1) dX6_feed_1 (by decide) ?_
  refine e_iconst (v := 5) (pc := 2) dX6_feed_2 (by decide) ?_
  refine e_csD (pc := 3) (sp_isWithin) dX6_feed_3 kX6_86 rfl rfl (mc_CR_of (Nat.le_of_ble_eq_true rfl) (Nat.le_of_ble_eq_true rfl) (Nat.le_refl _) (Nat.le_refl _)) (Nat.le_of_ble_eq_true rfl) ?_
  refine e_if_eq (pc := 6) dX6_feed_6 (t := 47) (by decide) (fun c_6 => absurd c_6 (by decide)) (fun _ => ?_)
  refine e_iloadn (pc := 9) dX6_feed_9 rfl ?_
  refine e_csD (pc := 10) (sp_isByte) dX6_feed_10 kX6_94 rfl rfl (mc_CR_of (Nat.le_of_ble_eq_true rfl) (Nat.le_of_ble_eq_true rfl) (Nat.le_refl _) (Nat.le_refl _)) (Nat.le_of_ble_eq_true rfl) ?_
  refine e_if_eq (pc := 13) dX6_feed_13 (t := 47) (by decide) (fun c_13 => absurd c_13 (mc_b1.mpr hb0)) (fun _ => ?_)
  refine e_iloadn (pc := 16) dX6_feed_16 rfl ?_
  refine e_csD (pc := 17) (sp_isByte) dX6_feed_17 kX6_94 rfl rfl (mc_CR_of (Nat.le_of_ble_eq_true rfl) (Nat.le_of_ble_eq_true rfl) (Nat.le_refl _) (Nat.le_refl _)) (Nat.le_of_ble_eq_true rfl) ?_
  refine e_if_eq (pc := 20) dX6_feed_20 (t := 47) (by decide) (fun c_20 => absurd c_20 (mc_b1.mpr hb1)) (fun _ => ?_)
  refine e_iload (pc := 23) dX6_feed_23 rfl ?_
  refine e_csD (pc := 25) (sp_isByte) dX6_feed_25 kX6_94 rfl rfl (mc_CR_of (Nat.le_of_ble_eq_true rfl) (Nat.le_of_ble_eq_true rfl) (Nat.le_refl _) (Nat.le_refl _)) (Nat.le_of_ble_eq_true rfl) ?_
  refine e_if_eq (pc := 28) dX6_feed_28 (t := 47) (by decide) (fun c_28 => absurd c_28 (mc_b1.mpr hb2)) (fun _ => ?_)
  refine e_iload (pc := 31) dX6_feed_31 rfl ?_
  refine e_csD (pc := 33) (sp_isByte) dX6_feed_33 kX6_94 rfl rfl (mc_CR_of (Nat.le_of_ble_eq_true rfl) (Nat.le_of_ble_eq_true rfl) (Nat.le_refl _) (Nat.le_refl _)) (Nat.le_of_ble_eq_true rfl) ?_
  refine e_if_eq (pc := 36) dX6_feed_36 (t := 47) (by decide) (fun c_36 => absurd c_36 (mc_b1.mpr hb3)) (fun _ => ?_)
  refine e_iload (pc := 39) dX6_feed_39 rfl ?_
  refine e_csD (pc := 41) (sp_isByte) dX6_feed_41 kX6_94 rfl rfl (mc_CR_of (Nat.le_of_ble_eq_true rfl) (Nat.le_of_ble_eq_true rfl) (Nat.le_refl _) (Nat.le_refl _)) (Nat.le_of_ble_eq_true rfl) ?_
  refine e_if_ne (pc := 44) dX6_feed_44 (t := 50) (by decide) (fun _ => ?_) (fun c_44 => absurd c_44 (mc_b1.mpr hb4))
  refine e_aloadn (pc := 50) dX6_feed_50 rfl ?_
  refine e_get (pc := 51) dX6_feed_51 fX6_42 rfl rfl ?_
  refine e_cvD (pc := 54) (sp_x_tsize) dX6_feed_54 kX6_82 rfl rfl rfl rfl rfl (mc_CR_of (Nat.le_of_ble_eq_true rfl) (Nat.le_of_ble_eq_true rfl) (Nat.le_refl _) (Nat.le_refl _)) (Nat.le_of_ble_eq_true rfl) ?_
  refine e_sipush (v := 160) (pc := 57) dX6_feed_57 (by decide) ?_
  refine e_iloadn (pc := 60) dX6_feed_60 rfl ?_
  refine e_isub (pc := 61) dX6_feed_61 ?_
  refine e_icmp_le (pc := 62) dX6_feed_62 (t := 68) (by decide) (fun _ => ?_) (fun c_62 => absurd (by rw [hN]; exact nI_le (b := 158) (by omega) (by decide)) c_62)
  refine e_aloadn (pc := 68) dX6_feed_68 rfl ?_
  refine e_get (pc := 69) dX6_feed_69 fX6_42 rfl rfl ?_
  refine e_iloadn (pc := 72) dX6_feed_72 rfl ?_
  refine e_cvU (pc := 73) (sp_x_tapp (N := N) hL hN (by omega)) dX6_feed_73 kX6_97 rfl rfl rfl rfl rfl (mc_CR_of (Nat.le_of_ble_eq_true rfl) (Nat.le_of_ble_eq_true rfl) (Nat.le_refl _) (Nat.le_refl _)) (Nat.le_of_ble_eq_true rfl) ?_
  refine e_w (w2 := (WW (mc_up s 5 (nI (N + 1))) (mc_up a 2 ((a 2).set N x0)) q u c h m b n d z)) rfl ?_
  refine e_iloadn (pc := 76) dX6_feed_76 rfl ?_
  refine e_iconst (v := 1) (pc := 77) dX6_feed_77 (by decide) ?_
  refine e_icmp_le (pc := 78) dX6_feed_78 (t := 89) (by decide) (fun c_78 => absurd c_78 (by decide)) (fun _ => ?_)
  refine e_aloadn (pc := 81) dX6_feed_81 rfl ?_
  refine e_get (pc := 82) dX6_feed_82 fX6_42 rfl rfl ?_
  refine e_iloadn (pc := 85) dX6_feed_85 rfl ?_
  refine e_cvU (pc := 86) (sp_x_tapp (N := N + 1) (s := (mc_up s 5 (nI (N + 1)))) (a := (mc_up a 2 ((a 2).set N x0))) (by show (((a 2).set N x0)).length = 160; simp [hL]) (by rfl) (by omega)) dX6_feed_86 kX6_97 rfl rfl rfl rfl rfl (mc_CR_of (Nat.le_of_ble_eq_true rfl) (Nat.le_of_ble_eq_true rfl) (Nat.le_refl _) (Nat.le_refl _)) (Nat.le_of_ble_eq_true rfl) ?_
  refine e_w (w2 := (WW (mc_up s 5 (nI (N + 2))) (mc_up a 2 (((a 2).set N x0).set (N + 1) x1)) q u c h m b n d z)) (by rw [up_up, up_up, up_at]) ?_
  refine e_iloadn (pc := 89) dX6_feed_89 rfl ?_
  refine e_iconst (v := 2) (pc := 90) dX6_feed_90 (by decide) ?_
  refine e_icmp_le (pc := 91) dX6_feed_91 (t := 103) (by decide) (fun _ => ?_) (fun c_91 => absurd (by decide) c_91)
  refine e_iloadn (pc := 103) dX6_feed_103 rfl ?_
  refine e_iconst (v := 3) (pc := 104) dX6_feed_104 (by decide) ?_
  refine e_icmp_le (pc := 105) dX6_feed_105 (t := 117) (by decide) (fun _ => ?_) (fun c_105 => absurd (by decide) c_105)
  refine e_iloadn (pc := 117) dX6_feed_117 rfl ?_
  refine e_iconst (v := 4) (pc := 118) dX6_feed_118 (by decide) ?_
  refine e_icmp_le (pc := 119) dX6_feed_119 (t := 131) (by decide) (fun _ => ?_) (fun c_119 => absurd (by decide) c_119)
  refine e_aloadn (pc := 131) dX6_feed_131 rfl ?_
  refine e_get (pc := 132) dX6_feed_132 fX6_42 rfl rfl ?_
  refine e_cvD (pc := 135) (sp_x_tsize (s := (mc_up s 5 (nI (N + 2))))) dX6_feed_135 kX6_82 rfl rfl rfl rfl rfl (mc_CR_of (Nat.le_of_ble_eq_true rfl) (Nat.le_of_ble_eq_true rfl) (Nat.le_refl _) (Nat.le_refl _)) (Nat.le_of_ble_eq_true rfl) ?_
  exact e_iret (pc := 138) dX6_feed_138 rfl (Nat.le_refl _) (Nat.le_refl _) ⟨rfl, rfl⟩
theorem sp_x_feed3 {s u m n : Nat → Int32} {a c b d : Nat → List Int32} {q : List (Option Nat)} {h : Nat} {z : mc_W} {x0 x1 x2 x3 x4 : Int32} {N : Nat} (hL : (a 2).length = 160) (hN : s 5 = nI N) (hN2 : N + 3 ≤ 160) (hb : (mc_wi x0 0 255 && mc_wi x1 0 255 && mc_wi x2 0 255 && mc_wi x3 0 255 && mc_wi x4 0 255) = true) : mc_D yX6_feed cX6_feed 7 (some .int) 3 [.ref 0, .int 3, .int x0, .int x1, .int x2, .int x3, .int x4] (WW s a q u c h m b n d z) (some (.int (nI (N + 3)))) (WW (mc_up s 5 (nI (N + 3))) (mc_up a 2 ((((a 2).set N x0).set (N + 1) x1).set (N + 2) x2)) q u c h m b n d z) := by
  refine mc_start (own := RX6) (ini := false) rfl (by decide +kernel) (fun h => by cases h) (Nat.le_of_ble_eq_true rfl) ?_
  show mc_E _ _ _ _ _ [some (.ref 0), some (.int 3), some (.int x0), some (.int x1), some (.int x2), some (.int x3), some (.int x4)] [] _ _ _
  simp only [Bool.and_eq_true] at hb
  obtain ⟨⟨⟨⟨hb0, hb1⟩, hb2⟩, hb3⟩, hb4⟩ := hb
  refine e_iloadn (pc := 0) dX6_feed_0 rfl ?_
  refine e_iconst (v := 1) (pc := 1) dX6_feed_1 (by decide) ?_
  refine e_iconst (v := 5) (pc := 2) dX6_feed_2 (by decide) ?_
  refine e_csD (pc := 3) (sp_isWithin) dX6_feed_3 kX6_86 rfl rfl (mc_CR_of (Nat.le_of_ble_eq_true rfl) (Nat.le_of_ble_eq_true rfl) (Nat.le_refl _) (Nat.le_refl _)) (Nat.le_of_ble_eq_true rfl) ?_
  refine e_if_eq (pc := 6) dX6_feed_6 (t := 47) (by decide) (fun c_6 => absurd c_6 (by decide)) (fun _ => ?_)
  refine e_iloadn (pc := 9) dX6_feed_9 rfl ?_
  refine e_csD (pc := 10) (sp_isByte) dX6_feed_10 kX6_94 rfl rfl (mc_CR_of (Nat.le_of_ble_eq_true rfl) (Nat.le_of_ble_eq_true rfl) (Nat.le_refl _) (Nat.le_refl _)) (Nat.le_of_ble_eq_true rfl) ?_
  refine e_if_eq (pc := 13) dX6_feed_13 (t := 47) (by decide) (fun c_13 => absurd c_13 (mc_b1.mpr hb0)) (fun _ => ?_)
  refine e_iloadn (pc := 16) dX6_feed_16 rfl ?_
  refine e_csD (pc := 17) (sp_isByte) dX6_feed_17 kX6_94 rfl rfl (mc_CR_of (Nat.le_of_ble_eq_true rfl) (Nat.le_of_ble_eq_true rfl) (Nat.le_refl _) (Nat.le_refl _)) (Nat.le_of_ble_eq_true rfl) ?_
  refine e_if_eq (pc := 20) dX6_feed_20 (t := 47) (by decide) (fun c_20 => absurd c_20 (mc_b1.mpr hb1)) (fun _ => ?_)
  refine e_iload (pc := 23) dX6_feed_23 rfl ?_
  refine e_csD (pc := 25) (sp_isByte) dX6_feed_25 kX6_94 rfl rfl (mc_CR_of (Nat.le_of_ble_eq_true rfl) (Nat.le_of_ble_eq_true rfl) (Nat.le_refl _) (Nat.le_refl _)) (Nat.le_of_ble_eq_true rfl) ?_
  refine e_if_eq (pc := 28) dX6_feed_28 (t := 47) (by decide) (fun c_28 => absurd c_28 (mc_b1.mpr hb2)) (fun _ => ?_)
  refine e_iload (pc := 31) dX6_feed_31 rfl ?_
  refine e_csD (pc := 33) (sp_isByte) dX6_feed_33 kX6_94 rfl rfl (mc_CR_of (Nat.le_of_ble_eq_true rfl) (Nat.le_of_ble_eq_true rfl) (Nat.le_refl _) (Nat.le_refl _)) (Nat.le_of_ble_eq_true rfl) ?_
  refine e_if_eq (pc := 36) dX6_feed_36 (t := 47) (by decide) (fun c_36 => absurd c_36 (mc_b1.mpr hb3)) (fun _ => ?_)
  refine e_iload (pc := 39) dX6_feed_39 rfl ?_
  refine e_csD (pc := 41) (sp_isByte) dX6_feed_41 kX6_94 rfl rfl (mc_CR_of (Nat.le_of_ble_eq_true rfl) (Nat.le_of_ble_eq_true rfl) (Nat.le_refl _) (Nat.le_refl _)) (Nat.le_of_ble_eq_true rfl) ?_
  refine e_if_ne (pc := 44) dX6_feed_44 (t := 50) (by decide) (fun _ => ?_) (fun c_44 => absurd c_44 (mc_b1.mpr hb4))
  refine e_aloadn (pc := 50) dX6_feed_50 rfl ?_
  refine e_get (pc := 51) dX6_feed_51 fX6_42 rfl rfl ?_
  refine e_cvD (pc := 54) (sp_x_tsize) dX6_feed_54 kX6_82 rfl rfl rfl rfl rfl (mc_CR_of (Nat.le_of_ble_eq_true rfl) (Nat.le_of_ble_eq_true rfl) (Nat.le_refl _) (Nat.le_refl _)) (Nat.le_of_ble_eq_true rfl) ?_
  refine e_sipush (v := 160) (pc := 57) dX6_feed_57 (by decide) ?_
  refine e_iloadn (pc := 60) dX6_feed_60 rfl ?_
  refine e_isub (pc := 61) dX6_feed_61 ?_
  refine e_icmp_le (pc := 62) dX6_feed_62 (t := 68) (by decide) (fun _ => ?_) (fun c_62 => absurd (by rw [hN]; exact nI_le (b := 157) (by omega) (by decide)) c_62)
  refine e_aloadn (pc := 68) dX6_feed_68 rfl ?_
  refine e_get (pc := 69) dX6_feed_69 fX6_42 rfl rfl ?_
  refine e_iloadn (pc := 72) dX6_feed_72 rfl ?_
  refine e_cvU (pc := 73) (sp_x_tapp (N := N) hL hN (by omega)) dX6_feed_73 kX6_97 rfl rfl rfl rfl rfl (mc_CR_of (Nat.le_of_ble_eq_true rfl) (Nat.le_of_ble_eq_true rfl) (Nat.le_refl _) (Nat.le_refl _)) (Nat.le_of_ble_eq_true rfl) ?_
  refine e_w (w2 := (WW (mc_up s 5 (nI (N + 1))) (mc_up a 2 ((a 2).set N x0)) q u c h m b n d z)) rfl ?_
  refine e_iloadn (pc := 76) dX6_feed_76 rfl ?_
  refine e_iconst (v := 1) (pc := 77) dX6_feed_77 (by decide) ?_
  refine e_icmp_le (pc := 78) dX6_feed_78 (t := 89) (by decide) (fun c_78 => absurd c_78 (by decide)) (fun _ => ?_)
  refine e_aloadn (pc := 81) dX6_feed_81 rfl ?_
  refine e_get (pc := 82) dX6_feed_82 fX6_42 rfl rfl ?_
  refine e_iloadn (pc := 85) dX6_feed_85 rfl ?_
  refine e_cvU (pc := 86) (sp_x_tapp (N := N + 1) (s := (mc_up s 5 (nI (N + 1)))) (a := (mc_up a 2 ((a 2).set N x0))) (by show (((a 2).set N x0)).length = 160; simp [hL]) (by rfl) (by omega)) dX6_feed_86 kX6_97 rfl rfl rfl rfl rfl (mc_CR_of (Nat.le_of_ble_eq_true rfl) (Nat.le_of_ble_eq_true rfl) (Nat.le_refl _) (Nat.le_refl _)) (Nat.le_of_ble_eq_true rfl) ?_
  refine e_w (w2 := (WW (mc_up s 5 (nI (N + 2))) (mc_up a 2 (((a 2).set N x0).set (N + 1) x1)) q u c h m b n d z)) (by rw [up_up, up_up, up_at]) ?_
  refine e_iloadn (pc := 89) dX6_feed_89 rfl ?_
  refine e_iconst (v := 2) (pc := 90) dX6_feed_90 (by decide) ?_
  refine e_icmp_le (pc := 91) dX6_feed_91 (t := 103) (by decide) (fun c_91 => absurd c_91 (by decide)) (fun _ => ?_)
  refine e_aloadn (pc := 94) dX6_feed_94 rfl ?_
  refine e_get (pc := 95) dX6_feed_95 fX6_42 rfl rfl ?_
  refine e_iload (pc := 98) dX6_feed_98 rfl ?_
  refine e_cvU (pc := 100) (sp_x_tapp (N := N + 2) (s := (mc_up s 5 (nI (N + 2)))) (a := (mc_up a 2 (((a 2).set N x0).set (N + 1) x1))) (by show ((((a 2).set N x0).set (N + 1) x1)).length = 160; simp [hL]) (by rfl) (by omega)) dX6_feed_100 kX6_97 rfl rfl rfl rfl rfl (mc_CR_of (Nat.le_of_ble_eq_true rfl) (Nat.le_of_ble_eq_true rfl) (Nat.le_refl _) (Nat.le_refl _)) (Nat.le_of_ble_eq_true rfl) ?_
  refine e_w (w2 := (WW (mc_up s 5 (nI (N + 3))) (mc_up a 2 ((((a 2).set N x0).set (N + 1) x1).set (N + 2) x2)) q u c h m b n d z)) (by rw [up_up, up_up, up_at]) ?_
  refine e_iloadn (pc := 103) dX6_feed_103 rfl ?_
  refine e_iconst (v := 3) (pc := 104) dX6_feed_104 (by decide) ?_
  refine e_icmp_le (pc := 105) dX6_feed_105 (t := 117) (by decide) (fun _ => ?_) (fun c_105 => absurd (by decide) c_105)
  refine e_iloadn (pc := 117) dX6_feed_117 rfl ?_
  refine e_iconst (v := 4) (pc := 118) dX6_feed_118 (by decide) ?_
  refine e_icmp_le (pc := 119) dX6_feed_119 (t := 131) (by decide) (fun _ => ?_) (fun c_119 => absurd (by decide) c_119)
  refine e_aloadn (pc := 131) dX6_feed_131 rfl ?_
  refine e_get (pc := 132) dX6_feed_132 fX6_42 rfl rfl ?_
  refine e_cvD (pc := 135) (sp_x_tsize (s := (mc_up s 5 (nI (N + 3))))) dX6_feed_135 kX6_82 rfl rfl rfl rfl rfl (mc_CR_of (Nat.le_of_ble_eq_true rfl) (Nat.le_of_ble_eq_true rfl) (Nat.le_refl _) (Nat.le_refl _)) (Nat.le_of_ble_eq_true rfl) ?_
  exact e_iret (pc := 138) dX6_feed_138 rfl (Nat.le_refl _) (Nat.le_refl _) ⟨rfl, rfl⟩
theorem sp_x_feed4 {s u m n : Nat → Int32} {a c b d : Nat → List Int32} {q : List (Option Nat)} {h : Nat} {z : mc_W} {x0 x1 x2 x3 x4 : Int32} {N : Nat} (hL : (a 2).length = 160) (hN : s 5 = nI N) (hN2 : N + 4 ≤ 160) (hb : (mc_wi x0 0 255 && mc_wi x1 0 255 && mc_wi x2 0 255 && mc_wi x3 0 255 && mc_wi x4 0 255) = true) : mc_D yX6_feed cX6_feed 7 (some .int) 3 [.ref 0, .int 4, .int x0, .int x1, .int x2, .int x3, .int x4] (WW s a q u c h m b n d z) (some (.int (nI (N + 4)))) (WW (mc_up s 5 (nI (N + 4))) (mc_up a 2 (((((a 2).set N x0).set (N + 1) x1).set (N + 2) x2).set (N + 3) x3)) q u c h m b n d z) := by
  refine mc_start (own := RX6) (ini := false) rfl (by decide +kernel) (fun h => by cases h) (Nat.le_of_ble_eq_true rfl) ?_
  show mc_E _ _ _ _ _ [some (.ref 0), some (.int 4), some (.int x0), some (.int x1), some (.int x2), some (.int x3), some (.int x4)] [] _ _ _
  simp only [Bool.and_eq_true] at hb
  obtain ⟨⟨⟨⟨hb0, hb1⟩, hb2⟩, hb3⟩, hb4⟩ := hb
  refine e_iloadn (pc := 0) dX6_feed_0 rfl ?_
  refine e_iconst (v := 1) (pc := 1) dX6_feed_1 (by decide) ?_
  refine e_iconst (v := 5) (pc := 2) dX6_feed_2 (by decide) ?_
  refine e_csD (pc := 3) (sp_isWithin) dX6_feed_3 kX6_86 rfl rfl (mc_CR_of (Nat.le_of_ble_eq_true rfl) (Nat.le_of_ble_eq_true rfl) (Nat.le_refl _) (Nat.le_refl _)) (Nat.le_of_ble_eq_true rfl) ?_
  refine e_if_eq (pc := 6) dX6_feed_6 (t := 47) (by decide) (fun c_6 => absurd c_6 (by decide)) (fun _ => ?_)
  refine e_iloadn (pc := 9) dX6_feed_9 rfl ?_
  refine e_csD (pc := 10) (sp_isByte) dX6_feed_10 kX6_94 rfl rfl (mc_CR_of (Nat.le_of_ble_eq_true rfl) (Nat.le_of_ble_eq_true rfl) (Nat.le_refl _) (Nat.le_refl _)) (Nat.le_of_ble_eq_true rfl) ?_
  refine e_if_eq (pc := 13) dX6_feed_13 (t := 47) (by decide) (fun c_13 => absurd c_13 (mc_b1.mpr hb0)) (fun _ => ?_)
  refine e_iloadn (pc := 16) dX6_feed_16 rfl ?_
  refine e_csD (pc := 17) (sp_isByte) dX6_feed_17 kX6_94 rfl rfl (mc_CR_of (Nat.le_of_ble_eq_true rfl) (Nat.le_of_ble_eq_true rfl) (Nat.le_refl _) (Nat.le_refl _)) (Nat.le_of_ble_eq_true rfl) ?_
  refine e_if_eq (pc := 20) dX6_feed_20 (t := 47) (by decide) (fun c_20 => absurd c_20 (mc_b1.mpr hb1)) (fun _ => ?_)
  refine e_iload (pc := 23) dX6_feed_23 rfl ?_
  refine e_csD (pc := 25) (sp_isByte) dX6_feed_25 kX6_94 rfl rfl (mc_CR_of (Nat.le_of_ble_eq_true rfl) (Nat.le_of_ble_eq_true rfl) (Nat.le_refl _) (Nat.le_refl _)) (Nat.le_of_ble_eq_true rfl) ?_
  refine e_if_eq (pc := 28) dX6_feed_28 (t := 47) (by decide) (fun c_28 => absurd c_28 (mc_b1.mpr hb2)) (fun _ => ?_)
  refine e_iload (pc := 31) dX6_feed_31 rfl ?_
  refine e_csD (pc := 33) (sp_isByte) dX6_feed_33 kX6_94 rfl rfl (mc_CR_of (Nat.le_of_ble_eq_true rfl) (Nat.le_of_ble_eq_true rfl) (Nat.le_refl _) (Nat.le_refl _)) (Nat.le_of_ble_eq_true rfl) ?_
  refine e_if_eq (pc := 36) dX6_feed_36 (t := 47) (by decide) (fun c_36 => absurd c_36 (mc_b1.mpr hb3)) (fun _ => ?_)
  refine e_iload (pc := 39) dX6_feed_39 rfl ?_
  refine e_csD (pc := 41) (sp_isByte) dX6_feed_41 kX6_94 rfl rfl (mc_CR_of (Nat.le_of_ble_eq_true rfl) (Nat.le_of_ble_eq_true rfl) (Nat.le_refl _) (Nat.le_refl _)) (Nat.le_of_ble_eq_true rfl) ?_
  refine e_if_ne (pc := 44) dX6_feed_44 (t := 50) (by decide) (fun _ => ?_) (fun c_44 => absurd c_44 (mc_b1.mpr hb4))
  refine e_aloadn (pc := 50) dX6_feed_50 rfl ?_
  refine e_get (pc := 51) dX6_feed_51 fX6_42 rfl rfl ?_
  refine e_cvD (pc := 54) (sp_x_tsize) dX6_feed_54 kX6_82 rfl rfl rfl rfl rfl (mc_CR_of (Nat.le_of_ble_eq_true rfl) (Nat.le_of_ble_eq_true rfl) (Nat.le_refl _) (Nat.le_refl _)) (Nat.le_of_ble_eq_true rfl) ?_
  refine e_sipush (v := 160) (pc := 57) dX6_feed_57 (by decide) ?_
  refine e_iloadn (pc := 60) dX6_feed_60 rfl ?_
  refine e_isub (pc := 61) dX6_feed_61 ?_
  refine e_icmp_le (pc := 62) dX6_feed_62 (t := 68) (by decide) (fun _ => ?_) (fun c_62 => absurd (by rw [hN]; exact nI_le (b := 156) (by omega) (by decide)) c_62)
  refine e_aloadn (pc := 68) dX6_feed_68 rfl ?_
  refine e_get (pc := 69) dX6_feed_69 fX6_42 rfl rfl ?_
  refine e_iloadn (pc := 72) dX6_feed_72 rfl ?_
  refine e_cvU (pc := 73) (sp_x_tapp (N := N) hL hN (by omega)) dX6_feed_73 kX6_97 rfl rfl rfl rfl rfl (mc_CR_of (Nat.le_of_ble_eq_true rfl) (Nat.le_of_ble_eq_true rfl) (Nat.le_refl _) (Nat.le_refl _)) (Nat.le_of_ble_eq_true rfl) ?_
  refine e_w (w2 := (WW (mc_up s 5 (nI (N + 1))) (mc_up a 2 ((a 2).set N x0)) q u c h m b n d z)) rfl ?_
  refine e_iloadn (pc := 76) dX6_feed_76 rfl ?_
  refine e_iconst (v := 1) (pc := 77) dX6_feed_77 (by decide) ?_
  refine e_icmp_le (pc := 78) dX6_feed_78 (t := 89) (by decide) (fun c_78 => absurd c_78 (by decide)) (fun _ => ?_)
  refine e_aloadn (pc := 81) dX6_feed_81 rfl ?_
  refine e_get (pc := 82) dX6_feed_82 fX6_42 rfl rfl ?_
  refine e_iloadn (pc := 85) dX6_feed_85 rfl ?_
  refine e_cvU (pc := 86) (sp_x_tapp (N := N + 1) (s := (mc_up s 5 (nI (N + 1)))) (a := (mc_up a 2 ((a 2).set N x0))) (by show (((a 2).set N x0)).length = 160; simp [hL]) (by rfl) (by omega)) dX6_feed_86 kX6_97 rfl rfl rfl rfl rfl (mc_CR_of (Nat.le_of_ble_eq_true rfl) (Nat.le_of_ble_eq_true rfl) (Nat.le_refl _) (Nat.le_refl _)) (Nat.le_of_ble_eq_true rfl) ?_
  refine e_w (w2 := (WW (mc_up s 5 (nI (N + 2))) (mc_up a 2 (((a 2).set N x0).set (N + 1) x1)) q u c h m b n d z)) (by rw [up_up, up_up, up_at]) ?_
  refine e_iloadn (pc := 89) dX6_feed_89 rfl ?_
  refine e_iconst (v := 2) (pc := 90) dX6_feed_90 (by decide) ?_
  refine e_icmp_le (pc := 91) dX6_feed_91 (t := 103) (by decide) (fun c_91 => absurd c_91 (by decide)) (fun _ => ?_)
  refine e_aloadn (pc := 94) dX6_feed_94 rfl ?_
  refine e_get (pc := 95) dX6_feed_95 fX6_42 rfl rfl ?_
  refine e_iload (pc := 98) dX6_feed_98 rfl ?_
  refine e_cvU (pc := 100) (sp_x_tapp (N := N + 2) (s := (mc_up s 5 (nI (N + 2)))) (a := (mc_up a 2 (((a 2).set N x0).set (N + 1) x1))) (by show ((((a 2).set N x0).set (N + 1) x1)).length = 160; simp [hL]) (by rfl) (by omega)) dX6_feed_100 kX6_97 rfl rfl rfl rfl rfl (mc_CR_of (Nat.le_of_ble_eq_true rfl) (Nat.le_of_ble_eq_true rfl) (Nat.le_refl _) (Nat.le_refl _)) (Nat.le_of_ble_eq_true rfl) ?_
  refine e_w (w2 := (WW (mc_up s 5 (nI (N + 3))) (mc_up a 2 ((((a 2).set N x0).set (N + 1) x1).set (N + 2) x2)) q u c h m b n d z)) (by rw [up_up, up_up, up_at]) ?_
  refine e_iloadn (pc := 103) dX6_feed_103 rfl ?_
  refine e_iconst (v := 3) (pc := 104) dX6_feed_104 (by decide) ?_
  refine e_icmp_le (pc := 105) dX6_feed_105 (t := 117) (by decide) (fun c_105 => absurd c_105 (by decide)) (fun _ => ?_)
  refine e_aloadn (pc := 108) dX6_feed_108 rfl ?_
  refine e_get (pc := 109) dX6_feed_109 fX6_42 rfl rfl ?_
  refine e_iload (pc := 112) dX6_feed_112 rfl ?_
  refine e_cvU (pc := 114) (sp_x_tapp (N := N + 3) (s := (mc_up s 5 (nI (N + 3)))) (a := (mc_up a 2 ((((a 2).set N x0).set (N + 1) x1).set (N + 2) x2))) (by show (((((a 2).set N x0).set (N + 1) x1).set (N + 2) x2)).length = 160; simp [hL]) (by rfl) (by omega)) dX6_feed_114 kX6_97 rfl rfl rfl rfl rfl (mc_CR_of (Nat.le_of_ble_eq_true rfl) (Nat.le_of_ble_eq_true rfl) (Nat.le_refl _) (Nat.le_refl _)) (Nat.le_of_ble_eq_true rfl) ?_
  refine e_w (w2 := (WW (mc_up s 5 (nI (N + 4))) (mc_up a 2 (((((a 2).set N x0).set (N + 1) x1).set (N + 2) x2).set (N + 3) x3)) q u c h m b n d z)) (by rw [up_up, up_up, up_at]) ?_
  refine e_iloadn (pc := 117) dX6_feed_117 rfl ?_
  refine e_iconst (v := 4) (pc := 118) dX6_feed_118 (by decide) ?_
  refine e_icmp_le (pc := 119) dX6_feed_119 (t := 131) (by decide) (fun _ => ?_) (fun c_119 => absurd (by decide) c_119)
  refine e_aloadn (pc := 131) dX6_feed_131 rfl ?_
  refine e_get (pc := 132) dX6_feed_132 fX6_42 rfl rfl ?_
  refine e_cvD (pc := 135) (sp_x_tsize (s := (mc_up s 5 (nI (N + 4))))) dX6_feed_135 kX6_82 rfl rfl rfl rfl rfl (mc_CR_of (Nat.le_of_ble_eq_true rfl) (Nat.le_of_ble_eq_true rfl) (Nat.le_refl _) (Nat.le_refl _)) (Nat.le_of_ble_eq_true rfl) ?_
  exact e_iret (pc := 138) dX6_feed_138 rfl (Nat.le_refl _) (Nat.le_refl _) ⟨rfl, rfl⟩
theorem sp_x_feed5 {s u m n : Nat → Int32} {a c b d : Nat → List Int32} {q : List (Option Nat)} {h : Nat} {z : mc_W} {x0 x1 x2 x3 x4 : Int32} {N : Nat} (hL : (a 2).length = 160) (hN : s 5 = nI N) (hN2 : N + 5 ≤ 160) (hb : (mc_wi x0 0 255 && mc_wi x1 0 255 && mc_wi x2 0 255 && mc_wi x3 0 255 && mc_wi x4 0 255) = true) : mc_D yX6_feed cX6_feed 7 (some .int) 3 [.ref 0, .int 5, .int x0, .int x1, .int x2, .int x3, .int x4] (WW s a q u c h m b n d z) (some (.int (nI (N + 5)))) (WW (mc_up s 5 (nI (N + 5))) (mc_up a 2 ((((((a 2).set N x0).set (N + 1) x1).set (N + 2) x2).set (N + 3) x3).set (N + 4) x4)) q u c h m b n d z) := by
  refine mc_start (own := RX6) (ini := false) rfl (by decide +kernel) (fun h => by cases h) (Nat.le_of_ble_eq_true rfl) ?_
  show mc_E _ _ _ _ _ [some (.ref 0), some (.int 5), some (.int x0), some (.int x1), some (.int x2), some (.int x3), some (.int x4)] [] _ _ _
  simp only [Bool.and_eq_true] at hb
  obtain ⟨⟨⟨⟨hb0, hb1⟩, hb2⟩, hb3⟩, hb4⟩ := hb
  refine e_iloadn (pc := 0) dX6_feed_0 rfl ?_
  refine e_iconst (v := 1) (pc := 1) dX6_feed_1 (by decide) ?_
  refine e_iconst (v := 5) (pc := 2) dX6_feed_2 (by decide) ?_
  refine e_csD (pc := 3) (sp_isWithin) dX6_feed_3 kX6_86 rfl rfl (mc_CR_of (Nat.le_of_ble_eq_true rfl) (Nat.le_of_ble_eq_true rfl) (Nat.le_refl _) (Nat.le_refl _)) (Nat.le_of_ble_eq_true rfl) ?_
  refine e_if_eq (pc := 6) dX6_feed_6 (t := 47) (by decide) (fun c_6 => absurd c_6 (by decide)) (fun _ => ?_)
  refine e_iloadn (pc := 9) dX6_feed_9 rfl ?_
  refine e_csD (pc := 10) (sp_isByte) dX6_feed_10 kX6_94 rfl rfl (mc_CR_of (Nat.le_of_ble_eq_true rfl) (Nat.le_of_ble_eq_true rfl) (Nat.le_refl _) (Nat.le_refl _)) (Nat.le_of_ble_eq_true rfl) ?_
  refine e_if_eq (pc := 13) dX6_feed_13 (t := 47) (by decide) (fun c_13 => absurd c_13 (mc_b1.mpr hb0)) (fun _ => ?_)
  refine e_iloadn (pc := 16) dX6_feed_16 rfl ?_
  refine e_csD (pc := 17) (sp_isByte) dX6_feed_17 kX6_94 rfl rfl (mc_CR_of (Nat.le_of_ble_eq_true rfl) (Nat.le_of_ble_eq_true rfl) (Nat.le_refl _) (Nat.le_refl _)) (Nat.le_of_ble_eq_true rfl) ?_
  refine e_if_eq (pc := 20) dX6_feed_20 (t := 47) (by decide) (fun c_20 => absurd c_20 (mc_b1.mpr hb1)) (fun _ => ?_)
  refine e_iload (pc := 23) dX6_feed_23 rfl ?_
  refine e_csD (pc := 25) (sp_isByte) dX6_feed_25 kX6_94 rfl rfl (mc_CR_of (Nat.le_of_ble_eq_true rfl) (Nat.le_of_ble_eq_true rfl) (Nat.le_refl _) (Nat.le_refl _)) (Nat.le_of_ble_eq_true rfl) ?_
  refine e_if_eq (pc := 28) dX6_feed_28 (t := 47) (by decide) (fun c_28 => absurd c_28 (mc_b1.mpr hb2)) (fun _ => ?_)
  refine e_iload (pc := 31) dX6_feed_31 rfl ?_
  refine e_csD (pc := 33) (sp_isByte) dX6_feed_33 kX6_94 rfl rfl (mc_CR_of (Nat.le_of_ble_eq_true rfl) (Nat.le_of_ble_eq_true rfl) (Nat.le_refl _) (Nat.le_refl _)) (Nat.le_of_ble_eq_true rfl) ?_
  refine e_if_eq (pc := 36) dX6_feed_36 (t := 47) (by decide) (fun c_36 => absurd c_36 (mc_b1.mpr hb3)) (fun _ => ?_)
  refine e_iload (pc := 39) dX6_feed_39 rfl ?_
  refine e_csD (pc := 41) (sp_isByte) dX6_feed_41 kX6_94 rfl rfl (mc_CR_of (Nat.le_of_ble_eq_true rfl) (Nat.le_of_ble_eq_true rfl) (Nat.le_refl _) (Nat.le_refl _)) (Nat.le_of_ble_eq_true rfl) ?_
  refine e_if_ne (pc := 44) dX6_feed_44 (t := 50) (by decide) (fun _ => ?_) (fun c_44 => absurd c_44 (mc_b1.mpr hb4))
  refine e_aloadn (pc := 50) dX6_feed_50 rfl ?_
  refine e_get (pc := 51) dX6_feed_51 fX6_42 rfl rfl ?_
  refine e_cvD (pc := 54) (sp_x_tsize) dX6_feed_54 kX6_82 rfl rfl rfl rfl rfl (mc_CR_of (Nat.le_of_ble_eq_true rfl) (Nat.le_of_ble_eq_true rfl) (Nat.le_refl _) (Nat.le_refl _)) (Nat.le_of_ble_eq_true rfl) ?_
  refine e_sipush (v := 160) (pc := 57) dX6_feed_57 (by decide) ?_
  refine e_iloadn (pc := 60) dX6_feed_60 rfl ?_
  refine e_isub (pc := 61) dX6_feed_61 ?_
  refine e_icmp_le (pc := 62) dX6_feed_62 (t := 68) (by decide) (fun _ => ?_) (fun c_62 => absurd (by rw [hN]; exact nI_le (b := 155) (by omega) (by decide)) c_62)
  refine e_aloadn (pc := 68) dX6_feed_68 rfl ?_
  refine e_get (pc := 69) dX6_feed_69 fX6_42 rfl rfl ?_
  refine e_iloadn (pc := 72) dX6_feed_72 rfl ?_
  refine e_cvU (pc := 73) (sp_x_tapp (N := N) hL hN (by omega)) dX6_feed_73 kX6_97 rfl rfl rfl rfl rfl (mc_CR_of (Nat.le_of_ble_eq_true rfl) (Nat.le_of_ble_eq_true rfl) (Nat.le_refl _) (Nat.le_refl _)) (Nat.le_of_ble_eq_true rfl) ?_
  refine e_w (w2 := (WW (mc_up s 5 (nI (N + 1))) (mc_up a 2 ((a 2).set N x0)) q u c h m b n d z)) rfl ?_
  refine e_iloadn (pc := 76) dX6_feed_76 rfl ?_
  refine e_iconst (v := 1) (pc := 77) dX6_feed_77 (by decide) ?_
  refine e_icmp_le (pc := 78) dX6_feed_78 (t := 89) (by decide) (fun c_78 => absurd c_78 (by decide)) (fun _ => ?_)
  refine e_aloadn (pc := 81) dX6_feed_81 rfl ?_
  refine e_get (pc := 82) dX6_feed_82 fX6_42 rfl rfl ?_
  refine e_iloadn (pc := 85) dX6_feed_85 rfl ?_
  refine e_cvU (pc := 86) (sp_x_tapp (N := N + 1) (s := (mc_up s 5 (nI (N + 1)))) (a := (mc_up a 2 ((a 2).set N x0))) (by show (((a 2).set N x0)).length = 160; simp [hL]) (by rfl) (by omega)) dX6_feed_86 kX6_97 rfl rfl rfl rfl rfl (mc_CR_of (Nat.le_of_ble_eq_true rfl) (Nat.le_of_ble_eq_true rfl) (Nat.le_refl _) (Nat.le_refl _)) (Nat.le_of_ble_eq_true rfl) ?_
  refine e_w (w2 := (WW (mc_up s 5 (nI (N + 2))) (mc_up a 2 (((a 2).set N x0).set (N + 1) x1)) q u c h m b n d z)) (by rw [up_up, up_up, up_at]) ?_
  refine e_iloadn (pc := 89) dX6_feed_89 rfl ?_
  refine e_iconst (v := 2) (pc := 90) dX6_feed_90 (by decide) ?_
  refine e_icmp_le (pc := 91) dX6_feed_91 (t := 103) (by decide) (fun c_91 => absurd c_91 (by decide)) (fun _ => ?_)
  refine e_aloadn (pc := 94) dX6_feed_94 rfl ?_
  refine e_get (pc := 95) dX6_feed_95 fX6_42 rfl rfl ?_
  refine e_iload (pc := 98) dX6_feed_98 rfl ?_
  refine e_cvU (pc := 100) (sp_x_tapp (N := N + 2) (s := (mc_up s 5 (nI (N + 2)))) (a := (mc_up a 2 (((a 2).set N x0).set (N + 1) x1))) (by show ((((a 2).set N x0).set (N + 1) x1)).length = 160; simp [hL]) (by rfl) (by omega)) dX6_feed_100 kX6_97 rfl rfl rfl rfl rfl (mc_CR_of (Nat.le_of_ble_eq_true rfl) (Nat.le_of_ble_eq_true rfl) (Nat.le_refl _) (Nat.le_refl _)) (Nat.le_of_ble_eq_true rfl) ?_
  refine e_w (w2 := (WW (mc_up s 5 (nI (N + 3))) (mc_up a 2 ((((a 2).set N x0).set (N + 1) x1).set (N + 2) x2)) q u c h m b n d z)) (by rw [up_up, up_up, up_at]) ?_
  refine e_iloadn (pc := 103) dX6_feed_103 rfl ?_
  refine e_iconst (v := 3) (pc := 104) dX6_feed_104 (by decide) ?_
  refine e_icmp_le (pc := 105) dX6_feed_105 (t := 117) (by decide) (fun c_105 => absurd c_105 (by decide)) (fun _ => ?_)
  refine e_aloadn (pc := 108) dX6_feed_108 rfl ?_
  refine e_get (pc := 109) dX6_feed_109 fX6_42 rfl rfl ?_
  refine e_iload (pc := 112) dX6_feed_112 rfl ?_
  refine e_cvU (pc := 114) (sp_x_tapp (N := N + 3) (s := (mc_up s 5 (nI (N + 3)))) (a := (mc_up a 2 ((((a 2).set N x0).set (N + 1) x1).set (N + 2) x2))) (by show (((((a 2).set N x0).set (N + 1) x1).set (N + 2) x2)).length = 160; simp [hL]) (by rfl) (by omega)) dX6_feed_114 kX6_97 rfl rfl rfl rfl rfl (mc_CR_of (Nat.le_of_ble_eq_true rfl) (Nat.le_of_ble_eq_true rfl) (Nat.le_refl _) (Nat.le_refl _)) (Nat.le_of_ble_eq_true rfl) ?_
  refine e_w (w2 := (WW (mc_up s 5 (nI (N + 4))) (mc_up a 2 (((((a 2).set N x0).set (N + 1) x1).set (N + 2) x2).set (N + 3) x3)) q u c h m b n d z)) (by rw [up_up, up_up, up_at]) ?_
  refine e_iloadn (pc := 117) dX6_feed_117 rfl ?_
  refine e_iconst (v := 4) (pc := 118) dX6_feed_118 (by decide) ?_
  refine e_icmp_le (pc := 119) dX6_feed_119 (t := 131) (by decide) (fun c_119 => absurd c_119 (by decide)) (fun _ => ?_)
  refine e_aloadn (pc := 122) dX6_feed_122 rfl ?_
  refine e_get (pc := 123) dX6_feed_123 fX6_42 rfl rfl ?_
  refine e_iload (pc := 126) dX6_feed_126 rfl ?_
  refine e_cvU (pc := 128) (sp_x_tapp (N := N + 4) (s := (mc_up s 5 (nI (N + 4)))) (a := (mc_up a 2 (((((a 2).set N x0).set (N + 1) x1).set (N + 2) x2).set (N + 3) x3))) (by show ((((((a 2).set N x0).set (N + 1) x1).set (N + 2) x2).set (N + 3) x3)).length = 160; simp [hL]) (by rfl) (by omega)) dX6_feed_128 kX6_97 rfl rfl rfl rfl rfl (mc_CR_of (Nat.le_of_ble_eq_true rfl) (Nat.le_of_ble_eq_true rfl) (Nat.le_refl _) (Nat.le_refl _)) (Nat.le_of_ble_eq_true rfl) ?_
  refine e_w (w2 := (WW (mc_up s 5 (nI (N + 5))) (mc_up a 2 ((((((a 2).set N x0).set (N + 1) x1).set (N + 2) x2).set (N + 3) x3).set (N + 4) x4)) q u c h m b n d z)) (by rw [up_up, up_up, up_at]) ?_
  refine e_aloadn (pc := 131) dX6_feed_131 rfl ?_
  refine e_get (pc := 132) dX6_feed_132 fX6_42 rfl rfl ?_
  refine e_cvD (pc := 135) (sp_x_tsize (s := (mc_up s 5 (nI (N + 5))))) dX6_feed_135 kX6_82 rfl rfl rfl rfl rfl (mc_CR_of (Nat.le_of_ble_eq_true rfl) (Nat.le_of_ble_eq_true rfl) (Nat.le_refl _) (Nat.le_refl _)) (Nat.le_of_ble_eq_true rfl) ?_
  exact e_iret (pc := 138) dX6_feed_138 rfl (Nat.le_refl _) (Nat.le_refl _) ⟨rfl, rfl⟩
theorem sp_x_feedB {s u m n : Nat → Int32} {a c b d : Nat → List Int32} {q : List (Option Nat)} {h : Nat} {z : mc_W} {k : Int32} {x0 x1 x2 x3 x4 : Int32} (hb : (mc_wi k 1 5 && mc_wi x0 0 255 && mc_wi x1 0 255 && mc_wi x2 0 255 && mc_wi x3 0 255 && mc_wi x4 0 255) = false) : mc_D yX6_feed cX6_feed 7 (some .int) 3 [.ref 0, .int k, .int x0, .int x1, .int x2, .int x3, .int x4] (WW s a q u c h m b n d z) (some (.int (-2))) (WW s a q u c h m b n d z) := by
  refine mc_start (own := RX6) (ini := false) rfl (by decide +kernel) (fun h => by cases h) (Nat.le_of_ble_eq_true rfl) ?_
  show mc_E _ _ _ _ _ [some (.ref 0), some (.int k), some (.int x0), some (.int x1), some (.int x2), some (.int x3), some (.int x4)] [] _ _ _
  refine e_iloadn (pc := 0) dX6_feed_0 rfl ?_
  refine e_iconst (v := 1) (pc := 1) dX6_feed_1 (by decide) ?_
  refine e_iconst (v := 5) (pc := 2) dX6_feed_2 (by decide) ?_
  refine e_csD (pc := 3) (sp_isWithin) dX6_feed_3 kX6_86 rfl rfl (mc_CR_of (Nat.le_of_ble_eq_true rfl) (Nat.le_of_ble_eq_true rfl) (Nat.le_refl _) (Nat.le_refl _)) (Nat.le_of_ble_eq_true rfl) ?_
  refine e_if_eq (pc := 6) dX6_feed_6 (t := 47) (by decide) (fun c_6 => ?_) (fun c_6 => ?_)
  · skip
    refine e_bipush (v := -2) (pc := 47) dX6_feed_47 (by decide) ?_
    exact e_iret (pc := 49) dX6_feed_49 rfl (Nat.le_refl _) (Nat.le_refl _) ⟨rfl, rfl⟩
  · skip
    refine e_iloadn (pc := 9) dX6_feed_9 rfl ?_
    refine e_csD (pc := 10) (sp_isByte) dX6_feed_10 kX6_94 rfl rfl (mc_CR_of (Nat.le_of_ble_eq_true rfl) (Nat.le_of_ble_eq_true rfl) (Nat.le_refl _) (Nat.le_refl _)) (Nat.le_of_ble_eq_true rfl) ?_
    refine e_if_eq (pc := 13) dX6_feed_13 (t := 47) (by decide) (fun c_13 => ?_) (fun c_13 => ?_)
    · skip
      refine e_bipush (v := -2) (pc := 47) dX6_feed_47 (by decide) ?_
      exact e_iret (pc := 49) dX6_feed_49 rfl (Nat.le_refl _) (Nat.le_refl _) ⟨rfl, rfl⟩
    · skip
      refine e_iloadn (pc := 16) dX6_feed_16 rfl ?_
      refine e_csD (pc := 17) (sp_isByte) dX6_feed_17 kX6_94 rfl rfl (mc_CR_of (Nat.le_of_ble_eq_true rfl) (Nat.le_of_ble_eq_true rfl) (Nat.le_refl _) (Nat.le_refl _)) (Nat.le_of_ble_eq_true rfl) ?_
      refine e_if_eq (pc := 20) dX6_feed_20 (t := 47) (by decide) (fun c_20 => ?_) (fun c_20 => ?_)
      · skip
        refine e_bipush (v := -2) (pc := 47) dX6_feed_47 (by decide) ?_
        exact e_iret (pc := 49) dX6_feed_49 rfl (Nat.le_refl _) (Nat.le_refl _) ⟨rfl, rfl⟩
      · skip
        refine e_iload (pc := 23) dX6_feed_23 rfl ?_
        refine e_csD (pc := 25) (sp_isByte) dX6_feed_25 kX6_94 rfl rfl (mc_CR_of (Nat.le_of_ble_eq_true rfl) (Nat.le_of_ble_eq_true rfl) (Nat.le_refl _) (Nat.le_refl _)) (Nat.le_of_ble_eq_true rfl) ?_
        refine e_if_eq (pc := 28) dX6_feed_28 (t := 47) (by decide) (fun c_28 => ?_) (fun c_28 => ?_)
        · skip
          refine e_bipush (v := -2) (pc := 47) dX6_feed_47 (by decide) ?_
          exact e_iret (pc := 49) dX6_feed_49 rfl (Nat.le_refl _) (Nat.le_refl _) ⟨rfl, rfl⟩
        · skip
          refine e_iload (pc := 31) dX6_feed_31 rfl ?_
          refine e_csD (pc := 33) (sp_isByte) dX6_feed_33 kX6_94 rfl rfl (mc_CR_of (Nat.le_of_ble_eq_true rfl) (Nat.le_of_ble_eq_true rfl) (Nat.le_refl _) (Nat.le_refl _)) (Nat.le_of_ble_eq_true rfl) ?_
          refine e_if_eq (pc := 36) dX6_feed_36 (t := 47) (by decide) (fun c_36 => ?_) (fun c_36 => ?_)
          · skip
            refine e_bipush (v := -2) (pc := 47) dX6_feed_47 (by decide) ?_
            exact e_iret (pc := 49) dX6_feed_49 rfl (Nat.le_refl _) (Nat.le_refl _) ⟨rfl, rfl⟩
          · skip
            refine e_iload (pc := 39) dX6_feed_39 rfl ?_
            refine e_csD (pc := 41) (sp_isByte) dX6_feed_41 kX6_94 rfl rfl (mc_CR_of (Nat.le_of_ble_eq_true rfl) (Nat.le_of_ble_eq_true rfl) (Nat.le_refl _) (Nat.le_refl _)) (Nat.le_of_ble_eq_true rfl) ?_
            refine e_if_ne (pc := 44) dX6_feed_44 (t := 50) (by decide) (fun c_44 => ?_) (fun c_44 => ?_)
            · skip
              exact absurd hb (by simp only [mc_b0, mc_b1, Bool.not_eq_false] at *; simp_all)
            · skip
              refine e_bipush (v := -2) (pc := 47) dX6_feed_47 (by decide) ?_
              exact e_iret (pc := 49) dX6_feed_49 rfl (Nat.le_refl _) (Nat.le_refl _) ⟨rfl, rfl⟩
theorem sp_x_feedF {s u m n : Nat → Int32} {a c b d : Nat → List Int32} {q : List (Option Nat)} {h : Nat} {z : mc_W} {k : Int32} {x0 x1 x2 x3 x4 : Int32} {N K : Nat} (hk : k = nI K) (hK : 1 ≤ K ∧ K ≤ 5) (hN : s 5 = nI N) (hN1 : N ≤ 160) (hN2 : 160 < N + K) : mc_D yX6_feed cX6_feed 7 (some .int) 3 [.ref 0, .int k, .int x0, .int x1, .int x2, .int x3, .int x4] (WW s a q u c h m b n d z) (some (.int (if (mc_wi k 1 5 && mc_wi x0 0 255 && mc_wi x1 0 255 && mc_wi x2 0 255 && mc_wi x3 0 255 && mc_wi x4 0 255) = true then -4 else -2))) (WW s a q u c h m b n d z) := by
  refine mc_start (own := RX6) (ini := false) rfl (by decide +kernel) (fun h => by cases h) (Nat.le_of_ble_eq_true rfl) ?_
  show mc_E _ _ _ _ _ [some (.ref 0), some (.int k), some (.int x0), some (.int x1), some (.int x2), some (.int x3), some (.int x4)] [] _ _ _
  refine e_iloadn (pc := 0) dX6_feed_0 rfl ?_
  refine e_iconst (v := 1) (pc := 1) dX6_feed_1 (by decide) ?_
  refine e_iconst (v := 5) (pc := 2) dX6_feed_2 (by decide) ?_
  refine e_csD (pc := 3) (sp_isWithin) dX6_feed_3 kX6_86 rfl rfl (mc_CR_of (Nat.le_of_ble_eq_true rfl) (Nat.le_of_ble_eq_true rfl) (Nat.le_refl _) (Nat.le_refl _)) (Nat.le_of_ble_eq_true rfl) ?_
  refine e_if_eq (pc := 6) dX6_feed_6 (t := 47) (by decide) (fun c_6 => ?_) (fun c_6 => ?_)
  · skip
    refine e_bipush (v := -2) (pc := 47) dX6_feed_47 (by decide) ?_
    exact e_iret (pc := 49) dX6_feed_49 rfl (Nat.le_refl _) (Nat.le_refl _) ⟨by simp only [mc_b0, mc_b1, Bool.not_eq_false, Bool.not_eq_true] at *; simp_all, rfl⟩
  · skip
    refine e_iloadn (pc := 9) dX6_feed_9 rfl ?_
    refine e_csD (pc := 10) (sp_isByte) dX6_feed_10 kX6_94 rfl rfl (mc_CR_of (Nat.le_of_ble_eq_true rfl) (Nat.le_of_ble_eq_true rfl) (Nat.le_refl _) (Nat.le_refl _)) (Nat.le_of_ble_eq_true rfl) ?_
    refine e_if_eq (pc := 13) dX6_feed_13 (t := 47) (by decide) (fun c_13 => ?_) (fun c_13 => ?_)
    · skip
      refine e_bipush (v := -2) (pc := 47) dX6_feed_47 (by decide) ?_
      exact e_iret (pc := 49) dX6_feed_49 rfl (Nat.le_refl _) (Nat.le_refl _) ⟨by simp only [mc_b0, mc_b1, Bool.not_eq_false, Bool.not_eq_true] at *; simp_all, rfl⟩
    · skip
      refine e_iloadn (pc := 16) dX6_feed_16 rfl ?_
      refine e_csD (pc := 17) (sp_isByte) dX6_feed_17 kX6_94 rfl rfl (mc_CR_of (Nat.le_of_ble_eq_true rfl) (Nat.le_of_ble_eq_true rfl) (Nat.le_refl _) (Nat.le_refl _)) (Nat.le_of_ble_eq_true rfl) ?_
      refine e_if_eq (pc := 20) dX6_feed_20 (t := 47) (by decide) (fun c_20 => ?_) (fun c_20 => ?_)
      · skip
        refine e_bipush (v := -2) (pc := 47) dX6_feed_47 (by decide) ?_
        exact e_iret (pc := 49) dX6_feed_49 rfl (Nat.le_refl _) (Nat.le_refl _) ⟨by simp only [mc_b0, mc_b1, Bool.not_eq_false, Bool.not_eq_true] at *; simp_all, rfl⟩
      · skip
        refine e_iload (pc := 23) dX6_feed_23 rfl ?_
        refine e_csD (pc := 25) (sp_isByte) dX6_feed_25 kX6_94 rfl rfl (mc_CR_of (Nat.le_of_ble_eq_true rfl) (Nat.le_of_ble_eq_true rfl) (Nat.le_refl _) (Nat.le_refl _)) (Nat.le_of_ble_eq_true rfl) ?_
        refine e_if_eq (pc := 28) dX6_feed_28 (t := 47) (by decide) (fun c_28 => ?_) (fun c_28 => ?_)
        · skip
          refine e_bipush (v := -2) (pc := 47) dX6_feed_47 (by decide) ?_
          exact e_iret (pc := 49) dX6_feed_49 rfl (Nat.le_refl _) (Nat.le_refl _) ⟨by simp only [mc_b0, mc_b1, Bool.not_eq_false, Bool.not_eq_true] at *; simp_all, rfl⟩
        · skip
          refine e_iload (pc := 31) dX6_feed_31 rfl ?_
          refine e_csD (pc := 33) (sp_isByte) dX6_feed_33 kX6_94 rfl rfl (mc_CR_of (Nat.le_of_ble_eq_true rfl) (Nat.le_of_ble_eq_true rfl) (Nat.le_refl _) (Nat.le_refl _)) (Nat.le_of_ble_eq_true rfl) ?_
          refine e_if_eq (pc := 36) dX6_feed_36 (t := 47) (by decide) (fun c_36 => ?_) (fun c_36 => ?_)
          · skip
            refine e_bipush (v := -2) (pc := 47) dX6_feed_47 (by decide) ?_
            exact e_iret (pc := 49) dX6_feed_49 rfl (Nat.le_refl _) (Nat.le_refl _) ⟨by simp only [mc_b0, mc_b1, Bool.not_eq_false, Bool.not_eq_true] at *; simp_all, rfl⟩
          · skip
            refine e_iload (pc := 39) dX6_feed_39 rfl ?_
            refine e_csD (pc := 41) (sp_isByte) dX6_feed_41 kX6_94 rfl rfl (mc_CR_of (Nat.le_of_ble_eq_true rfl) (Nat.le_of_ble_eq_true rfl) (Nat.le_refl _) (Nat.le_refl _)) (Nat.le_of_ble_eq_true rfl) ?_
            refine e_if_ne (pc := 44) dX6_feed_44 (t := 50) (by decide) (fun c_44 => ?_) (fun c_44 => ?_)
            · skip
              refine e_aloadn (pc := 50) dX6_feed_50 rfl ?_
              refine e_get (pc := 51) dX6_feed_51 fX6_42 rfl rfl ?_
              refine e_cvD (pc := 54) (sp_x_tsize) dX6_feed_54 kX6_82 rfl rfl rfl rfl rfl (mc_CR_of (Nat.le_of_ble_eq_true rfl) (Nat.le_of_ble_eq_true rfl) (Nat.le_refl _) (Nat.le_refl _)) (Nat.le_of_ble_eq_true rfl) ?_
              refine e_sipush (v := 160) (pc := 57) dX6_feed_57 (by decide) ?_
              refine e_iloadn (pc := 60) dX6_feed_60 rfl ?_
              refine e_isub (pc := 61) dX6_feed_61 ?_
              refine e_icmp_le (pc := 62) dX6_feed_62 (t := 68) (by decide) (fun c_62 => absurd c_62 (by rw [hN, hk, show (160 : Int32) = nI 160 from rfl, pk_sub (by omega)]; exact nI_ge (by omega) (by omega))) (fun _ => ?_)
              refine e_bipush (v := -4) (pc := 65) dX6_feed_65 (by decide) ?_
              exact e_iret (pc := 67) dX6_feed_67 rfl (Nat.le_refl _) (Nat.le_refl _) ⟨by simp only [mc_b0, mc_b1, Bool.not_eq_false, Bool.not_eq_true] at *; simp_all, rfl⟩
            · skip
              refine e_bipush (v := -2) (pc := 47) dX6_feed_47 (by decide) ?_
              exact e_iret (pc := 49) dX6_feed_49 rfl (Nat.le_refl _) (Nat.le_refl _) ⟨by simp only [mc_b0, mc_b1, Bool.not_eq_false, Bool.not_eq_true] at *; simp_all, rfl⟩
def xmin (x y : Int32) : Int32 := if y < x then y else x
def xlow (o : List Int32) (f g mu : Int32) : List Int32 := xbe o f g (xof o f g - mu)
theorem xlow_len {o : List Int32} {f g mu : Int32} : (xlow o f g mu).length = o.length := xbe_len o f g _
def xcv2 (o : List Int32) (f g : Int32) : Int32 := xmin (xof o f g) (xof o g f)
def xcl2 (o : List Int32) (f g : Int32) : List Int32 := xlow (xlow o f g (xcv2 o f g)) g f (xcv2 o f g)
def xcv3 (o : List Int32) (f g e : Int32) : Int32 := xmin (xof o f g) (xmin (xof o g e) (xof o e f))
def xcl3 (o : List Int32) (f g e : Int32) : List Int32 := xlow (xlow (xlow o f g (xcv3 o f g e)) g e (xcv3 o f g e)) e f (xcv3 o f g e)
theorem xcl2_len {o : List Int32} {f g : Int32} : (xcl2 o f g).length = o.length := by unfold xcl2; rw [xlow_len, xlow_len]
theorem xcl3_len {o : List Int32} {f g e : Int32} : (xcl3 o f g e).length = o.length := by unfold xcl3; rw [xlow_len, xlow_len, xlow_len]
def xcg (f : Nat) : Nat → Nat → Int32 → List Int32 → Int32 × List Int32
  | 0, _, S, o => (S, o)
  | t + 1, g, S, o => xcg f t (g + 1) (S + 2 * xcv2 o (nI f) (nI g)) (xcl2 o (nI f) (nI g))
def xcf : Nat → Nat → Int32 → List Int32 → Int32 × List Int32
  | 0, _, S, o => (S, o)
  | t + 1, f, S, o => xcf t (f + 1) (xcg f (5 - f) (f + 1) S o).1 (xcg f (5 - f) (f + 1) S o).2
def xt1 (f g : Nat) : Nat → Nat → Int32 → List Int32 → Int32 × List Int32
  | 0, _, S, o => (S, o)
  | t + 1, e, S, o => xt1 f g t (e + 1) (S + 3 * xcv3 o (nI f) (nI g) (nI e)) (xcl3 o (nI f) (nI g) (nI e))
def xt2 (f : Nat) : Nat → Nat → Int32 → List Int32 → Int32 × List Int32
  | 0, _, S, o => (S, o)
  | t + 1, g, S, o => xt2 f t (g + 1) (xt1 f g 6 0 S o).1 (xt1 f g 6 0 S o).2
def xt3 : Nat → Nat → Int32 → List Int32 → Int32 × List Int32
  | 0, _, S, o => (S, o)
  | t + 1, f, S, o => xt3 t (f + 1) (xt2 f 6 0 S o).1 (xt2 f 6 0 S o).2
def xclear (o : List Int32) : Int32 × List Int32 := ((xcf 6 0 0 o).1 + (xt3 6 0 0 (xcf 6 0 0 o).2).1, (xt3 6 0 0 (xcf 6 0 0 o).2).2)
theorem xcg_len (f : Nat) : ∀ t g S o, (xcg f t g S o).2.length = o.length := by
  intro t; induction t with
  | zero => intro g S o; rfl
  | succ t ih => intro g S o; show (xcg f t (g + 1) _ _).2.length = _; rw [ih, xcl2_len]
theorem xcf_len : ∀ t f S o, (xcf t f S o).2.length = o.length := by
  intro t; induction t with
  | zero => intro f S o; rfl
  | succ t ih => intro f S o; show (xcf t (f + 1) _ _).2.length = _; rw [ih, xcg_len]
theorem xt1_len (f g : Nat) : ∀ t e S o, (xt1 f g t e S o).2.length = o.length := by
  intro t; induction t with
  | zero => intro g S o; rfl
  | succ t ih => intro e S o; show (xt1 f g t (e + 1) _ _).2.length = _; rw [ih, xcl3_len]
theorem xt2_len (f : Nat) : ∀ t g S o, (xt2 f t g S o).2.length = o.length := by
  intro t; induction t with
  | zero => intro g S o; rfl
  | succ t ih => intro g S o; show (xt2 f t (g + 1) _ _).2.length = _; rw [ih, xt1_len]
theorem xt3_len : ∀ t f S o, (xt3 t f S o).2.length = o.length := by
  intro t; induction t with
  | zero => intro f S o; rfl
  | succ t ih => intro f S o; show (xt3 t (f + 1) _ _).2.length = _; rw [ih, xt2_len]
theorem sp_x_lower {s u m n : Nat → Int32} {a c b d : Nat → List Int32} {q : List (Option Nat)} {h : Nat} {z : mc_W} {f g mu : Int32} (hL : (a 3).length = 36) : mc_D yX0_lower cX0_lower 4 none 5 [.ref 10, .int f, .int g, .int mu] (WW s a q u c h m b n d z) none (WW s (mc_up a 3 (xlow (a 3) f g mu)) q u c h m b n d z) := by
  refine mc_start (own := RX0) (ini := false) rfl (by decide +kernel) (fun h => by cases h) (Nat.le_of_ble_eq_true rfl) ?_
  show mc_E _ _ _ _ _ [some (.ref 10), some (.int f), some (.int g), some (.int mu)] [] _ _ _
  refine e_aloadn (pc := 0) dX0_lower_0 rfl ?_
  refine e_iloadn (pc := 1) dX0_lower_1 rfl ?_
  refine e_iloadn (pc := 2) dX0_lower_2 rfl ?_
  refine e_aloadn (pc := 3) dX0_lower_3 rfl ?_
  refine e_iloadn (pc := 4) dX0_lower_4 rfl ?_
  refine e_iloadn (pc := 5) dX0_lower_5 rfl ?_
  refine e_cvD (pc := 6) (sp_x_of hL) dX0_lower_6 kX0_26 rfl rfl rfl rfl rfl (mc_CR_of (Nat.le_of_ble_eq_true rfl) (Nat.le_of_ble_eq_true rfl) (Nat.le_refl _) (Nat.le_refl _)) (Nat.le_of_ble_eq_true rfl) ?_
  refine e_iloadn (pc := 9) dX0_lower_9 rfl ?_
  refine e_isub (pc := 10) dX0_lower_10 ?_
  refine e_cvU (pc := 11) (sp_x_become hL) dX0_lower_11 kX0_30 rfl rfl rfl rfl rfl (mc_CR_of (Nat.le_of_ble_eq_true rfl) (Nat.le_of_ble_eq_true rfl) (Nat.le_refl _) (Nat.le_refl _)) (Nat.le_of_ble_eq_true rfl) ?_
  exact e_vret (pc := 14) dX0_lower_14 rfl (Nat.le_refl _) (Nat.le_refl _) ⟨rfl, rfl⟩
theorem sp_x_clearThree {s u m n : Nat → Int32} {a c b d : Nat → List Int32} {q : List (Option Nat)} {h : Nat} {z : mc_W} {f g e : Int32} {O : List Int32} (hO : O.length = 36) : mc_D yX0_clearThree cX0_clearThree 5 (some .int) 6 [.ref 10, .int f, .int g, .int e] (WW s (mc_up a 3 O) q u c h m b n d z) (some (.int (3 * xcv3 O f g e))) (WW s (mc_up a 3 (xcl3 O f g e)) q u c h m b n d z) := by
  refine mc_start (own := RX0) (ini := false) rfl (by decide +kernel) (fun h => by cases h) (Nat.le_of_ble_eq_true rfl) ?_
  show mc_E _ _ _ _ _ [some (.ref 10), some (.int f), some (.int g), some (.int e), none] [] _ _ _
  refine e_aloadn (pc := 0) dX0_clearThree_0 rfl ?_
  refine e_iloadn (pc := 1) dX0_clearThree_1 rfl ?_
  refine e_iloadn (pc := 2) dX0_clearThree_2 rfl ?_
  refine e_cvD (pc := 3) (sp_x_of (a := mc_up a 3 O) (by rw [up_at]; exact hO)) dX0_clearThree_3 kX0_26 rfl rfl rfl rfl rfl (mc_CR_of (Nat.le_of_ble_eq_true rfl) (Nat.le_of_ble_eq_true rfl) (Nat.le_refl _) (Nat.le_refl _)) (Nat.le_of_ble_eq_true rfl) ?_
  rw [up_at]
  refine e_aloadn (pc := 6) dX0_clearThree_6 rfl ?_
  refine e_iloadn (pc := 7) dX0_clearThree_7 rfl ?_
  refine e_iloadn (pc := 8) dX0_clearThree_8 rfl ?_
  refine e_cvD (pc := 9) (sp_x_of (a := mc_up a 3 O) (by rw [up_at]; exact hO)) dX0_clearThree_9 kX0_26 rfl rfl rfl rfl rfl (mc_CR_of (Nat.le_of_ble_eq_true rfl) (Nat.le_of_ble_eq_true rfl) (Nat.le_refl _) (Nat.le_refl _)) (Nat.le_of_ble_eq_true rfl) ?_
  rw [up_at]
  refine e_aloadn (pc := 12) dX0_clearThree_12 rfl ?_
  refine e_iloadn (pc := 13) dX0_clearThree_13 rfl ?_
  refine e_iloadn (pc := 14) dX0_clearThree_14 rfl ?_
  refine e_cvD (pc := 15) (sp_x_of (a := mc_up a 3 O) (by rw [up_at]; exact hO)) dX0_clearThree_15 kX0_26 rfl rfl rfl rfl rfl (mc_CR_of (Nat.le_of_ble_eq_true rfl) (Nat.le_of_ble_eq_true rfl) (Nat.le_refl _) (Nat.le_refl _)) (Nat.le_of_ble_eq_true rfl) ?_
  rw [up_at]
  refine e_min (pc := 18) dX0_clearThree_18 mX0_44 (mc_JR_of (Nat.le_of_ble_eq_true rfl) (Nat.le_refl _) (Nat.le_refl _) (Nat.le_of_ble_eq_true rfl)) ?_
  refine e_min (pc := 21) dX0_clearThree_21 mX0_44 (mc_JR_of (Nat.le_of_ble_eq_true rfl) (Nat.le_refl _) (Nat.le_refl _) (Nat.le_of_ble_eq_true rfl)) ?_
  refine e_isw4 (pc := 24) dX0_clearThree_24 (Nat.le_of_ble_eq_true rfl) rfl ?_
  show mc_E _ _ _ _ 26 [some (.ref 10), some (.int f), some (.int g), some (.int e), some (.int (xcv3 O f g e))] _ _ _ _
  refine e_aloadn (pc := 26) dX0_clearThree_26 rfl ?_
  refine e_iloadn (pc := 27) dX0_clearThree_27 rfl ?_
  refine e_iloadn (pc := 28) dX0_clearThree_28 rfl ?_
  refine e_iload (pc := 29) dX0_clearThree_29 rfl ?_
  refine e_cvU (pc := 31) (sp_x_lower (a := mc_up a 3 O) (by rw [up_at]; exact hO)) dX0_clearThree_31 kX0_49 rfl rfl rfl rfl rfl (mc_CR_of (Nat.le_of_ble_eq_true rfl) (Nat.le_of_ble_eq_true rfl) (Nat.le_refl _) (Nat.le_refl _)) (Nat.le_of_ble_eq_true rfl) ?_
  rw [up_up, up_at]
  refine e_aloadn (pc := 34) dX0_clearThree_34 rfl ?_
  refine e_iloadn (pc := 35) dX0_clearThree_35 rfl ?_
  refine e_iloadn (pc := 36) dX0_clearThree_36 rfl ?_
  refine e_iload (pc := 37) dX0_clearThree_37 rfl ?_
  refine e_cvU (pc := 39) (sp_x_lower (a := mc_up a 3 (xlow O f g (xcv3 O f g e))) (by rw [up_at]; rw [xlow_len]; exact hO)) dX0_clearThree_39 kX0_49 rfl rfl rfl rfl rfl (mc_CR_of (Nat.le_of_ble_eq_true rfl) (Nat.le_of_ble_eq_true rfl) (Nat.le_refl _) (Nat.le_refl _)) (Nat.le_of_ble_eq_true rfl) ?_
  rw [up_up, up_at]
  refine e_aloadn (pc := 42) dX0_clearThree_42 rfl ?_
  refine e_iloadn (pc := 43) dX0_clearThree_43 rfl ?_
  refine e_iloadn (pc := 44) dX0_clearThree_44 rfl ?_
  refine e_iload (pc := 45) dX0_clearThree_45 rfl ?_
  refine e_cvU (pc := 47) (sp_x_lower (a := mc_up a 3 (xlow (xlow O f g (xcv3 O f g e)) g e (xcv3 O f g e))) (by rw [up_at]; rw [xlow_len, xlow_len]; exact hO)) dX0_clearThree_47 kX0_49 rfl rfl rfl rfl rfl (mc_CR_of (Nat.le_of_ble_eq_true rfl) (Nat.le_of_ble_eq_true rfl) (Nat.le_refl _) (Nat.le_refl _)) (Nat.le_of_ble_eq_true rfl) ?_
  rw [up_up, up_at]
  refine e_iconst (v := 3) (pc := 50) dX0_clearThree_50 (by decide) ?_
  refine e_iload (pc := 51) dX0_clearThree_51 rfl ?_
  refine e_imul (pc := 53) dX0_clearThree_53 ?_
  exact e_iret (pc := 54) dX0_clearThree_54 rfl (Nat.le_refl _) (Nat.le_refl _) ⟨rfl, rfl⟩
theorem lp_x_cg {s u m n : Nat → Int32} {a c b d : Nat → List Int32} {q : List (Option Nat)} {h : Nat} {z : mc_W} {Post : Option Value → mc_W → Prop} {f : Nat} {V : Int32 × List Int32} (hf : f < 6)
    (hK : ∀ x4, mc_E RX0 cX0_clearPairs 5 (mc_JM (some .int) false 6 0 0 Post) 66 [some (.ref 10), some (.int V.1), some (.int (nI f)), some (.int (nI 6)), x4] [] (WW s (mc_up a 3 V.2) q u c h m b n d z) 0 0) :
    ∀ (g i : Nat) (S : Int32) (O : List Int32) (x4 : Option Value), O.length = 36 → i + g = 6 → xcg f g i S O = V →
      mc_E RX0 cX0_clearPairs 5 (mc_JM (some .int) false 6 0 0 Post) 14 [some (.ref 10), some (.int S), some (.int (nI f)), some (.int (nI i)), x4] [] (WW s (mc_up a 3 O) q u c h m b n d z) 0 0 := by
  intro g
  induction g with
  | zero =>
    intro i S O x4 hO hi hV
    have e : i = 6 := by omega
    subst e
    simp only [xcg] at hV
    subst hV
    refine e_iloadn (pc := 14) dX0_clearPairs_14 rfl ?_
    refine e_bipush (v := 6) (pc := 15) dX0_clearPairs_15 (by decide) ?_
    refine e_icmp_ge (pc := 17) dX0_clearPairs_17 (t := 66) (by decide) (fun _ => ?_) (fun c_17 => absurd (by decide) c_17)
    exact hK _
  | succ g ih =>
    intro i S O x4 hO hi hV
    simp only [xcg] at hV
    have hi1 : i < 6 := by omega
    refine e_iloadn (pc := 14) dX0_clearPairs_14 rfl ?_
    refine e_bipush (v := 6) (pc := 15) dX0_clearPairs_15 (by decide) ?_
    refine e_icmp_ge (pc := 17) dX0_clearPairs_17 (t := 66) (by decide) (fun c_17 => absurd c_17 (nI_ge (by omega : i < 6) (by decide))) (fun _ => ?_)
    refine e_aloadn (pc := 20) dX0_clearPairs_20 rfl ?_
    refine e_iloadn (pc := 21) dX0_clearPairs_21 rfl ?_
    refine e_iloadn (pc := 22) dX0_clearPairs_22 rfl ?_
    refine e_cvD (pc := 23) (sp_x_of (a := mc_up a 3 O) (by rw [up_at]; exact hO)) dX0_clearPairs_23 kX0_26 rfl rfl rfl rfl rfl (mc_CR_of (Nat.le_of_ble_eq_true rfl) (Nat.le_of_ble_eq_true rfl) (Nat.le_refl _) (Nat.le_refl _)) (Nat.le_of_ble_eq_true rfl) ?_
    rw [up_at]
    refine e_aloadn (pc := 26) dX0_clearPairs_26 rfl ?_
    refine e_iloadn (pc := 27) dX0_clearPairs_27 rfl ?_
    refine e_iloadn (pc := 28) dX0_clearPairs_28 rfl ?_
    refine e_cvD (pc := 29) (sp_x_of (a := mc_up a 3 O) (by rw [up_at]; exact hO)) dX0_clearPairs_29 kX0_26 rfl rfl rfl rfl rfl (mc_CR_of (Nat.le_of_ble_eq_true rfl) (Nat.le_of_ble_eq_true rfl) (Nat.le_refl _) (Nat.le_refl _)) (Nat.le_of_ble_eq_true rfl) ?_
    rw [up_at]
    refine e_min (pc := 32) dX0_clearPairs_32 mX0_44 (mc_JR_of (Nat.le_of_ble_eq_true rfl) (Nat.le_refl _) (Nat.le_refl _) (Nat.le_of_ble_eq_true rfl)) ?_
    refine e_isw4 (pc := 35) dX0_clearPairs_35 (Nat.le_of_ble_eq_true rfl) rfl ?_
    show mc_E _ _ _ _ 37 [some (.ref 10), some (.int S), some (.int (nI f)), some (.int (nI i)), some (.int (xcv2 O (nI f) (nI i)))] _ _ _ _
    refine e_aloadn (pc := 37) dX0_clearPairs_37 rfl ?_
    refine e_iloadn (pc := 38) dX0_clearPairs_38 rfl ?_
    refine e_iloadn (pc := 39) dX0_clearPairs_39 rfl ?_
    refine e_iload (pc := 40) dX0_clearPairs_40 rfl ?_
    refine e_cvU (pc := 42) (sp_x_lower (a := mc_up a 3 O) (by rw [up_at]; exact hO)) dX0_clearPairs_42 kX0_49 rfl rfl rfl rfl rfl (mc_CR_of (Nat.le_of_ble_eq_true rfl) (Nat.le_of_ble_eq_true rfl) (Nat.le_refl _) (Nat.le_refl _)) (Nat.le_of_ble_eq_true rfl) ?_
    rw [up_up, up_at]
    refine e_aloadn (pc := 45) dX0_clearPairs_45 rfl ?_
    refine e_iloadn (pc := 46) dX0_clearPairs_46 rfl ?_
    refine e_iloadn (pc := 47) dX0_clearPairs_47 rfl ?_
    refine e_iload (pc := 48) dX0_clearPairs_48 rfl ?_
    refine e_cvU (pc := 50) (sp_x_lower (a := mc_up a 3 (xlow O (nI f) (nI i) (xcv2 O (nI f) (nI i)))) (by rw [up_at]; rw [xlow_len]; exact hO)) dX0_clearPairs_50 kX0_49 rfl rfl rfl rfl rfl (mc_CR_of (Nat.le_of_ble_eq_true rfl) (Nat.le_of_ble_eq_true rfl) (Nat.le_refl _) (Nat.le_refl _)) (Nat.le_of_ble_eq_true rfl) ?_
    rw [up_up, up_at]
    refine e_iloadn (pc := 53) dX0_clearPairs_53 rfl ?_
    refine e_iconst (v := 2) (pc := 54) dX0_clearPairs_54 (by decide) ?_
    refine e_iload (pc := 55) dX0_clearPairs_55 rfl ?_
    refine e_imul (pc := 57) dX0_clearPairs_57 ?_
    refine e_iadd (pc := 58) dX0_clearPairs_58 ?_
    refine e_isn1 (pc := 59) dX0_clearPairs_59 (Nat.le_of_ble_eq_true rfl) rfl ?_
    refine e_incC3 (pc := 60) dX0_clearPairs_60 (nI_1 i) (Nat.le_of_ble_eq_true rfl) rfl ?_
    refine e_goto (pc := 63) dX0_clearPairs_63 (t := 14) (by decide) ?_
    exact ih (i + 1) _ _ _ (by rw [xlow_len, xlow_len]; exact hO) (by omega) hV
theorem lp_x_cf {s u m n : Nat → Int32} {a c b d : Nat → List Int32} {q : List (Option Nat)} {h : Nat} {z : mc_W} {Post : Option Value → mc_W → Prop} {V : Int32 × List Int32} 
    (hK : ∀ x3 x4, mc_E RX0 cX0_clearPairs 5 (mc_JM (some .int) false 6 0 0 Post) 72 [some (.ref 10), some (.int V.1), some (.int (nI 6)), x3, x4] [] (WW s (mc_up a 3 V.2) q u c h m b n d z) 0 0) :
    ∀ (g i : Nat) (S : Int32) (O : List Int32) (x3 x4 : Option Value), O.length = 36 → i + g = 6 → xcf g i S O = V →
      mc_E RX0 cX0_clearPairs 5 (mc_JM (some .int) false 6 0 0 Post) 4 [some (.ref 10), some (.int S), some (.int (nI i)), x3, x4] [] (WW s (mc_up a 3 O) q u c h m b n d z) 0 0 := by
  intro g
  induction g with
  | zero =>
    intro i S O x3 x4 hO hi hV
    have e : i = 6 := by omega
    subst e
    simp only [xcf] at hV
    subst hV
    refine e_iloadn (pc := 4) dX0_clearPairs_4 rfl ?_
    refine e_bipush (v := 6) (pc := 5) dX0_clearPairs_5 (by decide) ?_
    refine e_icmp_ge (pc := 7) dX0_clearPairs_7 (t := 72) (by decide) (fun _ => ?_) (fun c_7 => absurd (by decide) c_7)
    exact hK _ _
  | succ g ih =>
    intro i S O x3 x4 hO hi hV
    simp only [xcf] at hV
    have hi1 : i < 6 := by omega
    have MID : ∀ x4, mc_E RX0 cX0_clearPairs 5 (mc_JM (some .int) false 6 0 0 Post) 66 [some (.ref 10), some (.int (xcg i (5 - i) (i + 1) S O).1), some (.int (nI i)), some (.int (nI 6)), x4] [] (WW s (mc_up a 3 (xcg i (5 - i) (i + 1) S O).2) q u c h m b n d z) 0 0 := by
      intro x4
      refine e_incC2 (pc := 66) dX0_clearPairs_66 (nI_1 i) (Nat.le_of_ble_eq_true rfl) rfl ?_
      refine e_goto (pc := 69) dX0_clearPairs_69 (t := 4) (by decide) ?_
      exact ih (i + 1) _ _ _ _ (by rw [xcg_len]; exact hO) (by omega) hV
    refine e_iloadn (pc := 4) dX0_clearPairs_4 rfl ?_
    refine e_bipush (v := 6) (pc := 5) dX0_clearPairs_5 (by decide) ?_
    refine e_icmp_ge (pc := 7) dX0_clearPairs_7 (t := 72) (by decide) (fun c_7 => absurd c_7 (nI_ge (by omega : i < 6) (by decide))) (fun _ => ?_)
    refine e_iloadn (pc := 10) dX0_clearPairs_10 rfl ?_
    refine e_iconst (v := 1) (pc := 11) dX0_clearPairs_11 (by decide) ?_
    refine e_iadd (pc := 12) dX0_clearPairs_12 ?_
    rw [nI_1]
    refine e_isn3 (pc := 13) dX0_clearPairs_13 (Nat.le_of_ble_eq_true rfl) rfl ?_
    exact lp_x_cg hi1 MID (5 - i) (i + 1) S O _ hO (by omega) rfl
theorem sp_x_clearPairs {s u m n : Nat → Int32} {a c b d : Nat → List Int32} {q : List (Option Nat)} {h : Nat} {z : mc_W} (hL : (a 3).length = 36) : mc_D yX0_clearPairs cX0_clearPairs 5 (some .int) 6 [.ref 10] (WW s a q u c h m b n d z) (some (.int (xcf 6 0 0 (a 3)).1)) (WW s (mc_up a 3 (xcf 6 0 0 (a 3)).2) q u c h m b n d z) := by
  refine mc_start (own := RX0) (ini := false) rfl (by decide +kernel) (fun h => by cases h) (Nat.le_of_ble_eq_true rfl) ?_
  show mc_E _ _ _ _ _ [some (.ref 10), none, none, none, none] [] _ _ _
  refine e_iconst (v := 0) (pc := 0) dX0_clearPairs_0 (by decide) ?_
  refine e_isn1 (pc := 1) dX0_clearPairs_1 (Nat.le_of_ble_eq_true rfl) rfl ?_
  refine e_iconst (v := 0) (pc := 2) dX0_clearPairs_2 (by decide) ?_
  refine e_isn2 (pc := 3) dX0_clearPairs_3 (Nat.le_of_ble_eq_true rfl) rfl ?_
  refine e_w (w2 := (WW s (mc_up a 3 (a 3)) q u c h m b n d z)) (by rw [mc_up_self]) ?_
  refine lp_x_cf (V := xcf 6 0 0 (a 3)) (fun x3 x4 => ?_) 6 0 0 (a 3) _ _ hL (by omega) rfl
  refine e_iloadn (pc := 72) dX0_clearPairs_72 rfl ?_
  exact e_iret (pc := 73) dX0_clearPairs_73 rfl (Nat.le_refl _) (Nat.le_refl _) ⟨rfl, rfl⟩
theorem lp_x_t1 {s u m n : Nat → Int32} {a c b d : Nat → List Int32} {q : List (Option Nat)} {h : Nat} {z : mc_W} {Post : Option Value → mc_W → Prop} {f g0 : Nat} {V : Int32 × List Int32} 
    (hK : mc_E RX0 cX0_clearThrees 5 (mc_JM (some .int) false 7 0 0 Post) 45 [some (.ref 10), some (.int V.1), some (.int (nI f)), some (.int (nI g0)), some (.int (nI 6))] [] (WW s (mc_up a 3 V.2) q u c h m b n d z) 0 0) :
    ∀ (g i : Nat) (S : Int32) (O : List Int32), O.length = 36 → i + g = 6 → xt1 f g0 g i S O = V →
      mc_E RX0 cX0_clearThrees 5 (mc_JM (some .int) false 7 0 0 Post) 21 [some (.ref 10), some (.int S), some (.int (nI f)), some (.int (nI g0)), some (.int (nI i))] [] (WW s (mc_up a 3 O) q u c h m b n d z) 0 0 := by
  intro g
  induction g with
  | zero =>
    intro i S O hO hi hV
    have e : i = 6 := by omega
    subst e
    simp only [xt1] at hV
    subst hV
    refine e_iload (pc := 21) dX0_clearThrees_21 rfl ?_
    refine e_bipush (v := 6) (pc := 23) dX0_clearThrees_23 (by decide) ?_
    refine e_icmp_ge (pc := 25) dX0_clearThrees_25 (t := 45) (by decide) (fun _ => ?_) (fun c_25 => absurd (by decide) c_25)
    exact hK
  | succ g ih =>
    intro i S O hO hi hV
    simp only [xt1] at hV
    have hi1 : i < 6 := by omega
    refine e_iload (pc := 21) dX0_clearThrees_21 rfl ?_
    refine e_bipush (v := 6) (pc := 23) dX0_clearThrees_23 (by decide) ?_
    refine e_icmp_ge (pc := 25) dX0_clearThrees_25 (t := 45) (by decide) (fun c_25 => absurd c_25 (nI_ge (by omega : i < 6) (by decide))) (fun _ => ?_)
    refine e_iloadn (pc := 28) dX0_clearThrees_28 rfl ?_
    refine e_aloadn (pc := 29) dX0_clearThrees_29 rfl ?_
    refine e_iloadn (pc := 30) dX0_clearThrees_30 rfl ?_
    refine e_iloadn (pc := 31) dX0_clearThrees_31 rfl ?_
    refine e_iload (pc := 32) dX0_clearThrees_32 rfl ?_
    refine e_cvD (pc := 34) (sp_x_clearThree hO) dX0_clearThrees_34 kX0_52 rfl rfl rfl rfl rfl (mc_CR_of (Nat.le_of_ble_eq_true rfl) (Nat.le_of_ble_eq_true rfl) (Nat.le_refl _) (Nat.le_refl _)) (Nat.le_of_ble_eq_true rfl) ?_
    refine e_iadd (pc := 37) dX0_clearThrees_37 ?_
    refine e_isn1 (pc := 38) dX0_clearThrees_38 (Nat.le_of_ble_eq_true rfl) rfl ?_
    refine e_incC4 (pc := 39) dX0_clearThrees_39 (nI_1 i) (Nat.le_of_ble_eq_true rfl) rfl ?_
    refine e_goto (pc := 42) dX0_clearThrees_42 (t := 21) (by decide) ?_
    exact ih (i + 1) _ _ (by rw [xcl3_len]; exact hO) (by omega) hV
theorem lp_x_t2 {s u m n : Nat → Int32} {a c b d : Nat → List Int32} {q : List (Option Nat)} {h : Nat} {z : mc_W} {Post : Option Value → mc_W → Prop} {f : Nat} {V : Int32 × List Int32} 
    (hK : ∀ x4, mc_E RX0 cX0_clearThrees 5 (mc_JM (some .int) false 7 0 0 Post) 51 [some (.ref 10), some (.int V.1), some (.int (nI f)), some (.int (nI 6)), x4] [] (WW s (mc_up a 3 V.2) q u c h m b n d z) 0 0) :
    ∀ (g i : Nat) (S : Int32) (O : List Int32) (x4 : Option Value), O.length = 36 → i + g = 6 → xt2 f g i S O = V →
      mc_E RX0 cX0_clearThrees 5 (mc_JM (some .int) false 7 0 0 Post) 12 [some (.ref 10), some (.int S), some (.int (nI f)), some (.int (nI i)), x4] [] (WW s (mc_up a 3 O) q u c h m b n d z) 0 0 := by
  intro g
  induction g with
  | zero =>
    intro i S O x4 hO hi hV
    have e : i = 6 := by omega
    subst e
    simp only [xt2] at hV
    subst hV
    refine e_iloadn (pc := 12) dX0_clearThrees_12 rfl ?_
    refine e_bipush (v := 6) (pc := 13) dX0_clearThrees_13 (by decide) ?_
    refine e_icmp_ge (pc := 15) dX0_clearThrees_15 (t := 51) (by decide) (fun _ => ?_) (fun c_15 => absurd (by decide) c_15)
    exact hK _
  | succ g ih =>
    intro i S O x4 hO hi hV
    simp only [xt2] at hV
    have hi1 : i < 6 := by omega
    have MID : mc_E RX0 cX0_clearThrees 5 (mc_JM (some .int) false 7 0 0 Post) 45 [some (.ref 10), some (.int (xt1 f i 6 0 S O).1), some (.int (nI f)), some (.int (nI i)), some (.int (nI 6))] [] (WW s (mc_up a 3 (xt1 f i 6 0 S O).2) q u c h m b n d z) 0 0 := by
      refine e_incC3 (pc := 45) dX0_clearThrees_45 (nI_1 i) (Nat.le_of_ble_eq_true rfl) rfl ?_
      refine e_goto (pc := 48) dX0_clearThrees_48 (t := 12) (by decide) ?_
      exact ih (i + 1) _ _ _ (by rw [xt1_len]; exact hO) (by omega) hV
    refine e_iloadn (pc := 12) dX0_clearThrees_12 rfl ?_
    refine e_bipush (v := 6) (pc := 13) dX0_clearThrees_13 (by decide) ?_
    refine e_icmp_ge (pc := 15) dX0_clearThrees_15 (t := 51) (by decide) (fun c_15 => absurd c_15 (nI_ge (by omega : i < 6) (by decide))) (fun _ => ?_)
    refine e_iconst (v := 0) (pc := 18) dX0_clearThrees_18 (by decide) ?_
    refine e_isw4 (pc := 19) dX0_clearThrees_19 (Nat.le_of_ble_eq_true rfl) rfl ?_
    exact lp_x_t1 MID 6 0 S O hO (by omega) rfl
theorem lp_x_t3 {s u m n : Nat → Int32} {a c b d : Nat → List Int32} {q : List (Option Nat)} {h : Nat} {z : mc_W} {Post : Option Value → mc_W → Prop} {V : Int32 × List Int32} 
    (hK : ∀ x3 x4, mc_E RX0 cX0_clearThrees 5 (mc_JM (some .int) false 7 0 0 Post) 57 [some (.ref 10), some (.int V.1), some (.int (nI 6)), x3, x4] [] (WW s (mc_up a 3 V.2) q u c h m b n d z) 0 0) :
    ∀ (g i : Nat) (S : Int32) (O : List Int32) (x3 x4 : Option Value), O.length = 36 → i + g = 6 → xt3 g i S O = V →
      mc_E RX0 cX0_clearThrees 5 (mc_JM (some .int) false 7 0 0 Post) 4 [some (.ref 10), some (.int S), some (.int (nI i)), x3, x4] [] (WW s (mc_up a 3 O) q u c h m b n d z) 0 0 := by
  intro g
  induction g with
  | zero =>
    intro i S O x3 x4 hO hi hV
    have e : i = 6 := by omega
    subst e
    simp only [xt3] at hV
    subst hV
    refine e_iloadn (pc := 4) dX0_clearThrees_4 rfl ?_
    refine e_bipush (v := 6) (pc := 5) dX0_clearThrees_5 (by decide) ?_
    refine e_icmp_ge (pc := 7) dX0_clearThrees_7 (t := 57) (by decide) (fun _ => ?_) (fun c_7 => absurd (by decide) c_7)
    exact hK _ _
  | succ g ih =>
    intro i S O x3 x4 hO hi hV
    simp only [xt3] at hV
    have hi1 : i < 6 := by omega
    have MID : ∀ x4, mc_E RX0 cX0_clearThrees 5 (mc_JM (some .int) false 7 0 0 Post) 51 [some (.ref 10), some (.int (xt2 i 6 0 S O).1), some (.int (nI i)), some (.int (nI 6)), x4] [] (WW s (mc_up a 3 (xt2 i 6 0 S O).2) q u c h m b n d z) 0 0 := by
      intro x4
      refine e_incC2 (pc := 51) dX0_clearThrees_51 (nI_1 i) (Nat.le_of_ble_eq_true rfl) rfl ?_
      refine e_goto (pc := 54) dX0_clearThrees_54 (t := 4) (by decide) ?_
      exact ih (i + 1) _ _ _ _ (by rw [xt2_len]; exact hO) (by omega) hV
    refine e_iloadn (pc := 4) dX0_clearThrees_4 rfl ?_
    refine e_bipush (v := 6) (pc := 5) dX0_clearThrees_5 (by decide) ?_
    refine e_icmp_ge (pc := 7) dX0_clearThrees_7 (t := 57) (by decide) (fun c_7 => absurd c_7 (nI_ge (by omega : i < 6) (by decide))) (fun _ => ?_)
    refine e_iconst (v := 0) (pc := 10) dX0_clearThrees_10 (by decide) ?_
    refine e_isn3 (pc := 11) dX0_clearThrees_11 (Nat.le_of_ble_eq_true rfl) rfl ?_
    exact lp_x_t2 MID 6 0 S O _ hO (by omega) rfl
theorem sp_x_clearThrees {s u m n : Nat → Int32} {a c b d : Nat → List Int32} {q : List (Option Nat)} {h : Nat} {z : mc_W} (hL : (a 3).length = 36) : mc_D yX0_clearThrees cX0_clearThrees 5 (some .int) 7 [.ref 10] (WW s a q u c h m b n d z) (some (.int (xt3 6 0 0 (a 3)).1)) (WW s (mc_up a 3 (xt3 6 0 0 (a 3)).2) q u c h m b n d z) := by
  refine mc_start (own := RX0) (ini := false) rfl (by decide +kernel) (fun h => by cases h) (Nat.le_of_ble_eq_true rfl) ?_
  show mc_E _ _ _ _ _ [some (.ref 10), none, none, none, none] [] _ _ _
  refine e_iconst (v := 0) (pc := 0) dX0_clearThrees_0 (by decide) ?_
  refine e_isn1 (pc := 1) dX0_clearThrees_1 (Nat.le_of_ble_eq_true rfl) rfl ?_
  refine e_iconst (v := 0) (pc := 2) dX0_clearThrees_2 (by decide) ?_
  refine e_isn2 (pc := 3) dX0_clearThrees_3 (Nat.le_of_ble_eq_true rfl) rfl ?_
  refine e_w (w2 := (WW s (mc_up a 3 (a 3)) q u c h m b n d z)) (by rw [mc_up_self]) ?_
  refine lp_x_t3 (V := xt3 6 0 0 (a 3)) (fun x3 x4 => ?_) 6 0 0 (a 3) _ _ hL (by omega) rfl
  refine e_iloadn (pc := 57) dX0_clearThrees_57 rfl ?_
  exact e_iret (pc := 58) dX0_clearThrees_58 rfl (Nat.le_refl _) (Nat.le_refl _) ⟨rfl, rfl⟩
theorem sp_x_clear {s u m n : Nat → Int32} {a c b d : Nat → List Int32} {q : List (Option Nat)} {h : Nat} {z : mc_W} (hL : (a 3).length = 36) : mc_D yX6_clear cX6_clear 1 (some .int) 8 [.ref 0] (WW s a q u c h m b n d z) (some (.int (xclear (a 3)).1)) (WW s (mc_up a 3 (xclear (a 3)).2) q u c h m b n d z) := by
  refine mc_start (own := RX6) (ini := false) rfl (by decide +kernel) (fun h => by cases h) (Nat.le_of_ble_eq_true rfl) ?_
  show mc_E _ _ _ _ _ [some (.ref 0)] [] _ _ _
  refine e_aloadn (pc := 0) dX6_clear_0 rfl ?_
  refine e_get (pc := 1) dX6_clear_1 fX6_55 rfl rfl ?_
  refine e_cvD (pc := 4) (sp_x_clearPairs hL) dX6_clear_4 kX6_247 rfl rfl rfl rfl rfl (mc_CR_of (Nat.le_of_ble_eq_true rfl) (Nat.le_of_ble_eq_true rfl) (Nat.le_refl _) (Nat.le_refl _)) (Nat.le_of_ble_eq_true rfl) ?_
  refine e_aloadn (pc := 7) dX6_clear_7 rfl ?_
  refine e_get (pc := 8) dX6_clear_8 fX6_55 rfl rfl ?_
  refine e_cvD (pc := 11) (sp_x_clearThrees (a := mc_up a 3 (xcf 6 0 0 (a 3)).2) (by rw [up_at, xcf_len]; exact hL)) dX6_clear_11 kX6_250 rfl rfl rfl rfl rfl (mc_CR_of (Nat.le_of_ble_eq_true rfl) (Nat.le_of_ble_eq_true rfl) (Nat.le_refl _) (Nat.le_refl _)) (Nat.le_of_ble_eq_true rfl) ?_
  rw [up_up, up_at]
  refine e_iadd (pc := 14) dX6_clear_14 ?_
  exact e_iret (pc := 15) dX6_clear_15 rfl (Nat.le_refl _) (Nat.le_refl _) ⟨by simp only [xclear], by simp only [xclear]⟩
