section Zj_6n_x24_3
theorem sp_x_one3 {s u m n : Nat → Int32} {a c b d : Nat → List Int32} {q : List (Option Nat)} {h : Nat} {z : mc_W} (hL : xL a) {N : Nat} (hN : s 5 = nI N) (hN1 : N ≤ 160) {R : xR} {o : List Int32} (hP : xPS N R o u c) : mc_T yX4_isOne cX4_isOne 2 (some .boolean) 26 [.ref 6, .int 2] (WW s a q u c h m b n d z) (some (.int (mc_b ((xlv (xT a) N 3).1 R o).1))) (fun w1 => ∃ u1 c1, xPS N ((xlv (xT a) N 3).1 R o).2.1 ((xlv (xT a) N 3).1 R o).2.2 u1 c1 ∧ xPK u u1 c c1 ∧ w1 = (WW s a q u1 c1 h m b n d z)) := by
  refine mc_start (own := RX4) (ini := false) rfl (by decide +kernel) (fun h => by cases h) (Nat.le_of_ble_eq_true rfl) ?_
  show mc_E _ _ _ _ _ [some (.ref 6), some (.int 2)] [] _ _ _
  have ht := hP.2.2.1
  refine e_aloadn (pc := 0) dX4_isOne_0 rfl ?_
  refine e_get (pc := 1) dX4_isOne_1 fX4_41 rfl rfl ?_
  refine e_bipush (v := -6) (pc := 4) dX4_isOne_4 (by decide) ?_
  refine e_icmp_lt (pc := 6) dX4_isOne_6 (t := 23) (by decide) (fun c_6 => ?_) (fun c_6 => ?_)
  · skip
    refine e_aloadn (pc := 23) dX4_isOne_23 rfl ?_
    refine e_get (pc := 24) dX4_isOne_24 fX4_41 rfl rfl ?_
    refine e_bipush (v := -17) (pc := 27) dX4_isOne_27 (by decide) ?_
    refine e_icmp_eq (pc := 29) dX4_isOne_29 (t := 41) (by decide) (fun c_29 => ?_) (fun c_29 => ?_)
    · skip
      refine e_iloadn (pc := 41) dX4_isOne_41 rfl ?_
      refine e_iconst (v := 5) (pc := 42) dX4_isOne_42 (by decide) ?_
      refine e_icmp_lt (pc := 43) dX4_isOne_43 (t := 48) (by decide) (fun _ => ?_) (fun c_43 => absurd (by decide) c_43)
      refine e_aloadn (pc := 48) dX4_isOne_48 rfl ?_
      refine e_get (pc := 49) dX4_isOne_49 fX4_41 rfl rfl ?_
      refine e_bipush (v := -20) (pc := 52) dX4_isOne_52 (by decide) ?_
      refine e_icmp_ne (pc := 54) dX4_isOne_54 (t := 88) (by decide) (fun c_54 => ?_) (fun c_54 => ?_)
      · skip
        refine e_aloadn (pc := 88) dX4_isOne_88 rfl ?_
        refine e_cvY (pc := 89) (sp_x_goOnP hL hN hN1 hP) dX4_isOne_89 kX4_28 rfl rfl rfl rfl rfl (mc_CR_of (Nat.le_of_ble_eq_true rfl) (Nat.le_of_ble_eq_true rfl) (Nat.le_refl _) (Nat.le_refl _)) (Nat.le_of_ble_eq_true rfl) (fun w1 hw1 => ?_)
        obtain ⟨u1, c1, hP1, hk1, rfl⟩ := hw1
        refine e_aloadn (pc := 92) dX4_isOne_92 rfl ?_
        refine e_iloadn (pc := 93) dX4_isOne_93 rfl ?_
        refine e_iconst (v := 1) (pc := 94) dX4_isOne_94 (by decide) ?_
        refine e_iadd (pc := 95) dX4_isOne_95 ?_
        refine e_top (y := 3) (by decide) ?_
        refine e_cvX (pc := 96) (sp_x_one2 hL hN hN1 hP1) dX4_isOne_96 kX4_89 rfl rfl rfl rfl rfl (mc_CR_of (Nat.le_of_ble_eq_true rfl) (Nat.le_of_ble_eq_true rfl) (Nat.le_refl _) (Nat.le_refl _)) (Nat.le_of_ble_eq_true rfl) (fun w1 hw1 => ?_)
        obtain ⟨u2, c2, hP2, hk2, rfl⟩ := hw1
        refine e_if_ne (pc := 99) dX4_isOne_99 (t := 104) (by decide) (fun c_99 => ?_) (fun c_99 => ?_)
        · skip
          refine e_aloadn (pc := 104) dX4_isOne_104 rfl ?_
          refine e_bipush (v := -19) (pc := 105) dX4_isOne_105 (by decide) ?_
          refine e_cvY (pc := 107) (sp_x_putP hP2) dX4_isOne_107 kX4_76 rfl rfl rfl rfl rfl (mc_CR_of (Nat.le_of_ble_eq_true rfl) (Nat.le_of_ble_eq_true rfl) (Nat.le_refl _) (Nat.le_refl _)) (Nat.le_of_ble_eq_true rfl) (fun w1 hw1 => ?_)
          obtain ⟨u3, c3, hP3, hk3, rfl⟩ := hw1
          refine e_iconst (v := 1) (pc := 110) dX4_isOne_110 (by decide) ?_
          exact e_zret (pc := 111) dX4_isOne_111 rfl (by rfl) (Nat.le_refl _) (Nat.le_refl _) (have e : (xlv (xT a) N 3).1 R o = (true, ((xlv (xT a) N 2).1 (ynx (xT a) N R.2.1) o).2.1, xput ((xlv (xT a) N 2).1 (ynx (xT a) N R.2.1) o).2.2 (-19)) := (by rw [xlv_oS]; simp only [xone]; rw [if_neg (show ¬ -6 ≤ xtk1 R by rw [← ht]; exact Int32.not_le.mpr c_6), if_neg (show ¬ xtk1 R = -20 by rw [← ht]; exact c_54), if_pos (show xtk1 R = -17 by rw [← ht]; exact c_29), if_pos (mc_b1.mp c_99)]); ⟨by rw [e]; rfl, u3, c3, by rw [e]; dsimp only; exact hP3, (hk1.trans hk2).trans hk3, rfl⟩)
        · skip
          refine e_iconst (v := 0) (pc := 102) dX4_isOne_102 (by decide) ?_
          exact e_zret (pc := 103) dX4_isOne_103 rfl (by rfl) (Nat.le_refl _) (Nat.le_refl _) (have e : (xlv (xT a) N 3).1 R o = (false, ((xlv (xT a) N 2).1 (ynx (xT a) N R.2.1) o).2) := (by rw [xlv_oS]; simp only [xone]; rw [if_neg (show ¬ -6 ≤ xtk1 R by rw [← ht]; exact Int32.not_le.mpr c_6), if_neg (show ¬ xtk1 R = -20 by rw [← ht]; exact c_54), if_pos (show xtk1 R = -17 by rw [← ht]; exact c_29), if_neg (show ¬ ((xlv (xT a) N 2).1 (ynx (xT a) N R.2.1) o).1 = true by rw [mc_b0.mp c_99]; decide)]); ⟨by rw [e]; rfl, u2, c2, by rw [e]; dsimp only; exact hP2, hk1.trans hk2, rfl⟩)
      · skip
        refine e_aloadn (pc := 57) dX4_isOne_57 rfl ?_
        refine e_cvY (pc := 58) (sp_x_goOnP hL hN hN1 hP) dX4_isOne_58 kX4_28 rfl rfl rfl rfl rfl (mc_CR_of (Nat.le_of_ble_eq_true rfl) (Nat.le_of_ble_eq_true rfl) (Nat.le_refl _) (Nat.le_refl _)) (Nat.le_of_ble_eq_true rfl) (fun w1 hw1 => ?_)
        obtain ⟨u1, c1, hP1, hk1, rfl⟩ := hw1
        refine e_aloadn (pc := 61) dX4_isOne_61 rfl ?_
        refine e_iloadn (pc := 62) dX4_isOne_62 rfl ?_
        refine e_iconst (v := 1) (pc := 63) dX4_isOne_63 (by decide) ?_
        refine e_iadd (pc := 64) dX4_isOne_64 ?_
        refine e_top (y := 3) (by decide) ?_
        refine e_cvX (pc := 65) (sp_x_E2 hL hN hN1 hP1) dX4_isOne_65 kX4_70 rfl rfl rfl rfl rfl (mc_CR_of (Nat.le_of_ble_eq_true rfl) (Nat.le_of_ble_eq_true rfl) (Nat.le_refl _) (Nat.le_refl _)) (Nat.le_of_ble_eq_true rfl) (fun w1 hw1 => ?_)
        obtain ⟨u2, c2, hP2, hk2, rfl⟩ := hw1
        refine e_if_eq (pc := 68) dX4_isOne_68 (t := 80) (by decide) (fun c_68 => ?_) (fun c_68 => ?_)
        · skip
          refine e_iconst (v := 0) (pc := 80) dX4_isOne_80 (by decide) ?_
          exact e_zret (pc := 81) dX4_isOne_81 rfl (by rfl) (Nat.le_refl _) (Nat.le_refl _) (have e : (xlv (xT a) N 3).1 R o = (false, (xE (xT a) N (xlv (xT a) N 2).2 (ynx (xT a) N R.2.1) o).2) := (by rw [xlv_oS]; simp only [xone]; rw [if_neg (show ¬ -6 ≤ xtk1 R by rw [← ht]; exact Int32.not_le.mpr c_6), if_pos (show xtk1 R = -20 by rw [← ht]; exact c_54), if_neg (show ¬ (xE (xT a) N (xlv (xT a) N 2).2 (ynx (xT a) N R.2.1) o).1 = true by rw [mc_b0.mp c_68]; decide)]); ⟨by rw [e]; rfl, u2, c2, by rw [e]; dsimp only; exact hP2, hk1.trans hk2, rfl⟩)
        · skip
          refine e_aloadn (pc := 71) dX4_isOne_71 rfl ?_
          refine e_get (pc := 72) dX4_isOne_72 fX4_41 rfl rfl ?_
          refine e_bipush (v := -21) (pc := 75) dX4_isOne_75 (by decide) ?_
          refine e_icmp_eq (pc := 77) dX4_isOne_77 (t := 82) (by decide) (fun c_77 => ?_) (fun c_77 => ?_)
          · skip
            refine e_aloadn (pc := 82) dX4_isOne_82 rfl ?_
            refine e_cvY (pc := 83) (sp_x_goOnP hL hN hN1 hP2) dX4_isOne_83 kX4_28 rfl rfl rfl rfl rfl (mc_CR_of (Nat.le_of_ble_eq_true rfl) (Nat.le_of_ble_eq_true rfl) (Nat.le_refl _) (Nat.le_refl _)) (Nat.le_of_ble_eq_true rfl) (fun w1 hw1 => ?_)
            obtain ⟨u3, c3, hP3, hk3, rfl⟩ := hw1
            refine e_iconst (v := 1) (pc := 86) dX4_isOne_86 (by decide) ?_
            exact e_zret (pc := 87) dX4_isOne_87 rfl (by rfl) (Nat.le_refl _) (Nat.le_refl _) (have e : (xlv (xT a) N 3).1 R o = (true, ynx (xT a) N (xE (xT a) N (xlv (xT a) N 2).2 (ynx (xT a) N R.2.1) o).2.1.2.1, (xE (xT a) N (xlv (xT a) N 2).2 (ynx (xT a) N R.2.1) o).2.2) := (by rw [xlv_oS]; simp only [xone]; rw [if_neg (show ¬ -6 ≤ xtk1 R by rw [← ht]; exact Int32.not_le.mpr c_6), if_pos (show xtk1 R = -20 by rw [← ht]; exact c_54), if_pos (mc_b1.mp c_68), if_pos (show xtk1 (xE (xT a) N (xlv (xT a) N 2).2 (ynx (xT a) N R.2.1) o).2.1 = -21 by rw [← hP2.2.2.1]; exact c_77)]); ⟨by rw [e]; rfl, u3, c3, by rw [e]; dsimp only; exact hP3, (hk1.trans hk2).trans hk3, rfl⟩)
          · skip
            refine e_iconst (v := 0) (pc := 80) dX4_isOne_80 (by decide) ?_
            exact e_zret (pc := 81) dX4_isOne_81 rfl (by rfl) (Nat.le_refl _) (Nat.le_refl _) (have e : (xlv (xT a) N 3).1 R o = (false, (xE (xT a) N (xlv (xT a) N 2).2 (ynx (xT a) N R.2.1) o).2) := (by rw [xlv_oS]; simp only [xone]; rw [if_neg (show ¬ -6 ≤ xtk1 R by rw [← ht]; exact Int32.not_le.mpr c_6), if_pos (show xtk1 R = -20 by rw [← ht]; exact c_54), if_pos (mc_b1.mp c_68), if_neg (show ¬ xtk1 (xE (xT a) N (xlv (xT a) N 2).2 (ynx (xT a) N R.2.1) o).2.1 = -21 by rw [← hP2.2.2.1]; exact c_77)]); ⟨by rw [e]; rfl, u2, c2, by rw [e]; dsimp only; exact hP2, hk1.trans hk2, rfl⟩)
    · skip
      refine e_aloadn (pc := 32) dX4_isOne_32 rfl ?_
      refine e_get (pc := 33) dX4_isOne_33 fX4_41 rfl rfl ?_
      refine e_bipush (v := -20) (pc := 36) dX4_isOne_36 (by decide) ?_
      refine e_icmp_ne (pc := 38) dX4_isOne_38 (t := 46) (by decide) (fun c_38 => ?_) (fun c_38 => ?_)
      · skip
        refine e_iconst (v := 0) (pc := 46) dX4_isOne_46 (by decide) ?_
        exact e_zret (pc := 47) dX4_isOne_47 rfl (by rfl) (Nat.le_refl _) (Nat.le_refl _) (have e : (xlv (xT a) N 3).1 R o = (false, R, o) := (by rw [xlv_oS]; simp only [xone]; rw [if_neg (show ¬ -6 ≤ xtk1 R by rw [← ht]; exact Int32.not_le.mpr c_6), if_neg (show ¬ xtk1 R = -20 by rw [← ht]; exact c_38), if_neg (show ¬ xtk1 R = -17 by rw [← ht]; exact c_29)]); ⟨by rw [e]; rfl, u, c, by rw [e]; dsimp only; exact hP, xPK_refl u c, rfl⟩)
      · skip
        refine e_iloadn (pc := 41) dX4_isOne_41 rfl ?_
        refine e_iconst (v := 5) (pc := 42) dX4_isOne_42 (by decide) ?_
        refine e_icmp_lt (pc := 43) dX4_isOne_43 (t := 48) (by decide) (fun _ => ?_) (fun c_43 => absurd (by decide) c_43)
        refine e_aloadn (pc := 48) dX4_isOne_48 rfl ?_
        refine e_get (pc := 49) dX4_isOne_49 fX4_41 rfl rfl ?_
        refine e_bipush (v := -20) (pc := 52) dX4_isOne_52 (by decide) ?_
        refine e_icmp_ne (pc := 54) dX4_isOne_54 (t := 88) (by decide) (fun c_54 => ?_) (fun c_54 => ?_)
        · skip
          refine e_aloadn (pc := 88) dX4_isOne_88 rfl ?_
          refine e_cvY (pc := 89) (sp_x_goOnP hL hN hN1 hP) dX4_isOne_89 kX4_28 rfl rfl rfl rfl rfl (mc_CR_of (Nat.le_of_ble_eq_true rfl) (Nat.le_of_ble_eq_true rfl) (Nat.le_refl _) (Nat.le_refl _)) (Nat.le_of_ble_eq_true rfl) (fun w1 hw1 => ?_)
          obtain ⟨u1, c1, hP1, hk1, rfl⟩ := hw1
          refine e_aloadn (pc := 92) dX4_isOne_92 rfl ?_
          refine e_iloadn (pc := 93) dX4_isOne_93 rfl ?_
          refine e_iconst (v := 1) (pc := 94) dX4_isOne_94 (by decide) ?_
          refine e_iadd (pc := 95) dX4_isOne_95 ?_
          refine e_top (y := 3) (by decide) ?_
          refine e_cvX (pc := 96) (sp_x_one2 hL hN hN1 hP1) dX4_isOne_96 kX4_89 rfl rfl rfl rfl rfl (mc_CR_of (Nat.le_of_ble_eq_true rfl) (Nat.le_of_ble_eq_true rfl) (Nat.le_refl _) (Nat.le_refl _)) (Nat.le_of_ble_eq_true rfl) (fun w1 hw1 => ?_)
          obtain ⟨u2, c2, hP2, hk2, rfl⟩ := hw1
          refine e_if_ne (pc := 99) dX4_isOne_99 (t := 104) (by decide) (fun c_99 => ?_) (fun c_99 => ?_)
          · skip
            refine e_aloadn (pc := 104) dX4_isOne_104 rfl ?_
            refine e_bipush (v := -19) (pc := 105) dX4_isOne_105 (by decide) ?_
            refine e_cvY (pc := 107) (sp_x_putP hP2) dX4_isOne_107 kX4_76 rfl rfl rfl rfl rfl (mc_CR_of (Nat.le_of_ble_eq_true rfl) (Nat.le_of_ble_eq_true rfl) (Nat.le_refl _) (Nat.le_refl _)) (Nat.le_of_ble_eq_true rfl) (fun w1 hw1 => ?_)
            obtain ⟨u3, c3, hP3, hk3, rfl⟩ := hw1
            refine e_iconst (v := 1) (pc := 110) dX4_isOne_110 (by decide) ?_
            exact e_zret (pc := 111) dX4_isOne_111 rfl (by rfl) (Nat.le_refl _) (Nat.le_refl _) (have e : (xlv (xT a) N 3).1 R o = (true, ((xlv (xT a) N 2).1 (ynx (xT a) N R.2.1) o).2.1, xput ((xlv (xT a) N 2).1 (ynx (xT a) N R.2.1) o).2.2 (-19)) := (by rw [xlv_oS]; simp only [xone]; rw [if_neg (show ¬ -6 ≤ xtk1 R by rw [← ht]; exact Int32.not_le.mpr c_6), if_neg (show ¬ xtk1 R = -20 by rw [← ht]; exact c_54), if_pos (show xtk1 R = -17 from absurd (show u 2 = -20 from c_38) c_54), if_pos (mc_b1.mp c_99)]); ⟨by rw [e]; rfl, u3, c3, by rw [e]; dsimp only; exact hP3, (hk1.trans hk2).trans hk3, rfl⟩)
          · skip
            refine e_iconst (v := 0) (pc := 102) dX4_isOne_102 (by decide) ?_
            exact e_zret (pc := 103) dX4_isOne_103 rfl (by rfl) (Nat.le_refl _) (Nat.le_refl _) (have e : (xlv (xT a) N 3).1 R o = (false, ((xlv (xT a) N 2).1 (ynx (xT a) N R.2.1) o).2) := (by rw [xlv_oS]; simp only [xone]; rw [if_neg (show ¬ -6 ≤ xtk1 R by rw [← ht]; exact Int32.not_le.mpr c_6), if_neg (show ¬ xtk1 R = -20 by rw [← ht]; exact c_54), if_pos (show xtk1 R = -17 from absurd (show u 2 = -20 from c_38) c_54), if_neg (show ¬ ((xlv (xT a) N 2).1 (ynx (xT a) N R.2.1) o).1 = true by rw [mc_b0.mp c_99]; decide)]); ⟨by rw [e]; rfl, u2, c2, by rw [e]; dsimp only; exact hP2, hk1.trans hk2, rfl⟩)
        · skip
          refine e_aloadn (pc := 57) dX4_isOne_57 rfl ?_
          refine e_cvY (pc := 58) (sp_x_goOnP hL hN hN1 hP) dX4_isOne_58 kX4_28 rfl rfl rfl rfl rfl (mc_CR_of (Nat.le_of_ble_eq_true rfl) (Nat.le_of_ble_eq_true rfl) (Nat.le_refl _) (Nat.le_refl _)) (Nat.le_of_ble_eq_true rfl) (fun w1 hw1 => ?_)
          obtain ⟨u1, c1, hP1, hk1, rfl⟩ := hw1
          refine e_aloadn (pc := 61) dX4_isOne_61 rfl ?_
          refine e_iloadn (pc := 62) dX4_isOne_62 rfl ?_
          refine e_iconst (v := 1) (pc := 63) dX4_isOne_63 (by decide) ?_
          refine e_iadd (pc := 64) dX4_isOne_64 ?_
          refine e_top (y := 3) (by decide) ?_
          refine e_cvX (pc := 65) (sp_x_E2 hL hN hN1 hP1) dX4_isOne_65 kX4_70 rfl rfl rfl rfl rfl (mc_CR_of (Nat.le_of_ble_eq_true rfl) (Nat.le_of_ble_eq_true rfl) (Nat.le_refl _) (Nat.le_refl _)) (Nat.le_of_ble_eq_true rfl) (fun w1 hw1 => ?_)
          obtain ⟨u2, c2, hP2, hk2, rfl⟩ := hw1
          refine e_if_eq (pc := 68) dX4_isOne_68 (t := 80) (by decide) (fun c_68 => ?_) (fun c_68 => ?_)
          · skip
            refine e_iconst (v := 0) (pc := 80) dX4_isOne_80 (by decide) ?_
            exact e_zret (pc := 81) dX4_isOne_81 rfl (by rfl) (Nat.le_refl _) (Nat.le_refl _) (have e : (xlv (xT a) N 3).1 R o = (false, (xE (xT a) N (xlv (xT a) N 2).2 (ynx (xT a) N R.2.1) o).2) := (by rw [xlv_oS]; simp only [xone]; rw [if_neg (show ¬ -6 ≤ xtk1 R by rw [← ht]; exact Int32.not_le.mpr c_6), if_pos (show xtk1 R = -20 by rw [← ht]; exact c_54), if_neg (show ¬ (xE (xT a) N (xlv (xT a) N 2).2 (ynx (xT a) N R.2.1) o).1 = true by rw [mc_b0.mp c_68]; decide)]); ⟨by rw [e]; rfl, u2, c2, by rw [e]; dsimp only; exact hP2, hk1.trans hk2, rfl⟩)
          · skip
            refine e_aloadn (pc := 71) dX4_isOne_71 rfl ?_
            refine e_get (pc := 72) dX4_isOne_72 fX4_41 rfl rfl ?_
            refine e_bipush (v := -21) (pc := 75) dX4_isOne_75 (by decide) ?_
            refine e_icmp_eq (pc := 77) dX4_isOne_77 (t := 82) (by decide) (fun c_77 => ?_) (fun c_77 => ?_)
            · skip
              refine e_aloadn (pc := 82) dX4_isOne_82 rfl ?_
              refine e_cvY (pc := 83) (sp_x_goOnP hL hN hN1 hP2) dX4_isOne_83 kX4_28 rfl rfl rfl rfl rfl (mc_CR_of (Nat.le_of_ble_eq_true rfl) (Nat.le_of_ble_eq_true rfl) (Nat.le_refl _) (Nat.le_refl _)) (Nat.le_of_ble_eq_true rfl) (fun w1 hw1 => ?_)
              obtain ⟨u3, c3, hP3, hk3, rfl⟩ := hw1
              refine e_iconst (v := 1) (pc := 86) dX4_isOne_86 (by decide) ?_
              exact e_zret (pc := 87) dX4_isOne_87 rfl (by rfl) (Nat.le_refl _) (Nat.le_refl _) (have e : (xlv (xT a) N 3).1 R o = (true, ynx (xT a) N (xE (xT a) N (xlv (xT a) N 2).2 (ynx (xT a) N R.2.1) o).2.1.2.1, (xE (xT a) N (xlv (xT a) N 2).2 (ynx (xT a) N R.2.1) o).2.2) := (by rw [xlv_oS]; simp only [xone]; rw [if_neg (show ¬ -6 ≤ xtk1 R by rw [← ht]; exact Int32.not_le.mpr c_6), if_pos (show xtk1 R = -20 by rw [← ht]; exact c_54), if_pos (mc_b1.mp c_68), if_pos (show xtk1 (xE (xT a) N (xlv (xT a) N 2).2 (ynx (xT a) N R.2.1) o).2.1 = -21 by rw [← hP2.2.2.1]; exact c_77)]); ⟨by rw [e]; rfl, u3, c3, by rw [e]; dsimp only; exact hP3, (hk1.trans hk2).trans hk3, rfl⟩)
            · skip
              refine e_iconst (v := 0) (pc := 80) dX4_isOne_80 (by decide) ?_
              exact e_zret (pc := 81) dX4_isOne_81 rfl (by rfl) (Nat.le_refl _) (Nat.le_refl _) (have e : (xlv (xT a) N 3).1 R o = (false, (xE (xT a) N (xlv (xT a) N 2).2 (ynx (xT a) N R.2.1) o).2) := (by rw [xlv_oS]; simp only [xone]; rw [if_neg (show ¬ -6 ≤ xtk1 R by rw [← ht]; exact Int32.not_le.mpr c_6), if_pos (show xtk1 R = -20 by rw [← ht]; exact c_54), if_pos (mc_b1.mp c_68), if_neg (show ¬ xtk1 (xE (xT a) N (xlv (xT a) N 2).2 (ynx (xT a) N R.2.1) o).2.1 = -21 by rw [← hP2.2.2.1]; exact c_77)]); ⟨by rw [e]; rfl, u2, c2, by rw [e]; dsimp only; exact hP2, hk1.trans hk2, rfl⟩)
  · skip
    refine e_aloadn (pc := 9) dX4_isOne_9 rfl ?_
    refine e_aloadn (pc := 10) dX4_isOne_10 rfl ?_
    refine e_get (pc := 11) dX4_isOne_11 fX4_41 rfl rfl ?_
    refine e_cvY (pc := 14) (sp_x_putP hP) dX4_isOne_14 kX4_76 rfl rfl rfl rfl rfl (mc_CR_of (Nat.le_of_ble_eq_true rfl) (Nat.le_of_ble_eq_true rfl) (Nat.le_refl _) (Nat.le_refl _)) (Nat.le_of_ble_eq_true rfl) (fun w1 hw1 => ?_)
    obtain ⟨u1, c1, hP1, hk1, rfl⟩ := hw1
    rw [ht] at hP1
    refine e_aloadn (pc := 17) dX4_isOne_17 rfl ?_
    refine e_cvY (pc := 18) (sp_x_goOnP hL hN hN1 hP1) dX4_isOne_18 kX4_28 rfl rfl rfl rfl rfl (mc_CR_of (Nat.le_of_ble_eq_true rfl) (Nat.le_of_ble_eq_true rfl) (Nat.le_refl _) (Nat.le_refl _)) (Nat.le_of_ble_eq_true rfl) (fun w1 hw1 => ?_)
    obtain ⟨u2, c2, hP2, hk2, rfl⟩ := hw1
    refine e_iconst (v := 1) (pc := 21) dX4_isOne_21 (by decide) ?_
    exact e_zret (pc := 22) dX4_isOne_22 rfl (by rfl) (Nat.le_refl _) (Nat.le_refl _) (have e : (xlv (xT a) N 3).1 R o = (true, ynx (xT a) N R.2.1, xput o (xtk1 R)) := (by rw [xlv_oS]; unfold xone; rw [if_pos (show -6 ≤ xtk1 R by rw [← ht]; exact Int32.not_lt.mp c_6)]); ⟨by rw [e]; rfl, u2, c2, by rw [e]; dsimp only; exact hP2, hk1.trans hk2, rfl⟩)
theorem lp_x_term3 {s m n : Nat → Int32} {a b d : Nat → List Int32} {q : List (Option Nat)} {h : Nat} {z : mc_W} (hL : xL a) {N : Nat} (hN : s 5 = nI N) (hN1 : N ≤ 160) {ub : Nat → Int32} {cb : Nat → List Int32} {V : Bool × xR × List Int32} :
    ∀ (f i : Nat) (R : xR) (o : List Int32) (u : Nat → Int32) (c : Nat → List Int32), i + f = 160 → xPS N R o u c → xPK ub u cb c → xlp (xT a) N (xlv (xT a) N 3).1 xM18 f R o = V →
      mc_E RX4 cX4_isTerm 3 (mc_JM (some .boolean) false 27 0 0 (fun r' w' => r' = some (.int (mc_b V.1)) ∧ ∃ u1 c1, xPS N V.2.1 V.2.2 u1 c1 ∧ xPK ub u1 cb c1 ∧ w' = (WW s a q u1 c1 h m b n d z))) 12 [some (.ref 6), some (.int 2), some (.int (nI i))] [] (WW s a q u c h m b n d z) 0 0 := by
  intro f
  induction f with
  | zero =>
    intro i R o u c hi hP hkb hV
    have e : i = 160 := by omega
    subst e
    simp only [xlp] at hV
    subst hV
    refine e_iloadn (pc := 12) dX4_isTerm_12 rfl ?_
    refine e_sipush (v := 160) (pc := 13) dX4_isTerm_13 (by decide) ?_
    refine e_icmp_ge (pc := 16) dX4_isTerm_16 (t := 54) (by decide) (fun _ => ?_) (fun c_16 => absurd (by decide) c_16)
    refine e_iconst (v := 1) (pc := 54) dX4_isTerm_54 (by decide) ?_
    exact e_zret (pc := 55) dX4_isTerm_55 rfl (by rfl) (Nat.le_refl _) (Nat.le_refl _) ⟨rfl, u, c, hP, hkb, rfl⟩
  | succ f ih =>
    intro i R o u c hi hP hkb hV
    simp only [xlp] at hV
    have hi1 : i < 160 := by omega
    have ht := hP.2.2.1
    refine e_iloadn (pc := 12) dX4_isTerm_12 rfl ?_
    refine e_sipush (v := 160) (pc := 13) dX4_isTerm_13 (by decide) ?_
    refine e_icmp_ge (pc := 16) dX4_isTerm_16 (t := 54) (by decide) (fun c_16 => absurd c_16 (nI_ge hi1 (by decide))) (fun _ => ?_)
    refine e_aloadn (pc := 19) dX4_isTerm_19 rfl ?_
    refine e_get (pc := 20) dX4_isTerm_20 fX4_41 rfl rfl ?_
    refine e_bipush (v := -18) (pc := 23) dX4_isTerm_23 (by decide) ?_
    refine e_icmp_ne (pc := 25) dX4_isTerm_25 (t := 54) (by decide) (fun c_25 => ?_) (fun c_25 => ?_)
    · skip
      refine e_iconst (v := 1) (pc := 54) dX4_isTerm_54 (by decide) ?_
      exact e_zret (pc := 55) dX4_isTerm_55 rfl (by rfl) (Nat.le_refl _) (Nat.le_refl _) ⟨by rw [← hV, if_neg (show ¬ xM18 (xtk1 R) = true by rw [← ht]; unfold xM18; simp [c_25])]; rfl, u, c, by rw [← hV, if_neg (show ¬ xM18 (xtk1 R) = true by rw [← ht]; unfold xM18; simp [c_25])]; exact hP, hkb, rfl⟩
    · skip
      refine e_aloadn (pc := 28) dX4_isTerm_28 rfl ?_
      refine e_cvY (pc := 29) (sp_x_goOnP hL hN hN1 hP) dX4_isTerm_29 kX4_28 rfl rfl rfl rfl rfl (mc_CR_of (Nat.le_of_ble_eq_true rfl) (Nat.le_of_ble_eq_true rfl) (Nat.le_refl _) (Nat.le_refl _)) (Nat.le_of_ble_eq_true rfl) (fun w1 hw1 => ?_)
      obtain ⟨u1, c1, hP1, hk1, rfl⟩ := hw1
      refine e_aloadn (pc := 32) dX4_isTerm_32 rfl ?_
      refine e_iloadn (pc := 33) dX4_isTerm_33 rfl ?_
      refine e_cvX (pc := 34) (sp_x_one3 hL hN hN1 hP1) dX4_isTerm_34 kX4_89 rfl rfl rfl rfl rfl (mc_CR_of (Nat.le_of_ble_eq_true rfl) (Nat.le_of_ble_eq_true rfl) (Nat.le_refl _) (Nat.le_refl _)) (Nat.le_of_ble_eq_true rfl) (fun w1 hw1 => ?_)
      obtain ⟨u2, c2, hP2, hk2, rfl⟩ := hw1
      refine e_if_ne (pc := 37) dX4_isTerm_37 (t := 42) (by decide) (fun c_37 => ?_) (fun c_37 => ?_)
      · skip
        refine e_aloadn (pc := 42) dX4_isTerm_42 rfl ?_
        refine e_bipush (v := -18) (pc := 43) dX4_isTerm_43 (by decide) ?_
        refine e_cvY (pc := 45) (sp_x_putP hP2) dX4_isTerm_45 kX4_76 rfl rfl rfl rfl rfl (mc_CR_of (Nat.le_of_ble_eq_true rfl) (Nat.le_of_ble_eq_true rfl) (Nat.le_refl _) (Nat.le_refl _)) (Nat.le_of_ble_eq_true rfl) (fun w1 hw1 => ?_)
        obtain ⟨u3, c3, hP3, hk3, rfl⟩ := hw1
        refine e_incC2 (pc := 48) dX4_isTerm_48 (nI_1 i) (Nat.le_of_ble_eq_true rfl) rfl ?_
        refine e_goto (pc := 51) dX4_isTerm_51 (t := 12) (by decide) ?_
        exact ih (i + 1) _ _ _ _ (by omega) (by rw [show (-18 : Int32) = xtk1 R from by rw [← ht, c_25]] at hP3; exact hP3) (((hkb.trans hk1).trans hk2).trans hk3) (by rw [← hV, if_pos (show xM18 (xtk1 R) = true by rw [← ht, c_25]; decide), if_pos (mc_b1.mp c_37)])
      · skip
        refine e_iconst (v := 0) (pc := 40) dX4_isTerm_40 (by decide) ?_
        exact e_zret (pc := 41) dX4_isTerm_41 rfl (by rfl) (Nat.le_refl _) (Nat.le_refl _) ⟨by rw [← hV, if_pos (show xM18 (xtk1 R) = true by rw [← ht, c_25]; decide), if_neg (show ¬ ((xlv (xT a) N 3).1 (ynx (xT a) N R.2.1) o).1 = true by rw [mc_b0.mp c_37]; decide)]; rfl, u2, c2, by rw [← hV, if_pos (show xM18 (xtk1 R) = true by rw [← ht, c_25]; decide), if_neg (show ¬ ((xlv (xT a) N 3).1 (ynx (xT a) N R.2.1) o).1 = true by rw [mc_b0.mp c_37]; decide)]; exact hP2, (hkb.trans hk1).trans hk2, rfl⟩
theorem sp_x_term3 {s u m n : Nat → Int32} {a c b d : Nat → List Int32} {q : List (Option Nat)} {h : Nat} {z : mc_W} (hL : xL a) {N : Nat} (hN : s 5 = nI N) (hN1 : N ≤ 160) {R : xR} {o : List Int32} (hP : xPS N R o u c) : mc_T yX4_isTerm cX4_isTerm 3 (some .boolean) 27 [.ref 6, .int 2] (WW s a q u c h m b n d z) (some (.int (mc_b (xterm (xT a) N (xlv (xT a) N 3).1 R o).1))) (fun w1 => ∃ u1 c1, xPS N (xterm (xT a) N (xlv (xT a) N 3).1 R o).2.1 (xterm (xT a) N (xlv (xT a) N 3).1 R o).2.2 u1 c1 ∧ xPK u u1 c c1 ∧ w1 = (WW s a q u1 c1 h m b n d z)) := by
  refine mc_start (own := RX4) (ini := false) rfl (by decide +kernel) (fun h => by cases h) (Nat.le_of_ble_eq_true rfl) ?_
  show mc_E _ _ _ _ _ [some (.ref 6), some (.int 2), none] [] _ _ _
  refine e_aloadn (pc := 0) dX4_isTerm_0 rfl ?_
  refine e_iloadn (pc := 1) dX4_isTerm_1 rfl ?_
  refine e_cvX (pc := 2) (sp_x_one3 hL hN hN1 hP) dX4_isTerm_2 kX4_89 rfl rfl rfl rfl rfl (mc_CR_of (Nat.le_of_ble_eq_true rfl) (Nat.le_of_ble_eq_true rfl) (Nat.le_refl _) (Nat.le_refl _)) (Nat.le_of_ble_eq_true rfl) (fun w1 hw1 => ?_)
  obtain ⟨u1, c1, hP1, hk1, rfl⟩ := hw1
  refine e_if_ne (pc := 5) dX4_isTerm_5 (t := 10) (by decide) (fun c_5 => ?_) (fun c_5 => ?_)
  · skip
    refine e_iconst (v := 0) (pc := 10) dX4_isTerm_10 (by decide) ?_
    refine e_isn2 (pc := 11) dX4_isTerm_11 (Nat.le_of_ble_eq_true rfl) rfl ?_
    have e : xterm (xT a) N (xlv (xT a) N 3).1 R o = xlp (xT a) N (xlv (xT a) N 3).1 xM18 160 ((xlv (xT a) N 3).1 R o).2.1 ((xlv (xT a) N 3).1 R o).2.2 := if_pos (mc_b1.mp c_5)
    rw [e]
    exact lp_x_term3 hL hN hN1 160 0 _ _ u1 c1 (by omega) hP1 hk1 rfl
  · skip
    refine e_iconst (v := 0) (pc := 8) dX4_isTerm_8 (by decide) ?_
    exact e_zret (pc := 9) dX4_isTerm_9 rfl (by rfl) (Nat.le_refl _) (Nat.le_refl _) (have e : xterm (xT a) N (xlv (xT a) N 3).1 R o = (false, ((xlv (xT a) N 3).1 R o).2) := if_neg (show ¬ ((xlv (xT a) N 3).1 R o).1 = true by rw [mc_b0.mp c_5]; decide); ⟨by rw [e]; rfl, u1, c1, by rw [e]; dsimp only; exact hP1, hk1, rfl⟩)
theorem lp_x_sum3 {s m n : Nat → Int32} {a b d : Nat → List Int32} {q : List (Option Nat)} {h : Nat} {z : mc_W} (hL : xL a) {N : Nat} (hN : s 5 = nI N) (hN1 : N ≤ 160) {ub : Nat → Int32} {cb : Nat → List Int32} {V : Bool × xR × List Int32} :
    ∀ (f i : Nat) (R : xR) (o : List Int32) (u : Nat → Int32) (c : Nat → List Int32) (x3 : Option Value), i + f = 160 → xPS N R o u c → xPK ub u cb c → xlp (xT a) N (xterm (xT a) N (xlv (xT a) N 3).1) xM16 f R o = V →
      mc_E RX4 cX4_isSum 4 (mc_JM (some .boolean) false 28 0 0 (fun r' w' => r' = some (.int (mc_b V.1)) ∧ ∃ u1 c1, xPS N V.2.1 V.2.2 u1 c1 ∧ xPK ub u1 cb c1 ∧ w' = (WW s a q u1 c1 h m b n d z))) 12 [some (.ref 6), some (.int 2), some (.int (nI i)), x3] [] (WW s a q u c h m b n d z) 0 0 := by
  intro f
  induction f with
  | zero =>
    intro i R o u c x3 hi hP hkb hV
    have e : i = 160 := by omega
    subst e
    simp only [xlp] at hV
    subst hV
    refine e_iloadn (pc := 12) dX4_isSum_12 rfl ?_
    refine e_sipush (v := 160) (pc := 13) dX4_isSum_13 (by decide) ?_
    refine e_icmp_ge (pc := 16) dX4_isSum_16 (t := 67) (by decide) (fun _ => ?_) (fun c_16 => absurd (by decide) c_16)
    refine e_iconst (v := 1) (pc := 67) dX4_isSum_67 (by decide) ?_
    exact e_zret (pc := 68) dX4_isSum_68 rfl (by rfl) (Nat.le_refl _) (Nat.le_refl _) ⟨rfl, u, c, hP, hkb, rfl⟩
  | succ f ih =>
    intro i R o u c x3 hi hP hkb hV
    simp only [xlp] at hV
    have hi1 : i < 160 := by omega
    have ht := hP.2.2.1
    refine e_iloadn (pc := 12) dX4_isSum_12 rfl ?_
    refine e_sipush (v := 160) (pc := 13) dX4_isSum_13 (by decide) ?_
    refine e_icmp_ge (pc := 16) dX4_isSum_16 (t := 67) (by decide) (fun c_16 => absurd c_16 (nI_ge hi1 (by decide))) (fun _ => ?_)
    refine e_aloadn (pc := 19) dX4_isSum_19 rfl ?_
    refine e_get (pc := 20) dX4_isSum_20 fX4_41 rfl rfl ?_
    refine e_bipush (v := -16) (pc := 23) dX4_isSum_23 (by decide) ?_
    refine e_icmp_eq (pc := 25) dX4_isSum_25 (t := 37) (by decide) (fun c_25 => ?_) (fun c_25 => ?_)
    · skip
      refine e_aloadn (pc := 37) dX4_isSum_37 rfl ?_
      refine e_get (pc := 38) dX4_isSum_38 fX4_41 rfl rfl ?_
      refine e_isn3 (pc := 41) dX4_isSum_41 (Nat.le_of_ble_eq_true rfl) rfl ?_
      refine e_aloadn (pc := 42) dX4_isSum_42 rfl ?_
      refine e_cvY (pc := 43) (sp_x_goOnP hL hN hN1 hP) dX4_isSum_43 kX4_28 rfl rfl rfl rfl rfl (mc_CR_of (Nat.le_of_ble_eq_true rfl) (Nat.le_of_ble_eq_true rfl) (Nat.le_refl _) (Nat.le_refl _)) (Nat.le_of_ble_eq_true rfl) (fun w1 hw1 => ?_)
      obtain ⟨u1, c1, hP1, hk1, rfl⟩ := hw1
      refine e_aloadn (pc := 46) dX4_isSum_46 rfl ?_
      refine e_iloadn (pc := 47) dX4_isSum_47 rfl ?_
      refine e_cvX (pc := 48) (sp_x_term3 hL hN hN1 hP1) dX4_isSum_48 kX4_86 rfl rfl rfl rfl rfl (mc_CR_of (Nat.le_of_ble_eq_true rfl) (Nat.le_of_ble_eq_true rfl) (Nat.le_refl _) (Nat.le_refl _)) (Nat.le_of_ble_eq_true rfl) (fun w1 hw1 => ?_)
      obtain ⟨u2, c2, hP2, hk2, rfl⟩ := hw1
      refine e_if_ne (pc := 51) dX4_isSum_51 (t := 56) (by decide) (fun c_51 => ?_) (fun c_51 => ?_)
      · skip
        refine e_aloadn (pc := 56) dX4_isSum_56 rfl ?_
        refine e_iloadn (pc := 57) dX4_isSum_57 rfl ?_
        refine e_cvY (pc := 58) (sp_x_putP hP2) dX4_isSum_58 kX4_76 rfl rfl rfl rfl rfl (mc_CR_of (Nat.le_of_ble_eq_true rfl) (Nat.le_of_ble_eq_true rfl) (Nat.le_refl _) (Nat.le_refl _)) (Nat.le_of_ble_eq_true rfl) (fun w1 hw1 => ?_)
        obtain ⟨u3, c3, hP3, hk3, rfl⟩ := hw1
        refine e_incC2 (pc := 61) dX4_isSum_61 (nI_1 i) (Nat.le_of_ble_eq_true rfl) rfl ?_
        refine e_goto (pc := 64) dX4_isSum_64 (t := 12) (by decide) ?_
        exact ih (i + 1) _ _ _ _ _ (by omega) (by rw [show u 2 = xtk1 R from ht] at hP3; exact hP3) (((hkb.trans hk1).trans hk2).trans hk3) (by rw [← hV, if_pos (show xM16 (xtk1 R) = true by rw [← ht, c_25]; decide), if_pos (mc_b1.mp c_51)])
      · skip
        refine e_iconst (v := 0) (pc := 54) dX4_isSum_54 (by decide) ?_
        exact e_zret (pc := 55) dX4_isSum_55 rfl (by rfl) (Nat.le_refl _) (Nat.le_refl _) ⟨by rw [← hV, if_pos (show xM16 (xtk1 R) = true by rw [← ht, c_25]; decide), if_neg (show ¬ ((xterm (xT a) N (xlv (xT a) N 3).1) (ynx (xT a) N R.2.1) o).1 = true by rw [mc_b0.mp c_51]; decide)]; rfl, u2, c2, by rw [← hV, if_pos (show xM16 (xtk1 R) = true by rw [← ht, c_25]; decide), if_neg (show ¬ ((xterm (xT a) N (xlv (xT a) N 3).1) (ynx (xT a) N R.2.1) o).1 = true by rw [mc_b0.mp c_51]; decide)]; exact hP2, (hkb.trans hk1).trans hk2, rfl⟩
    · skip
      refine e_aloadn (pc := 28) dX4_isSum_28 rfl ?_
      refine e_get (pc := 29) dX4_isSum_29 fX4_41 rfl rfl ?_
      refine e_bipush (v := -17) (pc := 32) dX4_isSum_32 (by decide) ?_
      refine e_icmp_ne (pc := 34) dX4_isSum_34 (t := 67) (by decide) (fun c_34 => ?_) (fun c_34 => ?_)
      · skip
        refine e_iconst (v := 1) (pc := 67) dX4_isSum_67 (by decide) ?_
        exact e_zret (pc := 68) dX4_isSum_68 rfl (by rfl) (Nat.le_refl _) (Nat.le_refl _) ⟨by rw [← hV, if_neg (show ¬ xM16 (xtk1 R) = true by rw [← ht]; unfold xM16; simp [c_25, c_34])]; rfl, u, c, by rw [← hV, if_neg (show ¬ xM16 (xtk1 R) = true by rw [← ht]; unfold xM16; simp [c_25, c_34])]; exact hP, hkb, rfl⟩
      · skip
        refine e_aloadn (pc := 37) dX4_isSum_37 rfl ?_
        refine e_get (pc := 38) dX4_isSum_38 fX4_41 rfl rfl ?_
        refine e_isn3 (pc := 41) dX4_isSum_41 (Nat.le_of_ble_eq_true rfl) rfl ?_
        refine e_aloadn (pc := 42) dX4_isSum_42 rfl ?_
        refine e_cvY (pc := 43) (sp_x_goOnP hL hN hN1 hP) dX4_isSum_43 kX4_28 rfl rfl rfl rfl rfl (mc_CR_of (Nat.le_of_ble_eq_true rfl) (Nat.le_of_ble_eq_true rfl) (Nat.le_refl _) (Nat.le_refl _)) (Nat.le_of_ble_eq_true rfl) (fun w1 hw1 => ?_)
        obtain ⟨u1, c1, hP1, hk1, rfl⟩ := hw1
        refine e_aloadn (pc := 46) dX4_isSum_46 rfl ?_
        refine e_iloadn (pc := 47) dX4_isSum_47 rfl ?_
        refine e_cvX (pc := 48) (sp_x_term3 hL hN hN1 hP1) dX4_isSum_48 kX4_86 rfl rfl rfl rfl rfl (mc_CR_of (Nat.le_of_ble_eq_true rfl) (Nat.le_of_ble_eq_true rfl) (Nat.le_refl _) (Nat.le_refl _)) (Nat.le_of_ble_eq_true rfl) (fun w1 hw1 => ?_)
        obtain ⟨u2, c2, hP2, hk2, rfl⟩ := hw1
        refine e_if_ne (pc := 51) dX4_isSum_51 (t := 56) (by decide) (fun c_51 => ?_) (fun c_51 => ?_)
        · skip
          refine e_aloadn (pc := 56) dX4_isSum_56 rfl ?_
          refine e_iloadn (pc := 57) dX4_isSum_57 rfl ?_
          refine e_cvY (pc := 58) (sp_x_putP hP2) dX4_isSum_58 kX4_76 rfl rfl rfl rfl rfl (mc_CR_of (Nat.le_of_ble_eq_true rfl) (Nat.le_of_ble_eq_true rfl) (Nat.le_refl _) (Nat.le_refl _)) (Nat.le_of_ble_eq_true rfl) (fun w1 hw1 => ?_)
          obtain ⟨u3, c3, hP3, hk3, rfl⟩ := hw1
          refine e_incC2 (pc := 61) dX4_isSum_61 (nI_1 i) (Nat.le_of_ble_eq_true rfl) rfl ?_
          refine e_goto (pc := 64) dX4_isSum_64 (t := 12) (by decide) ?_
          exact ih (i + 1) _ _ _ _ _ (by omega) (by rw [show u 2 = xtk1 R from ht] at hP3; exact hP3) (((hkb.trans hk1).trans hk2).trans hk3) (by rw [← hV, if_pos (show xM16 (xtk1 R) = true by rw [← ht, c_34]; decide), if_pos (mc_b1.mp c_51)])
        · skip
          refine e_iconst (v := 0) (pc := 54) dX4_isSum_54 (by decide) ?_
          exact e_zret (pc := 55) dX4_isSum_55 rfl (by rfl) (Nat.le_refl _) (Nat.le_refl _) ⟨by rw [← hV, if_pos (show xM16 (xtk1 R) = true by rw [← ht, c_34]; decide), if_neg (show ¬ ((xterm (xT a) N (xlv (xT a) N 3).1) (ynx (xT a) N R.2.1) o).1 = true by rw [mc_b0.mp c_51]; decide)]; rfl, u2, c2, by rw [← hV, if_pos (show xM16 (xtk1 R) = true by rw [← ht, c_34]; decide), if_neg (show ¬ ((xterm (xT a) N (xlv (xT a) N 3).1) (ynx (xT a) N R.2.1) o).1 = true by rw [mc_b0.mp c_51]; decide)]; exact hP2, (hkb.trans hk1).trans hk2, rfl⟩
theorem sp_x_sum3 {s u m n : Nat → Int32} {a c b d : Nat → List Int32} {q : List (Option Nat)} {h : Nat} {z : mc_W} (hL : xL a) {N : Nat} (hN : s 5 = nI N) (hN1 : N ≤ 160) {R : xR} {o : List Int32} (hP : xPS N R o u c) : mc_T yX4_isSum cX4_isSum 4 (some .boolean) 28 [.ref 6, .int 2] (WW s a q u c h m b n d z) (some (.int (mc_b (xsum (xT a) N (xlv (xT a) N 3).1 R o).1))) (fun w1 => ∃ u1 c1, xPS N (xsum (xT a) N (xlv (xT a) N 3).1 R o).2.1 (xsum (xT a) N (xlv (xT a) N 3).1 R o).2.2 u1 c1 ∧ xPK u u1 c c1 ∧ w1 = (WW s a q u1 c1 h m b n d z)) := by
  refine mc_start (own := RX4) (ini := false) rfl (by decide +kernel) (fun h => by cases h) (Nat.le_of_ble_eq_true rfl) ?_
  show mc_E _ _ _ _ _ [some (.ref 6), some (.int 2), none, none] [] _ _ _
  refine e_aloadn (pc := 0) dX4_isSum_0 rfl ?_
  refine e_iloadn (pc := 1) dX4_isSum_1 rfl ?_
  refine e_cvX (pc := 2) (sp_x_term3 hL hN hN1 hP) dX4_isSum_2 kX4_86 rfl rfl rfl rfl rfl (mc_CR_of (Nat.le_of_ble_eq_true rfl) (Nat.le_of_ble_eq_true rfl) (Nat.le_refl _) (Nat.le_refl _)) (Nat.le_of_ble_eq_true rfl) (fun w1 hw1 => ?_)
  obtain ⟨u1, c1, hP1, hk1, rfl⟩ := hw1
  refine e_if_ne (pc := 5) dX4_isSum_5 (t := 10) (by decide) (fun c_5 => ?_) (fun c_5 => ?_)
  · skip
    refine e_iconst (v := 0) (pc := 10) dX4_isSum_10 (by decide) ?_
    refine e_isn2 (pc := 11) dX4_isSum_11 (Nat.le_of_ble_eq_true rfl) rfl ?_
    have e : xsum (xT a) N (xlv (xT a) N 3).1 R o = xlp (xT a) N (xterm (xT a) N (xlv (xT a) N 3).1) xM16 160 ((xterm (xT a) N (xlv (xT a) N 3).1) R o).2.1 ((xterm (xT a) N (xlv (xT a) N 3).1) R o).2.2 := if_pos (mc_b1.mp c_5)
    rw [e]
    exact lp_x_sum3 hL hN hN1 160 0 _ _ u1 c1 _ (by omega) hP1 hk1 rfl
  · skip
    refine e_iconst (v := 0) (pc := 8) dX4_isSum_8 (by decide) ?_
    exact e_zret (pc := 9) dX4_isSum_9 rfl (by rfl) (Nat.le_refl _) (Nat.le_refl _) (have e : xsum (xT a) N (xlv (xT a) N 3).1 R o = (false, ((xterm (xT a) N (xlv (xT a) N 3).1) R o).2) := if_neg (show ¬ ((xterm (xT a) N (xlv (xT a) N 3).1) R o).1 = true by rw [mc_b0.mp c_5]; decide); ⟨by rw [e]; rfl, u1, c1, by rw [e]; dsimp only; exact hP1, hk1, rfl⟩)
theorem sp_x_not3 {s u m n : Nat → Int32} {a c b d : Nat → List Int32} {q : List (Option Nat)} {h : Nat} {z : mc_W} (hL : xL a) {N : Nat} (hN : s 5 = nI N) (hN1 : N ≤ 160) {R : xR} {o : List Int32} (hP : xPS N R o u c) : mc_T yX4_isNot cX4_isNot 3 (some .boolean) 29 [.ref 6, .int 2] (WW s a q u c h m b n d z) (some (.int (mc_b ((xlv (xT a) N 3).2 R o).1))) (fun w1 => ∃ u1 c1, xPS N ((xlv (xT a) N 3).2 R o).2.1 ((xlv (xT a) N 3).2 R o).2.2 u1 c1 ∧ xPK u u1 c c1 ∧ w1 = (WW s a q u1 c1 h m b n d z)) := by
  refine mc_start (own := RX4) (ini := false) rfl (by decide +kernel) (fun h => by cases h) (Nat.le_of_ble_eq_true rfl) ?_
  show mc_E _ _ _ _ _ [some (.ref 6), some (.int 2), none] [] _ _ _
  have ht := hP.2.2.1
  refine e_aloadn (pc := 0) dX4_isNot_0 rfl ?_
  refine e_get (pc := 1) dX4_isNot_1 fX4_41 rfl rfl ?_
  refine e_bipush (v := -13) (pc := 4) dX4_isNot_4 (by decide) ?_
  refine e_icmp_ne (pc := 6) dX4_isNot_6 (t := 40) (by decide) (fun c_6 => ?_) (fun c_6 => ?_)
  · skip
    refine e_aloadn (pc := 40) dX4_isNot_40 rfl ?_
    refine e_iloadn (pc := 41) dX4_isNot_41 rfl ?_
    refine e_cvX (pc := 42) (sp_x_sum3 hL hN hN1 hP) dX4_isNot_42 kX4_83 rfl rfl rfl rfl rfl (mc_CR_of (Nat.le_of_ble_eq_true rfl) (Nat.le_of_ble_eq_true rfl) (Nat.le_refl _) (Nat.le_refl _)) (Nat.le_of_ble_eq_true rfl) (fun w1 hw1 => ?_)
    obtain ⟨u1, c1, hP1, hk1, rfl⟩ := hw1
    refine e_if_ne (pc := 45) dX4_isNot_45 (t := 50) (by decide) (fun c_45 => ?_) (fun c_45 => ?_)
    · skip
      refine e_aloadn (pc := 50) dX4_isNot_50 rfl ?_
      refine e_get (pc := 51) dX4_isNot_51 fX4_41 rfl rfl ?_
      refine e_isn2 (pc := 54) dX4_isNot_54 (Nat.le_of_ble_eq_true rfl) rfl ?_
      refine e_iloadn (pc := 55) dX4_isNot_55 rfl ?_
      refine e_bipush (v := -14) (pc := 56) dX4_isNot_56 (by decide) ?_
      refine e_icmp_eq (pc := 58) dX4_isNot_58 (t := 67) (by decide) (fun c_58 => ?_) (fun c_58 => ?_)
      · skip
        refine e_aloadn (pc := 67) dX4_isNot_67 rfl ?_
        refine e_cvY (pc := 68) (sp_x_goOnP hL hN hN1 hP1) dX4_isNot_68 kX4_28 rfl rfl rfl rfl rfl (mc_CR_of (Nat.le_of_ble_eq_true rfl) (Nat.le_of_ble_eq_true rfl) (Nat.le_refl _) (Nat.le_refl _)) (Nat.le_of_ble_eq_true rfl) (fun w1 hw1 => ?_)
        obtain ⟨u2, c2, hP2, hk2, rfl⟩ := hw1
        refine e_aloadn (pc := 71) dX4_isNot_71 rfl ?_
        refine e_iloadn (pc := 72) dX4_isNot_72 rfl ?_
        refine e_cvX (pc := 73) (sp_x_sum3 hL hN hN1 hP2) dX4_isNot_73 kX4_83 rfl rfl rfl rfl rfl (mc_CR_of (Nat.le_of_ble_eq_true rfl) (Nat.le_of_ble_eq_true rfl) (Nat.le_refl _) (Nat.le_refl _)) (Nat.le_of_ble_eq_true rfl) (fun w1 hw1 => ?_)
        obtain ⟨u3, c3, hP3, hk3, rfl⟩ := hw1
        refine e_if_ne (pc := 76) dX4_isNot_76 (t := 81) (by decide) (fun c_76 => ?_) (fun c_76 => ?_)
        · skip
          refine e_aloadn (pc := 81) dX4_isNot_81 rfl ?_
          refine e_iloadn (pc := 82) dX4_isNot_82 rfl ?_
          refine e_cvY (pc := 83) (sp_x_putP hP3) dX4_isNot_83 kX4_76 rfl rfl rfl rfl rfl (mc_CR_of (Nat.le_of_ble_eq_true rfl) (Nat.le_of_ble_eq_true rfl) (Nat.le_refl _) (Nat.le_refl _)) (Nat.le_of_ble_eq_true rfl) (fun w1 hw1 => ?_)
          obtain ⟨u4, c4, hP4, hk4, rfl⟩ := hw1
          refine e_iconst (v := 1) (pc := 86) dX4_isNot_86 (by decide) ?_
          exact e_zret (pc := 87) dX4_isNot_87 rfl (by rfl) (Nat.le_refl _) (Nat.le_refl _) (have e : (xlv (xT a) N 3).2 R o = (true, (xsum (xT a) N (xlv (xT a) N 3).1 (ynx (xT a) N (xsum (xT a) N (xlv (xT a) N 3).1 R o).2.1.2.1) (xsum (xT a) N (xlv (xT a) N 3).1 R o).2.2).2.1, xput (xsum (xT a) N (xlv (xT a) N 3).1 (ynx (xT a) N (xsum (xT a) N (xlv (xT a) N 3).1 R o).2.1.2.1) (xsum (xT a) N (xlv (xT a) N 3).1 R o).2.2).2.2 (xtk1 (xsum (xT a) N (xlv (xT a) N 3).1 R o).2.1)) := (by rw [xlv_nS]; simp only [xnot]; rw [if_neg (show ¬ xtk1 R = -13 by rw [← ht]; exact c_6), if_pos (mc_b1.mp c_45), if_pos (show xM14 (xtk1 (xsum (xT a) N (xlv (xT a) N 3).1 R o).2.1) = true by rw [← hP1.2.2.1, c_58]; decide), if_pos (mc_b1.mp c_76)]); ⟨by rw [e]; rfl, u4, c4, (hP1.2.2.1 ▸ hP4 : xPS N (xsum (xT a) N (xlv (xT a) N 3).1 (ynx (xT a) N (xsum (xT a) N (xlv (xT a) N 3).1 R o).2.1.2.1) (xsum (xT a) N (xlv (xT a) N 3).1 R o).2.2).2.1 (xput (xsum (xT a) N (xlv (xT a) N 3).1 (ynx (xT a) N (xsum (xT a) N (xlv (xT a) N 3).1 R o).2.1.2.1) (xsum (xT a) N (xlv (xT a) N 3).1 R o).2.2).2.2 (xtk1 (xsum (xT a) N (xlv (xT a) N 3).1 R o).2.1)) u4 c4) |> (fun t => by rw [e]; dsimp only; exact t), ((hk1.trans hk2).trans hk3).trans hk4, rfl⟩)
        · skip
          refine e_iconst (v := 0) (pc := 79) dX4_isNot_79 (by decide) ?_
          exact e_zret (pc := 80) dX4_isNot_80 rfl (by rfl) (Nat.le_refl _) (Nat.le_refl _) (have e : (xlv (xT a) N 3).2 R o = (false, (xsum (xT a) N (xlv (xT a) N 3).1 (ynx (xT a) N (xsum (xT a) N (xlv (xT a) N 3).1 R o).2.1.2.1) (xsum (xT a) N (xlv (xT a) N 3).1 R o).2.2).2) := (by rw [xlv_nS]; simp only [xnot]; rw [if_neg (show ¬ xtk1 R = -13 by rw [← ht]; exact c_6), if_pos (mc_b1.mp c_45), if_pos (show xM14 (xtk1 (xsum (xT a) N (xlv (xT a) N 3).1 R o).2.1) = true by rw [← hP1.2.2.1, c_58]; decide), if_neg (show ¬ (xsum (xT a) N (xlv (xT a) N 3).1 (ynx (xT a) N (xsum (xT a) N (xlv (xT a) N 3).1 R o).2.1.2.1) (xsum (xT a) N (xlv (xT a) N 3).1 R o).2.2).1 = true by rw [mc_b0.mp c_76]; decide)]); ⟨by rw [e]; rfl, u3, c3, by rw [e]; dsimp only; exact hP3, (hk1.trans hk2).trans hk3, rfl⟩)
      · skip
        refine e_iloadn (pc := 61) dX4_isNot_61 rfl ?_
        refine e_bipush (v := -15) (pc := 62) dX4_isNot_62 (by decide) ?_
        refine e_icmp_ne (pc := 64) dX4_isNot_64 (t := 86) (by decide) (fun c_64 => ?_) (fun c_64 => ?_)
        · skip
          refine e_iconst (v := 1) (pc := 86) dX4_isNot_86 (by decide) ?_
          exact e_zret (pc := 87) dX4_isNot_87 rfl (by rfl) (Nat.le_refl _) (Nat.le_refl _) (have e : (xlv (xT a) N 3).2 R o = (true, (xsum (xT a) N (xlv (xT a) N 3).1 R o).2) := (by rw [xlv_nS]; simp only [xnot]; rw [if_neg (show ¬ xtk1 R = -13 by rw [← ht]; exact c_6), if_pos (mc_b1.mp c_45), if_neg (show ¬ xM14 (xtk1 (xsum (xT a) N (xlv (xT a) N 3).1 R o).2.1) = true by rw [← hP1.2.2.1]; unfold xM14; simp [c_58, c_64])]); ⟨by rw [e]; rfl, u1, c1, by rw [e]; dsimp only; exact hP1, hk1, rfl⟩)
        · skip
          refine e_aloadn (pc := 67) dX4_isNot_67 rfl ?_
          refine e_cvY (pc := 68) (sp_x_goOnP hL hN hN1 hP1) dX4_isNot_68 kX4_28 rfl rfl rfl rfl rfl (mc_CR_of (Nat.le_of_ble_eq_true rfl) (Nat.le_of_ble_eq_true rfl) (Nat.le_refl _) (Nat.le_refl _)) (Nat.le_of_ble_eq_true rfl) (fun w1 hw1 => ?_)
          obtain ⟨u2, c2, hP2, hk2, rfl⟩ := hw1
          refine e_aloadn (pc := 71) dX4_isNot_71 rfl ?_
          refine e_iloadn (pc := 72) dX4_isNot_72 rfl ?_
          refine e_cvX (pc := 73) (sp_x_sum3 hL hN hN1 hP2) dX4_isNot_73 kX4_83 rfl rfl rfl rfl rfl (mc_CR_of (Nat.le_of_ble_eq_true rfl) (Nat.le_of_ble_eq_true rfl) (Nat.le_refl _) (Nat.le_refl _)) (Nat.le_of_ble_eq_true rfl) (fun w1 hw1 => ?_)
          obtain ⟨u3, c3, hP3, hk3, rfl⟩ := hw1
          refine e_if_ne (pc := 76) dX4_isNot_76 (t := 81) (by decide) (fun c_76 => ?_) (fun c_76 => ?_)
          · skip
            refine e_aloadn (pc := 81) dX4_isNot_81 rfl ?_
            refine e_iloadn (pc := 82) dX4_isNot_82 rfl ?_
            refine e_cvY (pc := 83) (sp_x_putP hP3) dX4_isNot_83 kX4_76 rfl rfl rfl rfl rfl (mc_CR_of (Nat.le_of_ble_eq_true rfl) (Nat.le_of_ble_eq_true rfl) (Nat.le_refl _) (Nat.le_refl _)) (Nat.le_of_ble_eq_true rfl) (fun w1 hw1 => ?_)
            obtain ⟨u4, c4, hP4, hk4, rfl⟩ := hw1
            refine e_iconst (v := 1) (pc := 86) dX4_isNot_86 (by decide) ?_
            exact e_zret (pc := 87) dX4_isNot_87 rfl (by rfl) (Nat.le_refl _) (Nat.le_refl _) (have e : (xlv (xT a) N 3).2 R o = (true, (xsum (xT a) N (xlv (xT a) N 3).1 (ynx (xT a) N (xsum (xT a) N (xlv (xT a) N 3).1 R o).2.1.2.1) (xsum (xT a) N (xlv (xT a) N 3).1 R o).2.2).2.1, xput (xsum (xT a) N (xlv (xT a) N 3).1 (ynx (xT a) N (xsum (xT a) N (xlv (xT a) N 3).1 R o).2.1.2.1) (xsum (xT a) N (xlv (xT a) N 3).1 R o).2.2).2.2 (xtk1 (xsum (xT a) N (xlv (xT a) N 3).1 R o).2.1)) := (by rw [xlv_nS]; simp only [xnot]; rw [if_neg (show ¬ xtk1 R = -13 by rw [← ht]; exact c_6), if_pos (mc_b1.mp c_45), if_pos (show xM14 (xtk1 (xsum (xT a) N (xlv (xT a) N 3).1 R o).2.1) = true by rw [← hP1.2.2.1, c_64]; decide), if_pos (mc_b1.mp c_76)]); ⟨by rw [e]; rfl, u4, c4, (hP1.2.2.1 ▸ hP4 : xPS N (xsum (xT a) N (xlv (xT a) N 3).1 (ynx (xT a) N (xsum (xT a) N (xlv (xT a) N 3).1 R o).2.1.2.1) (xsum (xT a) N (xlv (xT a) N 3).1 R o).2.2).2.1 (xput (xsum (xT a) N (xlv (xT a) N 3).1 (ynx (xT a) N (xsum (xT a) N (xlv (xT a) N 3).1 R o).2.1.2.1) (xsum (xT a) N (xlv (xT a) N 3).1 R o).2.2).2.2 (xtk1 (xsum (xT a) N (xlv (xT a) N 3).1 R o).2.1)) u4 c4) |> (fun t => by rw [e]; dsimp only; exact t), ((hk1.trans hk2).trans hk3).trans hk4, rfl⟩)
          · skip
            refine e_iconst (v := 0) (pc := 79) dX4_isNot_79 (by decide) ?_
            exact e_zret (pc := 80) dX4_isNot_80 rfl (by rfl) (Nat.le_refl _) (Nat.le_refl _) (have e : (xlv (xT a) N 3).2 R o = (false, (xsum (xT a) N (xlv (xT a) N 3).1 (ynx (xT a) N (xsum (xT a) N (xlv (xT a) N 3).1 R o).2.1.2.1) (xsum (xT a) N (xlv (xT a) N 3).1 R o).2.2).2) := (by rw [xlv_nS]; simp only [xnot]; rw [if_neg (show ¬ xtk1 R = -13 by rw [← ht]; exact c_6), if_pos (mc_b1.mp c_45), if_pos (show xM14 (xtk1 (xsum (xT a) N (xlv (xT a) N 3).1 R o).2.1) = true by rw [← hP1.2.2.1, c_64]; decide), if_neg (show ¬ (xsum (xT a) N (xlv (xT a) N 3).1 (ynx (xT a) N (xsum (xT a) N (xlv (xT a) N 3).1 R o).2.1.2.1) (xsum (xT a) N (xlv (xT a) N 3).1 R o).2.2).1 = true by rw [mc_b0.mp c_76]; decide)]); ⟨by rw [e]; rfl, u3, c3, by rw [e]; dsimp only; exact hP3, (hk1.trans hk2).trans hk3, rfl⟩)
    · skip
      refine e_iconst (v := 0) (pc := 48) dX4_isNot_48 (by decide) ?_
      exact e_zret (pc := 49) dX4_isNot_49 rfl (by rfl) (Nat.le_refl _) (Nat.le_refl _) (have e : (xlv (xT a) N 3).2 R o = (false, (xsum (xT a) N (xlv (xT a) N 3).1 R o).2) := (by rw [xlv_nS]; simp only [xnot]; rw [if_neg (show ¬ xtk1 R = -13 by rw [← ht]; exact c_6), if_neg (show ¬ (xsum (xT a) N (xlv (xT a) N 3).1 R o).1 = true by rw [mc_b0.mp c_45]; decide)]); ⟨by rw [e]; rfl, u1, c1, by rw [e]; dsimp only; exact hP1, hk1, rfl⟩)
  · skip
    refine e_iloadn (pc := 9) dX4_isNot_9 rfl ?_
    refine e_iconst (v := 5) (pc := 10) dX4_isNot_10 (by decide) ?_
    refine e_icmp_lt (pc := 11) dX4_isNot_11 (t := 16) (by decide) (fun _ => ?_) (fun c_11 => absurd (by decide) c_11)
    refine e_aloadn (pc := 16) dX4_isNot_16 rfl ?_
    refine e_cvY (pc := 17) (sp_x_goOnP hL hN hN1 hP) dX4_isNot_17 kX4_28 rfl rfl rfl rfl rfl (mc_CR_of (Nat.le_of_ble_eq_true rfl) (Nat.le_of_ble_eq_true rfl) (Nat.le_refl _) (Nat.le_refl _)) (Nat.le_of_ble_eq_true rfl) (fun w1 hw1 => ?_)
    obtain ⟨u1, c1, hP1, hk1, rfl⟩ := hw1
    refine e_aloadn (pc := 20) dX4_isNot_20 rfl ?_
    refine e_iloadn (pc := 21) dX4_isNot_21 rfl ?_
    refine e_iconst (v := 1) (pc := 22) dX4_isNot_22 (by decide) ?_
    refine e_iadd (pc := 23) dX4_isNot_23 ?_
    refine e_top (y := 3) (by decide) ?_
    refine e_cvX (pc := 24) (sp_x_not2 hL hN hN1 hP1) dX4_isNot_24 kX4_80 rfl rfl rfl rfl rfl (mc_CR_of (Nat.le_of_ble_eq_true rfl) (Nat.le_of_ble_eq_true rfl) (Nat.le_refl _) (Nat.le_refl _)) (Nat.le_of_ble_eq_true rfl) (fun w1 hw1 => ?_)
    obtain ⟨u2, c2, hP2, hk2, rfl⟩ := hw1
    refine e_if_ne (pc := 27) dX4_isNot_27 (t := 32) (by decide) (fun c_27 => ?_) (fun c_27 => ?_)
    · skip
      refine e_aloadn (pc := 32) dX4_isNot_32 rfl ?_
      refine e_bipush (v := -13) (pc := 33) dX4_isNot_33 (by decide) ?_
      refine e_cvY (pc := 35) (sp_x_putP hP2) dX4_isNot_35 kX4_76 rfl rfl rfl rfl rfl (mc_CR_of (Nat.le_of_ble_eq_true rfl) (Nat.le_of_ble_eq_true rfl) (Nat.le_refl _) (Nat.le_refl _)) (Nat.le_of_ble_eq_true rfl) (fun w1 hw1 => ?_)
      obtain ⟨u3, c3, hP3, hk3, rfl⟩ := hw1
      refine e_iconst (v := 1) (pc := 38) dX4_isNot_38 (by decide) ?_
      exact e_zret (pc := 39) dX4_isNot_39 rfl (by rfl) (Nat.le_refl _) (Nat.le_refl _) (have e : (xlv (xT a) N 3).2 R o = (true, ((xlv (xT a) N 2).2 (ynx (xT a) N R.2.1) o).2.1, xput ((xlv (xT a) N 2).2 (ynx (xT a) N R.2.1) o).2.2 (-13)) := (by rw [xlv_nS]; simp only [xnot]; rw [if_pos (show xtk1 R = -13 by rw [← ht]; exact c_6), if_pos (mc_b1.mp c_27)]); ⟨by rw [e]; rfl, u3, c3, by rw [e]; dsimp only; exact hP3, (hk1.trans hk2).trans hk3, rfl⟩)
    · skip
      refine e_iconst (v := 0) (pc := 30) dX4_isNot_30 (by decide) ?_
      exact e_zret (pc := 31) dX4_isNot_31 rfl (by rfl) (Nat.le_refl _) (Nat.le_refl _) (have e : (xlv (xT a) N 3).2 R o = (false, ((xlv (xT a) N 2).2 (ynx (xT a) N R.2.1) o).2) := (by rw [xlv_nS]; simp only [xnot]; rw [if_pos (show xtk1 R = -13 by rw [← ht]; exact c_6), if_neg (show ¬ ((xlv (xT a) N 2).2 (ynx (xT a) N R.2.1) o).1 = true by rw [mc_b0.mp c_27]; decide)]); ⟨by rw [e]; rfl, u2, c2, by rw [e]; dsimp only; exact hP2, hk1.trans hk2, rfl⟩)
theorem lp_x_and3 {s m n : Nat → Int32} {a b d : Nat → List Int32} {q : List (Option Nat)} {h : Nat} {z : mc_W} (hL : xL a) {N : Nat} (hN : s 5 = nI N) (hN1 : N ≤ 160) {ub : Nat → Int32} {cb : Nat → List Int32} {V : Bool × xR × List Int32} :
    ∀ (f i : Nat) (R : xR) (o : List Int32) (u : Nat → Int32) (c : Nat → List Int32), i + f = 160 → xPS N R o u c → xPK ub u cb c → xlp (xT a) N (xlv (xT a) N 3).2 xM12 f R o = V →
      mc_E RX4 cX4_isAnd 3 (mc_JM (some .boolean) false 30 0 0 (fun r' w' => r' = some (.int (mc_b V.1)) ∧ ∃ u1 c1, xPS N V.2.1 V.2.2 u1 c1 ∧ xPK ub u1 cb c1 ∧ w' = (WW s a q u1 c1 h m b n d z))) 12 [some (.ref 6), some (.int 2), some (.int (nI i))] [] (WW s a q u c h m b n d z) 0 0 := by
  intro f
  induction f with
  | zero =>
    intro i R o u c hi hP hkb hV
    have e : i = 160 := by omega
    subst e
    simp only [xlp] at hV
    subst hV
    refine e_iloadn (pc := 12) dX4_isAnd_12 rfl ?_
    refine e_sipush (v := 160) (pc := 13) dX4_isAnd_13 (by decide) ?_
    refine e_icmp_ge (pc := 16) dX4_isAnd_16 (t := 54) (by decide) (fun _ => ?_) (fun c_16 => absurd (by decide) c_16)
    refine e_iconst (v := 1) (pc := 54) dX4_isAnd_54 (by decide) ?_
    exact e_zret (pc := 55) dX4_isAnd_55 rfl (by rfl) (Nat.le_refl _) (Nat.le_refl _) ⟨rfl, u, c, hP, hkb, rfl⟩
  | succ f ih =>
    intro i R o u c hi hP hkb hV
    simp only [xlp] at hV
    have hi1 : i < 160 := by omega
    have ht := hP.2.2.1
    refine e_iloadn (pc := 12) dX4_isAnd_12 rfl ?_
    refine e_sipush (v := 160) (pc := 13) dX4_isAnd_13 (by decide) ?_
    refine e_icmp_ge (pc := 16) dX4_isAnd_16 (t := 54) (by decide) (fun c_16 => absurd c_16 (nI_ge hi1 (by decide))) (fun _ => ?_)
    refine e_aloadn (pc := 19) dX4_isAnd_19 rfl ?_
    refine e_get (pc := 20) dX4_isAnd_20 fX4_41 rfl rfl ?_
    refine e_bipush (v := -12) (pc := 23) dX4_isAnd_23 (by decide) ?_
    refine e_icmp_ne (pc := 25) dX4_isAnd_25 (t := 54) (by decide) (fun c_25 => ?_) (fun c_25 => ?_)
    · skip
      refine e_iconst (v := 1) (pc := 54) dX4_isAnd_54 (by decide) ?_
      exact e_zret (pc := 55) dX4_isAnd_55 rfl (by rfl) (Nat.le_refl _) (Nat.le_refl _) ⟨by rw [← hV, if_neg (show ¬ xM12 (xtk1 R) = true by rw [← ht]; unfold xM12; simp [c_25])]; rfl, u, c, by rw [← hV, if_neg (show ¬ xM12 (xtk1 R) = true by rw [← ht]; unfold xM12; simp [c_25])]; exact hP, hkb, rfl⟩
    · skip
      refine e_aloadn (pc := 28) dX4_isAnd_28 rfl ?_
      refine e_cvY (pc := 29) (sp_x_goOnP hL hN hN1 hP) dX4_isAnd_29 kX4_28 rfl rfl rfl rfl rfl (mc_CR_of (Nat.le_of_ble_eq_true rfl) (Nat.le_of_ble_eq_true rfl) (Nat.le_refl _) (Nat.le_refl _)) (Nat.le_of_ble_eq_true rfl) (fun w1 hw1 => ?_)
      obtain ⟨u1, c1, hP1, hk1, rfl⟩ := hw1
      refine e_aloadn (pc := 32) dX4_isAnd_32 rfl ?_
      refine e_iloadn (pc := 33) dX4_isAnd_33 rfl ?_
      refine e_cvX (pc := 34) (sp_x_not3 hL hN hN1 hP1) dX4_isAnd_34 kX4_80 rfl rfl rfl rfl rfl (mc_CR_of (Nat.le_of_ble_eq_true rfl) (Nat.le_of_ble_eq_true rfl) (Nat.le_refl _) (Nat.le_refl _)) (Nat.le_of_ble_eq_true rfl) (fun w1 hw1 => ?_)
      obtain ⟨u2, c2, hP2, hk2, rfl⟩ := hw1
      refine e_if_ne (pc := 37) dX4_isAnd_37 (t := 42) (by decide) (fun c_37 => ?_) (fun c_37 => ?_)
      · skip
        refine e_aloadn (pc := 42) dX4_isAnd_42 rfl ?_
        refine e_bipush (v := -12) (pc := 43) dX4_isAnd_43 (by decide) ?_
        refine e_cvY (pc := 45) (sp_x_putP hP2) dX4_isAnd_45 kX4_76 rfl rfl rfl rfl rfl (mc_CR_of (Nat.le_of_ble_eq_true rfl) (Nat.le_of_ble_eq_true rfl) (Nat.le_refl _) (Nat.le_refl _)) (Nat.le_of_ble_eq_true rfl) (fun w1 hw1 => ?_)
        obtain ⟨u3, c3, hP3, hk3, rfl⟩ := hw1
        refine e_incC2 (pc := 48) dX4_isAnd_48 (nI_1 i) (Nat.le_of_ble_eq_true rfl) rfl ?_
        refine e_goto (pc := 51) dX4_isAnd_51 (t := 12) (by decide) ?_
        exact ih (i + 1) _ _ _ _ (by omega) (by rw [show (-12 : Int32) = xtk1 R from by rw [← ht, c_25]] at hP3; exact hP3) (((hkb.trans hk1).trans hk2).trans hk3) (by rw [← hV, if_pos (show xM12 (xtk1 R) = true by rw [← ht, c_25]; decide), if_pos (mc_b1.mp c_37)])
      · skip
        refine e_iconst (v := 0) (pc := 40) dX4_isAnd_40 (by decide) ?_
        exact e_zret (pc := 41) dX4_isAnd_41 rfl (by rfl) (Nat.le_refl _) (Nat.le_refl _) ⟨by rw [← hV, if_pos (show xM12 (xtk1 R) = true by rw [← ht, c_25]; decide), if_neg (show ¬ ((xlv (xT a) N 3).2 (ynx (xT a) N R.2.1) o).1 = true by rw [mc_b0.mp c_37]; decide)]; rfl, u2, c2, by rw [← hV, if_pos (show xM12 (xtk1 R) = true by rw [← ht, c_25]; decide), if_neg (show ¬ ((xlv (xT a) N 3).2 (ynx (xT a) N R.2.1) o).1 = true by rw [mc_b0.mp c_37]; decide)]; exact hP2, (hkb.trans hk1).trans hk2, rfl⟩
theorem sp_x_and3 {s u m n : Nat → Int32} {a c b d : Nat → List Int32} {q : List (Option Nat)} {h : Nat} {z : mc_W} (hL : xL a) {N : Nat} (hN : s 5 = nI N) (hN1 : N ≤ 160) {R : xR} {o : List Int32} (hP : xPS N R o u c) : mc_T yX4_isAnd cX4_isAnd 3 (some .boolean) 30 [.ref 6, .int 2] (WW s a q u c h m b n d z) (some (.int (mc_b (xand (xT a) N (xlv (xT a) N 3).2 R o).1))) (fun w1 => ∃ u1 c1, xPS N (xand (xT a) N (xlv (xT a) N 3).2 R o).2.1 (xand (xT a) N (xlv (xT a) N 3).2 R o).2.2 u1 c1 ∧ xPK u u1 c c1 ∧ w1 = (WW s a q u1 c1 h m b n d z)) := by
  refine mc_start (own := RX4) (ini := false) rfl (by decide +kernel) (fun h => by cases h) (Nat.le_of_ble_eq_true rfl) ?_
  show mc_E _ _ _ _ _ [some (.ref 6), some (.int 2), none] [] _ _ _
  refine e_aloadn (pc := 0) dX4_isAnd_0 rfl ?_
  refine e_iloadn (pc := 1) dX4_isAnd_1 rfl ?_
  refine e_cvX (pc := 2) (sp_x_not3 hL hN hN1 hP) dX4_isAnd_2 kX4_80 rfl rfl rfl rfl rfl (mc_CR_of (Nat.le_of_ble_eq_true rfl) (Nat.le_of_ble_eq_true rfl) (Nat.le_refl _) (Nat.le_refl _)) (Nat.le_of_ble_eq_true rfl) (fun w1 hw1 => ?_)
  obtain ⟨u1, c1, hP1, hk1, rfl⟩ := hw1
  refine e_if_ne (pc := 5) dX4_isAnd_5 (t := 10) (by decide) (fun c_5 => ?_) (fun c_5 => ?_)
  · skip
    refine e_iconst (v := 0) (pc := 10) dX4_isAnd_10 (by decide) ?_
    refine e_isn2 (pc := 11) dX4_isAnd_11 (Nat.le_of_ble_eq_true rfl) rfl ?_
    have e : xand (xT a) N (xlv (xT a) N 3).2 R o = xlp (xT a) N (xlv (xT a) N 3).2 xM12 160 ((xlv (xT a) N 3).2 R o).2.1 ((xlv (xT a) N 3).2 R o).2.2 := if_pos (mc_b1.mp c_5)
    rw [e]
    exact lp_x_and3 hL hN hN1 160 0 _ _ u1 c1 (by omega) hP1 hk1 rfl
  · skip
    refine e_iconst (v := 0) (pc := 8) dX4_isAnd_8 (by decide) ?_
    exact e_zret (pc := 9) dX4_isAnd_9 rfl (by rfl) (Nat.le_refl _) (Nat.le_refl _) (have e : xand (xT a) N (xlv (xT a) N 3).2 R o = (false, ((xlv (xT a) N 3).2 R o).2) := if_neg (show ¬ ((xlv (xT a) N 3).2 R o).1 = true by rw [mc_b0.mp c_5]; decide); ⟨by rw [e]; rfl, u1, c1, by rw [e]; dsimp only; exact hP1, hk1, rfl⟩)
theorem lp_x_E3 {s m n : Nat → Int32} {a b d : Nat → List Int32} {q : List (Option Nat)} {h : Nat} {z : mc_W} (hL : xL a) {N : Nat} (hN : s 5 = nI N) (hN1 : N ≤ 160) {ub : Nat → Int32} {cb : Nat → List Int32} {V : Bool × xR × List Int32} :
    ∀ (f i : Nat) (R : xR) (o : List Int32) (u : Nat → Int32) (c : Nat → List Int32), i + f = 160 → xPS N R o u c → xPK ub u cb c → xlp (xT a) N (xand (xT a) N (xlv (xT a) N 3).2) xM11 f R o = V →
      mc_E RX4 cX4_isE 3 (mc_JM (some .boolean) false 31 0 0 (fun r' w' => r' = some (.int (mc_b V.1)) ∧ ∃ u1 c1, xPS N V.2.1 V.2.2 u1 c1 ∧ xPK ub u1 cb c1 ∧ w' = (WW s a q u1 c1 h m b n d z))) 12 [some (.ref 6), some (.int 2), some (.int (nI i))] [] (WW s a q u c h m b n d z) 0 0 := by
  intro f
  induction f with
  | zero =>
    intro i R o u c hi hP hkb hV
    have e : i = 160 := by omega
    subst e
    simp only [xlp] at hV
    subst hV
    refine e_iloadn (pc := 12) dX4_isE_12 rfl ?_
    refine e_sipush (v := 160) (pc := 13) dX4_isE_13 (by decide) ?_
    refine e_icmp_ge (pc := 16) dX4_isE_16 (t := 54) (by decide) (fun _ => ?_) (fun c_16 => absurd (by decide) c_16)
    refine e_iconst (v := 1) (pc := 54) dX4_isE_54 (by decide) ?_
    exact e_zret (pc := 55) dX4_isE_55 rfl (by rfl) (Nat.le_refl _) (Nat.le_refl _) ⟨rfl, u, c, hP, hkb, rfl⟩
  | succ f ih =>
    intro i R o u c hi hP hkb hV
    simp only [xlp] at hV
    have hi1 : i < 160 := by omega
    have ht := hP.2.2.1
    refine e_iloadn (pc := 12) dX4_isE_12 rfl ?_
    refine e_sipush (v := 160) (pc := 13) dX4_isE_13 (by decide) ?_
    refine e_icmp_ge (pc := 16) dX4_isE_16 (t := 54) (by decide) (fun c_16 => absurd c_16 (nI_ge hi1 (by decide))) (fun _ => ?_)
    refine e_aloadn (pc := 19) dX4_isE_19 rfl ?_
    refine e_get (pc := 20) dX4_isE_20 fX4_41 rfl rfl ?_
    refine e_bipush (v := -11) (pc := 23) dX4_isE_23 (by decide) ?_
    refine e_icmp_ne (pc := 25) dX4_isE_25 (t := 54) (by decide) (fun c_25 => ?_) (fun c_25 => ?_)
    · skip
      refine e_iconst (v := 1) (pc := 54) dX4_isE_54 (by decide) ?_
      exact e_zret (pc := 55) dX4_isE_55 rfl (by rfl) (Nat.le_refl _) (Nat.le_refl _) ⟨by rw [← hV, if_neg (show ¬ xM11 (xtk1 R) = true by rw [← ht]; unfold xM11; simp [c_25])]; rfl, u, c, by rw [← hV, if_neg (show ¬ xM11 (xtk1 R) = true by rw [← ht]; unfold xM11; simp [c_25])]; exact hP, hkb, rfl⟩
    · skip
      refine e_aloadn (pc := 28) dX4_isE_28 rfl ?_
      refine e_cvY (pc := 29) (sp_x_goOnP hL hN hN1 hP) dX4_isE_29 kX4_28 rfl rfl rfl rfl rfl (mc_CR_of (Nat.le_of_ble_eq_true rfl) (Nat.le_of_ble_eq_true rfl) (Nat.le_refl _) (Nat.le_refl _)) (Nat.le_of_ble_eq_true rfl) (fun w1 hw1 => ?_)
      obtain ⟨u1, c1, hP1, hk1, rfl⟩ := hw1
      refine e_aloadn (pc := 32) dX4_isE_32 rfl ?_
      refine e_iloadn (pc := 33) dX4_isE_33 rfl ?_
      refine e_cvX (pc := 34) (sp_x_and3 hL hN hN1 hP1) dX4_isE_34 kX4_73 rfl rfl rfl rfl rfl (mc_CR_of (Nat.le_of_ble_eq_true rfl) (Nat.le_of_ble_eq_true rfl) (Nat.le_refl _) (Nat.le_refl _)) (Nat.le_of_ble_eq_true rfl) (fun w1 hw1 => ?_)
      obtain ⟨u2, c2, hP2, hk2, rfl⟩ := hw1
      refine e_if_ne (pc := 37) dX4_isE_37 (t := 42) (by decide) (fun c_37 => ?_) (fun c_37 => ?_)
      · skip
        refine e_aloadn (pc := 42) dX4_isE_42 rfl ?_
        refine e_bipush (v := -11) (pc := 43) dX4_isE_43 (by decide) ?_
        refine e_cvY (pc := 45) (sp_x_putP hP2) dX4_isE_45 kX4_76 rfl rfl rfl rfl rfl (mc_CR_of (Nat.le_of_ble_eq_true rfl) (Nat.le_of_ble_eq_true rfl) (Nat.le_refl _) (Nat.le_refl _)) (Nat.le_of_ble_eq_true rfl) (fun w1 hw1 => ?_)
        obtain ⟨u3, c3, hP3, hk3, rfl⟩ := hw1
        refine e_incC2 (pc := 48) dX4_isE_48 (nI_1 i) (Nat.le_of_ble_eq_true rfl) rfl ?_
        refine e_goto (pc := 51) dX4_isE_51 (t := 12) (by decide) ?_
        exact ih (i + 1) _ _ _ _ (by omega) (by rw [show (-11 : Int32) = xtk1 R from by rw [← ht, c_25]] at hP3; exact hP3) (((hkb.trans hk1).trans hk2).trans hk3) (by rw [← hV, if_pos (show xM11 (xtk1 R) = true by rw [← ht, c_25]; decide), if_pos (mc_b1.mp c_37)])
      · skip
        refine e_iconst (v := 0) (pc := 40) dX4_isE_40 (by decide) ?_
        exact e_zret (pc := 41) dX4_isE_41 rfl (by rfl) (Nat.le_refl _) (Nat.le_refl _) ⟨by rw [← hV, if_pos (show xM11 (xtk1 R) = true by rw [← ht, c_25]; decide), if_neg (show ¬ ((xand (xT a) N (xlv (xT a) N 3).2) (ynx (xT a) N R.2.1) o).1 = true by rw [mc_b0.mp c_37]; decide)]; rfl, u2, c2, by rw [← hV, if_pos (show xM11 (xtk1 R) = true by rw [← ht, c_25]; decide), if_neg (show ¬ ((xand (xT a) N (xlv (xT a) N 3).2) (ynx (xT a) N R.2.1) o).1 = true by rw [mc_b0.mp c_37]; decide)]; exact hP2, (hkb.trans hk1).trans hk2, rfl⟩
theorem sp_x_E3 {s u m n : Nat → Int32} {a c b d : Nat → List Int32} {q : List (Option Nat)} {h : Nat} {z : mc_W} (hL : xL a) {N : Nat} (hN : s 5 = nI N) (hN1 : N ≤ 160) {R : xR} {o : List Int32} (hP : xPS N R o u c) : mc_T yX4_isE cX4_isE 3 (some .boolean) 31 [.ref 6, .int 2] (WW s a q u c h m b n d z) (some (.int (mc_b (xE (xT a) N (xlv (xT a) N 3).2 R o).1))) (fun w1 => ∃ u1 c1, xPS N (xE (xT a) N (xlv (xT a) N 3).2 R o).2.1 (xE (xT a) N (xlv (xT a) N 3).2 R o).2.2 u1 c1 ∧ xPK u u1 c c1 ∧ w1 = (WW s a q u1 c1 h m b n d z)) := by
  refine mc_start (own := RX4) (ini := false) rfl (by decide +kernel) (fun h => by cases h) (Nat.le_of_ble_eq_true rfl) ?_
  show mc_E _ _ _ _ _ [some (.ref 6), some (.int 2), none] [] _ _ _
  refine e_aloadn (pc := 0) dX4_isE_0 rfl ?_
  refine e_iloadn (pc := 1) dX4_isE_1 rfl ?_
  refine e_cvX (pc := 2) (sp_x_and3 hL hN hN1 hP) dX4_isE_2 kX4_73 rfl rfl rfl rfl rfl (mc_CR_of (Nat.le_of_ble_eq_true rfl) (Nat.le_of_ble_eq_true rfl) (Nat.le_refl _) (Nat.le_refl _)) (Nat.le_of_ble_eq_true rfl) (fun w1 hw1 => ?_)
  obtain ⟨u1, c1, hP1, hk1, rfl⟩ := hw1
  refine e_if_ne (pc := 5) dX4_isE_5 (t := 10) (by decide) (fun c_5 => ?_) (fun c_5 => ?_)
  · skip
    refine e_iconst (v := 0) (pc := 10) dX4_isE_10 (by decide) ?_
    refine e_isn2 (pc := 11) dX4_isE_11 (Nat.le_of_ble_eq_true rfl) rfl ?_
    have e : xE (xT a) N (xlv (xT a) N 3).2 R o = xlp (xT a) N (xand (xT a) N (xlv (xT a) N 3).2) xM11 160 ((xand (xT a) N (xlv (xT a) N 3).2) R o).2.1 ((xand (xT a) N (xlv (xT a) N 3).2) R o).2.2 := if_pos (mc_b1.mp c_5)
    rw [e]
    exact lp_x_E3 hL hN hN1 160 0 _ _ u1 c1 (by omega) hP1 hk1 rfl
  · skip
    refine e_iconst (v := 0) (pc := 8) dX4_isE_8 (by decide) ?_
    exact e_zret (pc := 9) dX4_isE_9 rfl (by rfl) (Nat.le_refl _) (Nat.le_refl _) (have e : xE (xT a) N (xlv (xT a) N 3).2 R o = (false, ((xand (xT a) N (xlv (xT a) N 3).2) R o).2) := if_neg (show ¬ ((xand (xT a) N (xlv (xT a) N 3).2) R o).1 = true by rw [mc_b0.mp c_5]; decide); ⟨by rw [e]; rfl, u1, c1, by rw [e]; dsimp only; exact hP1, hk1, rfl⟩)
end Zj_6n_x24_3
section Zj_6n_x24_4
theorem sp_x_one4 {s u m n : Nat → Int32} {a c b d : Nat → List Int32} {q : List (Option Nat)} {h : Nat} {z : mc_W} (hL : xL a) {N : Nat} (hN : s 5 = nI N) (hN1 : N ≤ 160) {R : xR} {o : List Int32} (hP : xPS N R o u c) : mc_T yX4_isOne cX4_isOne 2 (some .boolean) 32 [.ref 6, .int 1] (WW s a q u c h m b n d z) (some (.int (mc_b ((xlv (xT a) N 4).1 R o).1))) (fun w1 => ∃ u1 c1, xPS N ((xlv (xT a) N 4).1 R o).2.1 ((xlv (xT a) N 4).1 R o).2.2 u1 c1 ∧ xPK u u1 c c1 ∧ w1 = (WW s a q u1 c1 h m b n d z)) := by
  refine mc_start (own := RX4) (ini := false) rfl (by decide +kernel) (fun h => by cases h) (Nat.le_of_ble_eq_true rfl) ?_
  show mc_E _ _ _ _ _ [some (.ref 6), some (.int 1)] [] _ _ _
  have ht := hP.2.2.1
  refine e_aloadn (pc := 0) dX4_isOne_0 rfl ?_
  refine e_get (pc := 1) dX4_isOne_1 fX4_41 rfl rfl ?_
  refine e_bipush (v := -6) (pc := 4) dX4_isOne_4 (by decide) ?_
  refine e_icmp_lt (pc := 6) dX4_isOne_6 (t := 23) (by decide) (fun c_6 => ?_) (fun c_6 => ?_)
  · skip
    refine e_aloadn (pc := 23) dX4_isOne_23 rfl ?_
    refine e_get (pc := 24) dX4_isOne_24 fX4_41 rfl rfl ?_
    refine e_bipush (v := -17) (pc := 27) dX4_isOne_27 (by decide) ?_
    refine e_icmp_eq (pc := 29) dX4_isOne_29 (t := 41) (by decide) (fun c_29 => ?_) (fun c_29 => ?_)
    · skip
      refine e_iloadn (pc := 41) dX4_isOne_41 rfl ?_
      refine e_iconst (v := 5) (pc := 42) dX4_isOne_42 (by decide) ?_
      refine e_icmp_lt (pc := 43) dX4_isOne_43 (t := 48) (by decide) (fun _ => ?_) (fun c_43 => absurd (by decide) c_43)
      refine e_aloadn (pc := 48) dX4_isOne_48 rfl ?_
      refine e_get (pc := 49) dX4_isOne_49 fX4_41 rfl rfl ?_
      refine e_bipush (v := -20) (pc := 52) dX4_isOne_52 (by decide) ?_
      refine e_icmp_ne (pc := 54) dX4_isOne_54 (t := 88) (by decide) (fun c_54 => ?_) (fun c_54 => ?_)
      · skip
        refine e_aloadn (pc := 88) dX4_isOne_88 rfl ?_
        refine e_cvY (pc := 89) (sp_x_goOnP hL hN hN1 hP) dX4_isOne_89 kX4_28 rfl rfl rfl rfl rfl (mc_CR_of (Nat.le_of_ble_eq_true rfl) (Nat.le_of_ble_eq_true rfl) (Nat.le_refl _) (Nat.le_refl _)) (Nat.le_of_ble_eq_true rfl) (fun w1 hw1 => ?_)
        obtain ⟨u1, c1, hP1, hk1, rfl⟩ := hw1
        refine e_aloadn (pc := 92) dX4_isOne_92 rfl ?_
        refine e_iloadn (pc := 93) dX4_isOne_93 rfl ?_
        refine e_iconst (v := 1) (pc := 94) dX4_isOne_94 (by decide) ?_
        refine e_iadd (pc := 95) dX4_isOne_95 ?_
        refine e_top (y := 2) (by decide) ?_
        refine e_cvX (pc := 96) (sp_x_one3 hL hN hN1 hP1) dX4_isOne_96 kX4_89 rfl rfl rfl rfl rfl (mc_CR_of (Nat.le_of_ble_eq_true rfl) (Nat.le_of_ble_eq_true rfl) (Nat.le_refl _) (Nat.le_refl _)) (Nat.le_of_ble_eq_true rfl) (fun w1 hw1 => ?_)
        obtain ⟨u2, c2, hP2, hk2, rfl⟩ := hw1
        refine e_if_ne (pc := 99) dX4_isOne_99 (t := 104) (by decide) (fun c_99 => ?_) (fun c_99 => ?_)
        · skip
          refine e_aloadn (pc := 104) dX4_isOne_104 rfl ?_
          refine e_bipush (v := -19) (pc := 105) dX4_isOne_105 (by decide) ?_
          refine e_cvY (pc := 107) (sp_x_putP hP2) dX4_isOne_107 kX4_76 rfl rfl rfl rfl rfl (mc_CR_of (Nat.le_of_ble_eq_true rfl) (Nat.le_of_ble_eq_true rfl) (Nat.le_refl _) (Nat.le_refl _)) (Nat.le_of_ble_eq_true rfl) (fun w1 hw1 => ?_)
          obtain ⟨u3, c3, hP3, hk3, rfl⟩ := hw1
          refine e_iconst (v := 1) (pc := 110) dX4_isOne_110 (by decide) ?_
          exact e_zret (pc := 111) dX4_isOne_111 rfl (by rfl) (Nat.le_refl _) (Nat.le_refl _) (have e : (xlv (xT a) N 4).1 R o = (true, ((xlv (xT a) N 3).1 (ynx (xT a) N R.2.1) o).2.1, xput ((xlv (xT a) N 3).1 (ynx (xT a) N R.2.1) o).2.2 (-19)) := (by rw [xlv_oS]; simp only [xone]; rw [if_neg (show ¬ -6 ≤ xtk1 R by rw [← ht]; exact Int32.not_le.mpr c_6), if_neg (show ¬ xtk1 R = -20 by rw [← ht]; exact c_54), if_pos (show xtk1 R = -17 by rw [← ht]; exact c_29), if_pos (mc_b1.mp c_99)]); ⟨by rw [e]; rfl, u3, c3, by rw [e]; dsimp only; exact hP3, (hk1.trans hk2).trans hk3, rfl⟩)
        · skip
          refine e_iconst (v := 0) (pc := 102) dX4_isOne_102 (by decide) ?_
          exact e_zret (pc := 103) dX4_isOne_103 rfl (by rfl) (Nat.le_refl _) (Nat.le_refl _) (have e : (xlv (xT a) N 4).1 R o = (false, ((xlv (xT a) N 3).1 (ynx (xT a) N R.2.1) o).2) := (by rw [xlv_oS]; simp only [xone]; rw [if_neg (show ¬ -6 ≤ xtk1 R by rw [← ht]; exact Int32.not_le.mpr c_6), if_neg (show ¬ xtk1 R = -20 by rw [← ht]; exact c_54), if_pos (show xtk1 R = -17 by rw [← ht]; exact c_29), if_neg (show ¬ ((xlv (xT a) N 3).1 (ynx (xT a) N R.2.1) o).1 = true by rw [mc_b0.mp c_99]; decide)]); ⟨by rw [e]; rfl, u2, c2, by rw [e]; dsimp only; exact hP2, hk1.trans hk2, rfl⟩)
      · skip
        refine e_aloadn (pc := 57) dX4_isOne_57 rfl ?_
        refine e_cvY (pc := 58) (sp_x_goOnP hL hN hN1 hP) dX4_isOne_58 kX4_28 rfl rfl rfl rfl rfl (mc_CR_of (Nat.le_of_ble_eq_true rfl) (Nat.le_of_ble_eq_true rfl) (Nat.le_refl _) (Nat.le_refl _)) (Nat.le_of_ble_eq_true rfl) (fun w1 hw1 => ?_)
        obtain ⟨u1, c1, hP1, hk1, rfl⟩ := hw1
        refine e_aloadn (pc := 61) dX4_isOne_61 rfl ?_
        refine e_iloadn (pc := 62) dX4_isOne_62 rfl ?_
        refine e_iconst (v := 1) (pc := 63) dX4_isOne_63 (by decide) ?_
        refine e_iadd (pc := 64) dX4_isOne_64 ?_
        refine e_top (y := 2) (by decide) ?_
        refine e_cvX (pc := 65) (sp_x_E3 hL hN hN1 hP1) dX4_isOne_65 kX4_70 rfl rfl rfl rfl rfl (mc_CR_of (Nat.le_of_ble_eq_true rfl) (Nat.le_of_ble_eq_true rfl) (Nat.le_refl _) (Nat.le_refl _)) (Nat.le_of_ble_eq_true rfl) (fun w1 hw1 => ?_)
        obtain ⟨u2, c2, hP2, hk2, rfl⟩ := hw1
        refine e_if_eq (pc := 68) dX4_isOne_68 (t := 80) (by decide) (fun c_68 => ?_) (fun c_68 => ?_)
        · skip
          refine e_iconst (v := 0) (pc := 80) dX4_isOne_80 (by decide) ?_
          exact e_zret (pc := 81) dX4_isOne_81 rfl (by rfl) (Nat.le_refl _) (Nat.le_refl _) (have e : (xlv (xT a) N 4).1 R o = (false, (xE (xT a) N (xlv (xT a) N 3).2 (ynx (xT a) N R.2.1) o).2) := (by rw [xlv_oS]; simp only [xone]; rw [if_neg (show ¬ -6 ≤ xtk1 R by rw [← ht]; exact Int32.not_le.mpr c_6), if_pos (show xtk1 R = -20 by rw [← ht]; exact c_54), if_neg (show ¬ (xE (xT a) N (xlv (xT a) N 3).2 (ynx (xT a) N R.2.1) o).1 = true by rw [mc_b0.mp c_68]; decide)]); ⟨by rw [e]; rfl, u2, c2, by rw [e]; dsimp only; exact hP2, hk1.trans hk2, rfl⟩)
        · skip
          refine e_aloadn (pc := 71) dX4_isOne_71 rfl ?_
          refine e_get (pc := 72) dX4_isOne_72 fX4_41 rfl rfl ?_
          refine e_bipush (v := -21) (pc := 75) dX4_isOne_75 (by decide) ?_
          refine e_icmp_eq (pc := 77) dX4_isOne_77 (t := 82) (by decide) (fun c_77 => ?_) (fun c_77 => ?_)
          · skip
            refine e_aloadn (pc := 82) dX4_isOne_82 rfl ?_
            refine e_cvY (pc := 83) (sp_x_goOnP hL hN hN1 hP2) dX4_isOne_83 kX4_28 rfl rfl rfl rfl rfl (mc_CR_of (Nat.le_of_ble_eq_true rfl) (Nat.le_of_ble_eq_true rfl) (Nat.le_refl _) (Nat.le_refl _)) (Nat.le_of_ble_eq_true rfl) (fun w1 hw1 => ?_)
            obtain ⟨u3, c3, hP3, hk3, rfl⟩ := hw1
            refine e_iconst (v := 1) (pc := 86) dX4_isOne_86 (by decide) ?_
            exact e_zret (pc := 87) dX4_isOne_87 rfl (by rfl) (Nat.le_refl _) (Nat.le_refl _) (have e : (xlv (xT a) N 4).1 R o = (true, ynx (xT a) N (xE (xT a) N (xlv (xT a) N 3).2 (ynx (xT a) N R.2.1) o).2.1.2.1, (xE (xT a) N (xlv (xT a) N 3).2 (ynx (xT a) N R.2.1) o).2.2) := (by rw [xlv_oS]; simp only [xone]; rw [if_neg (show ¬ -6 ≤ xtk1 R by rw [← ht]; exact Int32.not_le.mpr c_6), if_pos (show xtk1 R = -20 by rw [← ht]; exact c_54), if_pos (mc_b1.mp c_68), if_pos (show xtk1 (xE (xT a) N (xlv (xT a) N 3).2 (ynx (xT a) N R.2.1) o).2.1 = -21 by rw [← hP2.2.2.1]; exact c_77)]); ⟨by rw [e]; rfl, u3, c3, by rw [e]; dsimp only; exact hP3, (hk1.trans hk2).trans hk3, rfl⟩)
          · skip
            refine e_iconst (v := 0) (pc := 80) dX4_isOne_80 (by decide) ?_
            exact e_zret (pc := 81) dX4_isOne_81 rfl (by rfl) (Nat.le_refl _) (Nat.le_refl _) (have e : (xlv (xT a) N 4).1 R o = (false, (xE (xT a) N (xlv (xT a) N 3).2 (ynx (xT a) N R.2.1) o).2) := (by rw [xlv_oS]; simp only [xone]; rw [if_neg (show ¬ -6 ≤ xtk1 R by rw [← ht]; exact Int32.not_le.mpr c_6), if_pos (show xtk1 R = -20 by rw [← ht]; exact c_54), if_pos (mc_b1.mp c_68), if_neg (show ¬ xtk1 (xE (xT a) N (xlv (xT a) N 3).2 (ynx (xT a) N R.2.1) o).2.1 = -21 by rw [← hP2.2.2.1]; exact c_77)]); ⟨by rw [e]; rfl, u2, c2, by rw [e]; dsimp only; exact hP2, hk1.trans hk2, rfl⟩)
    · skip
      refine e_aloadn (pc := 32) dX4_isOne_32 rfl ?_
      refine e_get (pc := 33) dX4_isOne_33 fX4_41 rfl rfl ?_
      refine e_bipush (v := -20) (pc := 36) dX4_isOne_36 (by decide) ?_
      refine e_icmp_ne (pc := 38) dX4_isOne_38 (t := 46) (by decide) (fun c_38 => ?_) (fun c_38 => ?_)
      · skip
        refine e_iconst (v := 0) (pc := 46) dX4_isOne_46 (by decide) ?_
        exact e_zret (pc := 47) dX4_isOne_47 rfl (by rfl) (Nat.le_refl _) (Nat.le_refl _) (have e : (xlv (xT a) N 4).1 R o = (false, R, o) := (by rw [xlv_oS]; simp only [xone]; rw [if_neg (show ¬ -6 ≤ xtk1 R by rw [← ht]; exact Int32.not_le.mpr c_6), if_neg (show ¬ xtk1 R = -20 by rw [← ht]; exact c_38), if_neg (show ¬ xtk1 R = -17 by rw [← ht]; exact c_29)]); ⟨by rw [e]; rfl, u, c, by rw [e]; dsimp only; exact hP, xPK_refl u c, rfl⟩)
      · skip
        refine e_iloadn (pc := 41) dX4_isOne_41 rfl ?_
        refine e_iconst (v := 5) (pc := 42) dX4_isOne_42 (by decide) ?_
        refine e_icmp_lt (pc := 43) dX4_isOne_43 (t := 48) (by decide) (fun _ => ?_) (fun c_43 => absurd (by decide) c_43)
        refine e_aloadn (pc := 48) dX4_isOne_48 rfl ?_
        refine e_get (pc := 49) dX4_isOne_49 fX4_41 rfl rfl ?_
        refine e_bipush (v := -20) (pc := 52) dX4_isOne_52 (by decide) ?_
        refine e_icmp_ne (pc := 54) dX4_isOne_54 (t := 88) (by decide) (fun c_54 => ?_) (fun c_54 => ?_)
        · skip
          refine e_aloadn (pc := 88) dX4_isOne_88 rfl ?_
          refine e_cvY (pc := 89) (sp_x_goOnP hL hN hN1 hP) dX4_isOne_89 kX4_28 rfl rfl rfl rfl rfl (mc_CR_of (Nat.le_of_ble_eq_true rfl) (Nat.le_of_ble_eq_true rfl) (Nat.le_refl _) (Nat.le_refl _)) (Nat.le_of_ble_eq_true rfl) (fun w1 hw1 => ?_)
          obtain ⟨u1, c1, hP1, hk1, rfl⟩ := hw1
          refine e_aloadn (pc := 92) dX4_isOne_92 rfl ?_
          refine e_iloadn (pc := 93) dX4_isOne_93 rfl ?_
          refine e_iconst (v := 1) (pc := 94) dX4_isOne_94 (by decide) ?_
          refine e_iadd (pc := 95) dX4_isOne_95 ?_
          refine e_top (y := 2) (by decide) ?_
          refine e_cvX (pc := 96) (sp_x_one3 hL hN hN1 hP1) dX4_isOne_96 kX4_89 rfl rfl rfl rfl rfl (mc_CR_of (Nat.le_of_ble_eq_true rfl) (Nat.le_of_ble_eq_true rfl) (Nat.le_refl _) (Nat.le_refl _)) (Nat.le_of_ble_eq_true rfl) (fun w1 hw1 => ?_)
          obtain ⟨u2, c2, hP2, hk2, rfl⟩ := hw1
          refine e_if_ne (pc := 99) dX4_isOne_99 (t := 104) (by decide) (fun c_99 => ?_) (fun c_99 => ?_)
          · skip
            refine e_aloadn (pc := 104) dX4_isOne_104 rfl ?_
            refine e_bipush (v := -19) (pc := 105) dX4_isOne_105 (by decide) ?_
            refine e_cvY (pc := 107) (sp_x_putP hP2) dX4_isOne_107 kX4_76 rfl rfl rfl rfl rfl (mc_CR_of (Nat.le_of_ble_eq_true rfl) (Nat.le_of_ble_eq_true rfl) (Nat.le_refl _) (Nat.le_refl _)) (Nat.le_of_ble_eq_true rfl) (fun w1 hw1 => ?_)
            obtain ⟨u3, c3, hP3, hk3, rfl⟩ := hw1
            refine e_iconst (v := 1) (pc := 110) dX4_isOne_110 (by decide) ?_
            exact e_zret (pc := 111) dX4_isOne_111 rfl (by rfl) (Nat.le_refl _) (Nat.le_refl _) (have e : (xlv (xT a) N 4).1 R o = (true, ((xlv (xT a) N 3).1 (ynx (xT a) N R.2.1) o).2.1, xput ((xlv (xT a) N 3).1 (ynx (xT a) N R.2.1) o).2.2 (-19)) := (by rw [xlv_oS]; simp only [xone]; rw [if_neg (show ¬ -6 ≤ xtk1 R by rw [← ht]; exact Int32.not_le.mpr c_6), if_neg (show ¬ xtk1 R = -20 by rw [← ht]; exact c_54), if_pos (show xtk1 R = -17 from absurd (show u 2 = -20 from c_38) c_54), if_pos (mc_b1.mp c_99)]); ⟨by rw [e]; rfl, u3, c3, by rw [e]; dsimp only; exact hP3, (hk1.trans hk2).trans hk3, rfl⟩)
          · skip
            refine e_iconst (v := 0) (pc := 102) dX4_isOne_102 (by decide) ?_
            exact e_zret (pc := 103) dX4_isOne_103 rfl (by rfl) (Nat.le_refl _) (Nat.le_refl _) (have e : (xlv (xT a) N 4).1 R o = (false, ((xlv (xT a) N 3).1 (ynx (xT a) N R.2.1) o).2) := (by rw [xlv_oS]; simp only [xone]; rw [if_neg (show ¬ -6 ≤ xtk1 R by rw [← ht]; exact Int32.not_le.mpr c_6), if_neg (show ¬ xtk1 R = -20 by rw [← ht]; exact c_54), if_pos (show xtk1 R = -17 from absurd (show u 2 = -20 from c_38) c_54), if_neg (show ¬ ((xlv (xT a) N 3).1 (ynx (xT a) N R.2.1) o).1 = true by rw [mc_b0.mp c_99]; decide)]); ⟨by rw [e]; rfl, u2, c2, by rw [e]; dsimp only; exact hP2, hk1.trans hk2, rfl⟩)
        · skip
          refine e_aloadn (pc := 57) dX4_isOne_57 rfl ?_
          refine e_cvY (pc := 58) (sp_x_goOnP hL hN hN1 hP) dX4_isOne_58 kX4_28 rfl rfl rfl rfl rfl (mc_CR_of (Nat.le_of_ble_eq_true rfl) (Nat.le_of_ble_eq_true rfl) (Nat.le_refl _) (Nat.le_refl _)) (Nat.le_of_ble_eq_true rfl) (fun w1 hw1 => ?_)
          obtain ⟨u1, c1, hP1, hk1, rfl⟩ := hw1
          refine e_aloadn (pc := 61) dX4_isOne_61 rfl ?_
          refine e_iloadn (pc := 62) dX4_isOne_62 rfl ?_
          refine e_iconst (v := 1) (pc := 63) dX4_isOne_63 (by decide) ?_
          refine e_iadd (pc := 64) dX4_isOne_64 ?_
          refine e_top (y := 2) (by decide) ?_
          refine e_cvX (pc := 65) (sp_x_E3 hL hN hN1 hP1) dX4_isOne_65 kX4_70 rfl rfl rfl rfl rfl (mc_CR_of (Nat.le_of_ble_eq_true rfl) (Nat.le_of_ble_eq_true rfl) (Nat.le_refl _) (Nat.le_refl _)) (Nat.le_of_ble_eq_true rfl) (fun w1 hw1 => ?_)
          obtain ⟨u2, c2, hP2, hk2, rfl⟩ := hw1
          refine e_if_eq (pc := 68) dX4_isOne_68 (t := 80) (by decide) (fun c_68 => ?_) (fun c_68 => ?_)
          · skip
            refine e_iconst (v := 0) (pc := 80) dX4_isOne_80 (by decide) ?_
            exact e_zret (pc := 81) dX4_isOne_81 rfl (by rfl) (Nat.le_refl _) (Nat.le_refl _) (have e : (xlv (xT a) N 4).1 R o = (false, (xE (xT a) N (xlv (xT a) N 3).2 (ynx (xT a) N R.2.1) o).2) := (by rw [xlv_oS]; simp only [xone]; rw [if_neg (show ¬ -6 ≤ xtk1 R by rw [← ht]; exact Int32.not_le.mpr c_6), if_pos (show xtk1 R = -20 by rw [← ht]; exact c_54), if_neg (show ¬ (xE (xT a) N (xlv (xT a) N 3).2 (ynx (xT a) N R.2.1) o).1 = true by rw [mc_b0.mp c_68]; decide)]); ⟨by rw [e]; rfl, u2, c2, by rw [e]; dsimp only; exact hP2, hk1.trans hk2, rfl⟩)
          · skip
            refine e_aloadn (pc := 71) dX4_isOne_71 rfl ?_
            refine e_get (pc := 72) dX4_isOne_72 fX4_41 rfl rfl ?_
            refine e_bipush (v := -21) (pc := 75) dX4_isOne_75 (by decide) ?_
            refine e_icmp_eq (pc := 77) dX4_isOne_77 (t := 82) (by decide) (fun c_77 => ?_) (fun c_77 => ?_)
            · skip
              refine e_aloadn (pc := 82) dX4_isOne_82 rfl ?_
              refine e_cvY (pc := 83) (sp_x_goOnP hL hN hN1 hP2) dX4_isOne_83 kX4_28 rfl rfl rfl rfl rfl (mc_CR_of (Nat.le_of_ble_eq_true rfl) (Nat.le_of_ble_eq_true rfl) (Nat.le_refl _) (Nat.le_refl _)) (Nat.le_of_ble_eq_true rfl) (fun w1 hw1 => ?_)
              obtain ⟨u3, c3, hP3, hk3, rfl⟩ := hw1
              refine e_iconst (v := 1) (pc := 86) dX4_isOne_86 (by decide) ?_
              exact e_zret (pc := 87) dX4_isOne_87 rfl (by rfl) (Nat.le_refl _) (Nat.le_refl _) (have e : (xlv (xT a) N 4).1 R o = (true, ynx (xT a) N (xE (xT a) N (xlv (xT a) N 3).2 (ynx (xT a) N R.2.1) o).2.1.2.1, (xE (xT a) N (xlv (xT a) N 3).2 (ynx (xT a) N R.2.1) o).2.2) := (by rw [xlv_oS]; simp only [xone]; rw [if_neg (show ¬ -6 ≤ xtk1 R by rw [← ht]; exact Int32.not_le.mpr c_6), if_pos (show xtk1 R = -20 by rw [← ht]; exact c_54), if_pos (mc_b1.mp c_68), if_pos (show xtk1 (xE (xT a) N (xlv (xT a) N 3).2 (ynx (xT a) N R.2.1) o).2.1 = -21 by rw [← hP2.2.2.1]; exact c_77)]); ⟨by rw [e]; rfl, u3, c3, by rw [e]; dsimp only; exact hP3, (hk1.trans hk2).trans hk3, rfl⟩)
            · skip
              refine e_iconst (v := 0) (pc := 80) dX4_isOne_80 (by decide) ?_
              exact e_zret (pc := 81) dX4_isOne_81 rfl (by rfl) (Nat.le_refl _) (Nat.le_refl _) (have e : (xlv (xT a) N 4).1 R o = (false, (xE (xT a) N (xlv (xT a) N 3).2 (ynx (xT a) N R.2.1) o).2) := (by rw [xlv_oS]; simp only [xone]; rw [if_neg (show ¬ -6 ≤ xtk1 R by rw [← ht]; exact Int32.not_le.mpr c_6), if_pos (show xtk1 R = -20 by rw [← ht]; exact c_54), if_pos (mc_b1.mp c_68), if_neg (show ¬ xtk1 (xE (xT a) N (xlv (xT a) N 3).2 (ynx (xT a) N R.2.1) o).2.1 = -21 by rw [← hP2.2.2.1]; exact c_77)]); ⟨by rw [e]; rfl, u2, c2, by rw [e]; dsimp only; exact hP2, hk1.trans hk2, rfl⟩)
  · skip
    refine e_aloadn (pc := 9) dX4_isOne_9 rfl ?_
    refine e_aloadn (pc := 10) dX4_isOne_10 rfl ?_
    refine e_get (pc := 11) dX4_isOne_11 fX4_41 rfl rfl ?_
    refine e_cvY (pc := 14) (sp_x_putP hP) dX4_isOne_14 kX4_76 rfl rfl rfl rfl rfl (mc_CR_of (Nat.le_of_ble_eq_true rfl) (Nat.le_of_ble_eq_true rfl) (Nat.le_refl _) (Nat.le_refl _)) (Nat.le_of_ble_eq_true rfl) (fun w1 hw1 => ?_)
    obtain ⟨u1, c1, hP1, hk1, rfl⟩ := hw1
    rw [ht] at hP1
    refine e_aloadn (pc := 17) dX4_isOne_17 rfl ?_
    refine e_cvY (pc := 18) (sp_x_goOnP hL hN hN1 hP1) dX4_isOne_18 kX4_28 rfl rfl rfl rfl rfl (mc_CR_of (Nat.le_of_ble_eq_true rfl) (Nat.le_of_ble_eq_true rfl) (Nat.le_refl _) (Nat.le_refl _)) (Nat.le_of_ble_eq_true rfl) (fun w1 hw1 => ?_)
    obtain ⟨u2, c2, hP2, hk2, rfl⟩ := hw1
    refine e_iconst (v := 1) (pc := 21) dX4_isOne_21 (by decide) ?_
    exact e_zret (pc := 22) dX4_isOne_22 rfl (by rfl) (Nat.le_refl _) (Nat.le_refl _) (have e : (xlv (xT a) N 4).1 R o = (true, ynx (xT a) N R.2.1, xput o (xtk1 R)) := (by rw [xlv_oS]; unfold xone; rw [if_pos (show -6 ≤ xtk1 R by rw [← ht]; exact Int32.not_lt.mp c_6)]); ⟨by rw [e]; rfl, u2, c2, by rw [e]; dsimp only; exact hP2, hk1.trans hk2, rfl⟩)
theorem lp_x_term4 {s m n : Nat → Int32} {a b d : Nat → List Int32} {q : List (Option Nat)} {h : Nat} {z : mc_W} (hL : xL a) {N : Nat} (hN : s 5 = nI N) (hN1 : N ≤ 160) {ub : Nat → Int32} {cb : Nat → List Int32} {V : Bool × xR × List Int32} :
    ∀ (f i : Nat) (R : xR) (o : List Int32) (u : Nat → Int32) (c : Nat → List Int32), i + f = 160 → xPS N R o u c → xPK ub u cb c → xlp (xT a) N (xlv (xT a) N 4).1 xM18 f R o = V →
      mc_E RX4 cX4_isTerm 3 (mc_JM (some .boolean) false 33 0 0 (fun r' w' => r' = some (.int (mc_b V.1)) ∧ ∃ u1 c1, xPS N V.2.1 V.2.2 u1 c1 ∧ xPK ub u1 cb c1 ∧ w' = (WW s a q u1 c1 h m b n d z))) 12 [some (.ref 6), some (.int 1), some (.int (nI i))] [] (WW s a q u c h m b n d z) 0 0 := by
  intro f
  induction f with
  | zero =>
    intro i R o u c hi hP hkb hV
    have e : i = 160 := by omega
    subst e
    simp only [xlp] at hV
    subst hV
    refine e_iloadn (pc := 12) dX4_isTerm_12 rfl ?_
    refine e_sipush (v := 160) (pc := 13) dX4_isTerm_13 (by decide) ?_
    refine e_icmp_ge (pc := 16) dX4_isTerm_16 (t := 54) (by decide) (fun _ => ?_) (fun c_16 => absurd (by decide) c_16)
    refine e_iconst (v := 1) (pc := 54) dX4_isTerm_54 (by decide) ?_
    exact e_zret (pc := 55) dX4_isTerm_55 rfl (by rfl) (Nat.le_refl _) (Nat.le_refl _) ⟨rfl, u, c, hP, hkb, rfl⟩
  | succ f ih =>
    intro i R o u c hi hP hkb hV
    simp only [xlp] at hV
    have hi1 : i < 160 := by omega
    have ht := hP.2.2.1
    refine e_iloadn (pc := 12) dX4_isTerm_12 rfl ?_
    refine e_sipush (v := 160) (pc := 13) dX4_isTerm_13 (by decide) ?_
    refine e_icmp_ge (pc := 16) dX4_isTerm_16 (t := 54) (by decide) (fun c_16 => absurd c_16 (nI_ge hi1 (by decide))) (fun _ => ?_)
    refine e_aloadn (pc := 19) dX4_isTerm_19 rfl ?_
    refine e_get (pc := 20) dX4_isTerm_20 fX4_41 rfl rfl ?_
    refine e_bipush (v := -18) (pc := 23) dX4_isTerm_23 (by decide) ?_
    refine e_icmp_ne (pc := 25) dX4_isTerm_25 (t := 54) (by decide) (fun c_25 => ?_) (fun c_25 => ?_)
    · skip
      refine e_iconst (v := 1) (pc := 54) dX4_isTerm_54 (by decide) ?_
      exact e_zret (pc := 55) dX4_isTerm_55 rfl (by rfl) (Nat.le_refl _) (Nat.le_refl _) ⟨by rw [← hV, if_neg (show ¬ xM18 (xtk1 R) = true by rw [← ht]; unfold xM18; simp [c_25])]; rfl, u, c, by rw [← hV, if_neg (show ¬ xM18 (xtk1 R) = true by rw [← ht]; unfold xM18; simp [c_25])]; exact hP, hkb, rfl⟩
    · skip
      refine e_aloadn (pc := 28) dX4_isTerm_28 rfl ?_
      refine e_cvY (pc := 29) (sp_x_goOnP hL hN hN1 hP) dX4_isTerm_29 kX4_28 rfl rfl rfl rfl rfl (mc_CR_of (Nat.le_of_ble_eq_true rfl) (Nat.le_of_ble_eq_true rfl) (Nat.le_refl _) (Nat.le_refl _)) (Nat.le_of_ble_eq_true rfl) (fun w1 hw1 => ?_)
      obtain ⟨u1, c1, hP1, hk1, rfl⟩ := hw1
      refine e_aloadn (pc := 32) dX4_isTerm_32 rfl ?_
      refine e_iloadn (pc := 33) dX4_isTerm_33 rfl ?_
      refine e_cvX (pc := 34) (sp_x_one4 hL hN hN1 hP1) dX4_isTerm_34 kX4_89 rfl rfl rfl rfl rfl (mc_CR_of (Nat.le_of_ble_eq_true rfl) (Nat.le_of_ble_eq_true rfl) (Nat.le_refl _) (Nat.le_refl _)) (Nat.le_of_ble_eq_true rfl) (fun w1 hw1 => ?_)
      obtain ⟨u2, c2, hP2, hk2, rfl⟩ := hw1
      refine e_if_ne (pc := 37) dX4_isTerm_37 (t := 42) (by decide) (fun c_37 => ?_) (fun c_37 => ?_)
      · skip
        refine e_aloadn (pc := 42) dX4_isTerm_42 rfl ?_
        refine e_bipush (v := -18) (pc := 43) dX4_isTerm_43 (by decide) ?_
        refine e_cvY (pc := 45) (sp_x_putP hP2) dX4_isTerm_45 kX4_76 rfl rfl rfl rfl rfl (mc_CR_of (Nat.le_of_ble_eq_true rfl) (Nat.le_of_ble_eq_true rfl) (Nat.le_refl _) (Nat.le_refl _)) (Nat.le_of_ble_eq_true rfl) (fun w1 hw1 => ?_)
        obtain ⟨u3, c3, hP3, hk3, rfl⟩ := hw1
        refine e_incC2 (pc := 48) dX4_isTerm_48 (nI_1 i) (Nat.le_of_ble_eq_true rfl) rfl ?_
        refine e_goto (pc := 51) dX4_isTerm_51 (t := 12) (by decide) ?_
        exact ih (i + 1) _ _ _ _ (by omega) (by rw [show (-18 : Int32) = xtk1 R from by rw [← ht, c_25]] at hP3; exact hP3) (((hkb.trans hk1).trans hk2).trans hk3) (by rw [← hV, if_pos (show xM18 (xtk1 R) = true by rw [← ht, c_25]; decide), if_pos (mc_b1.mp c_37)])
      · skip
        refine e_iconst (v := 0) (pc := 40) dX4_isTerm_40 (by decide) ?_
        exact e_zret (pc := 41) dX4_isTerm_41 rfl (by rfl) (Nat.le_refl _) (Nat.le_refl _) ⟨by rw [← hV, if_pos (show xM18 (xtk1 R) = true by rw [← ht, c_25]; decide), if_neg (show ¬ ((xlv (xT a) N 4).1 (ynx (xT a) N R.2.1) o).1 = true by rw [mc_b0.mp c_37]; decide)]; rfl, u2, c2, by rw [← hV, if_pos (show xM18 (xtk1 R) = true by rw [← ht, c_25]; decide), if_neg (show ¬ ((xlv (xT a) N 4).1 (ynx (xT a) N R.2.1) o).1 = true by rw [mc_b0.mp c_37]; decide)]; exact hP2, (hkb.trans hk1).trans hk2, rfl⟩
theorem sp_x_term4 {s u m n : Nat → Int32} {a c b d : Nat → List Int32} {q : List (Option Nat)} {h : Nat} {z : mc_W} (hL : xL a) {N : Nat} (hN : s 5 = nI N) (hN1 : N ≤ 160) {R : xR} {o : List Int32} (hP : xPS N R o u c) : mc_T yX4_isTerm cX4_isTerm 3 (some .boolean) 33 [.ref 6, .int 1] (WW s a q u c h m b n d z) (some (.int (mc_b (xterm (xT a) N (xlv (xT a) N 4).1 R o).1))) (fun w1 => ∃ u1 c1, xPS N (xterm (xT a) N (xlv (xT a) N 4).1 R o).2.1 (xterm (xT a) N (xlv (xT a) N 4).1 R o).2.2 u1 c1 ∧ xPK u u1 c c1 ∧ w1 = (WW s a q u1 c1 h m b n d z)) := by
  refine mc_start (own := RX4) (ini := false) rfl (by decide +kernel) (fun h => by cases h) (Nat.le_of_ble_eq_true rfl) ?_
  show mc_E _ _ _ _ _ [some (.ref 6), some (.int 1), none] [] _ _ _
  refine e_aloadn (pc := 0) dX4_isTerm_0 rfl ?_
  refine e_iloadn (pc := 1) dX4_isTerm_1 rfl ?_
  refine e_cvX (pc := 2) (sp_x_one4 hL hN hN1 hP) dX4_isTerm_2 kX4_89 rfl rfl rfl rfl rfl (mc_CR_of (Nat.le_of_ble_eq_true rfl) (Nat.le_of_ble_eq_true rfl) (Nat.le_refl _) (Nat.le_refl _)) (Nat.le_of_ble_eq_true rfl) (fun w1 hw1 => ?_)
  obtain ⟨u1, c1, hP1, hk1, rfl⟩ := hw1
  refine e_if_ne (pc := 5) dX4_isTerm_5 (t := 10) (by decide) (fun c_5 => ?_) (fun c_5 => ?_)
  · skip
    refine e_iconst (v := 0) (pc := 10) dX4_isTerm_10 (by decide) ?_
    refine e_isn2 (pc := 11) dX4_isTerm_11 (Nat.le_of_ble_eq_true rfl) rfl ?_
    have e : xterm (xT a) N (xlv (xT a) N 4).1 R o = xlp (xT a) N (xlv (xT a) N 4).1 xM18 160 ((xlv (xT a) N 4).1 R o).2.1 ((xlv (xT a) N 4).1 R o).2.2 := if_pos (mc_b1.mp c_5)
    rw [e]
    exact lp_x_term4 hL hN hN1 160 0 _ _ u1 c1 (by omega) hP1 hk1 rfl
  · skip
    refine e_iconst (v := 0) (pc := 8) dX4_isTerm_8 (by decide) ?_
    exact e_zret (pc := 9) dX4_isTerm_9 rfl (by rfl) (Nat.le_refl _) (Nat.le_refl _) (have e : xterm (xT a) N (xlv (xT a) N 4).1 R o = (false, ((xlv (xT a) N 4).1 R o).2) := if_neg (show ¬ ((xlv (xT a) N 4).1 R o).1 = true by rw [mc_b0.mp c_5]; decide); ⟨by rw [e]; rfl, u1, c1, by rw [e]; dsimp only; exact hP1, hk1, rfl⟩)
theorem lp_x_sum4 {s m n : Nat → Int32} {a b d : Nat → List Int32} {q : List (Option Nat)} {h : Nat} {z : mc_W} (hL : xL a) {N : Nat} (hN : s 5 = nI N) (hN1 : N ≤ 160) {ub : Nat → Int32} {cb : Nat → List Int32} {V : Bool × xR × List Int32} :
    ∀ (f i : Nat) (R : xR) (o : List Int32) (u : Nat → Int32) (c : Nat → List Int32) (x3 : Option Value), i + f = 160 → xPS N R o u c → xPK ub u cb c → xlp (xT a) N (xterm (xT a) N (xlv (xT a) N 4).1) xM16 f R o = V →
      mc_E RX4 cX4_isSum 4 (mc_JM (some .boolean) false 34 0 0 (fun r' w' => r' = some (.int (mc_b V.1)) ∧ ∃ u1 c1, xPS N V.2.1 V.2.2 u1 c1 ∧ xPK ub u1 cb c1 ∧ w' = (WW s a q u1 c1 h m b n d z))) 12 [some (.ref 6), some (.int 1), some (.int (nI i)), x3] [] (WW s a q u c h m b n d z) 0 0 := by
  intro f
  induction f with
  | zero =>
    intro i R o u c x3 hi hP hkb hV
    have e : i = 160 := by omega
    subst e
    simp only [xlp] at hV
    subst hV
    refine e_iloadn (pc := 12) dX4_isSum_12 rfl ?_
    refine e_sipush (v := 160) (pc := 13) dX4_isSum_13 (by decide) ?_
    refine e_icmp_ge (pc := 16) dX4_isSum_16 (t := 67) (by decide) (fun _ => ?_) (fun c_16 => absurd (by decide) c_16)
    refine e_iconst (v := 1) (pc := 67) dX4_isSum_67 (by decide) ?_
    exact e_zret (pc := 68) dX4_isSum_68 rfl (by rfl) (Nat.le_refl _) (Nat.le_refl _) ⟨rfl, u, c, hP, hkb, rfl⟩
  | succ f ih =>
    intro i R o u c x3 hi hP hkb hV
    simp only [xlp] at hV
    have hi1 : i < 160 := by omega
    have ht := hP.2.2.1
    refine e_iloadn (pc := 12) dX4_isSum_12 rfl ?_
    refine e_sipush (v := 160) (pc := 13) dX4_isSum_13 (by decide) ?_
    refine e_icmp_ge (pc := 16) dX4_isSum_16 (t := 67) (by decide) (fun c_16 => absurd c_16 (nI_ge hi1 (by decide))) (fun _ => ?_)
    refine e_aloadn (pc := 19) dX4_isSum_19 rfl ?_
    refine e_get (pc := 20) dX4_isSum_20 fX4_41 rfl rfl ?_
    refine e_bipush (v := -16) (pc := 23) dX4_isSum_23 (by decide) ?_
    refine e_icmp_eq (pc := 25) dX4_isSum_25 (t := 37) (by decide) (fun c_25 => ?_) (fun c_25 => ?_)
    · skip
      refine e_aloadn (pc := 37) dX4_isSum_37 rfl ?_
      refine e_get (pc := 38) dX4_isSum_38 fX4_41 rfl rfl ?_
      refine e_isn3 (pc := 41) dX4_isSum_41 (Nat.le_of_ble_eq_true rfl) rfl ?_
      refine e_aloadn (pc := 42) dX4_isSum_42 rfl ?_
      refine e_cvY (pc := 43) (sp_x_goOnP hL hN hN1 hP) dX4_isSum_43 kX4_28 rfl rfl rfl rfl rfl (mc_CR_of (Nat.le_of_ble_eq_true rfl) (Nat.le_of_ble_eq_true rfl) (Nat.le_refl _) (Nat.le_refl _)) (Nat.le_of_ble_eq_true rfl) (fun w1 hw1 => ?_)
      obtain ⟨u1, c1, hP1, hk1, rfl⟩ := hw1
      refine e_aloadn (pc := 46) dX4_isSum_46 rfl ?_
      refine e_iloadn (pc := 47) dX4_isSum_47 rfl ?_
      refine e_cvX (pc := 48) (sp_x_term4 hL hN hN1 hP1) dX4_isSum_48 kX4_86 rfl rfl rfl rfl rfl (mc_CR_of (Nat.le_of_ble_eq_true rfl) (Nat.le_of_ble_eq_true rfl) (Nat.le_refl _) (Nat.le_refl _)) (Nat.le_of_ble_eq_true rfl) (fun w1 hw1 => ?_)
      obtain ⟨u2, c2, hP2, hk2, rfl⟩ := hw1
      refine e_if_ne (pc := 51) dX4_isSum_51 (t := 56) (by decide) (fun c_51 => ?_) (fun c_51 => ?_)
      · skip
        refine e_aloadn (pc := 56) dX4_isSum_56 rfl ?_
        refine e_iloadn (pc := 57) dX4_isSum_57 rfl ?_
        refine e_cvY (pc := 58) (sp_x_putP hP2) dX4_isSum_58 kX4_76 rfl rfl rfl rfl rfl (mc_CR_of (Nat.le_of_ble_eq_true rfl) (Nat.le_of_ble_eq_true rfl) (Nat.le_refl _) (Nat.le_refl _)) (Nat.le_of_ble_eq_true rfl) (fun w1 hw1 => ?_)
        obtain ⟨u3, c3, hP3, hk3, rfl⟩ := hw1
        refine e_incC2 (pc := 61) dX4_isSum_61 (nI_1 i) (Nat.le_of_ble_eq_true rfl) rfl ?_
        refine e_goto (pc := 64) dX4_isSum_64 (t := 12) (by decide) ?_
        exact ih (i + 1) _ _ _ _ _ (by omega) (by rw [show u 2 = xtk1 R from ht] at hP3; exact hP3) (((hkb.trans hk1).trans hk2).trans hk3) (by rw [← hV, if_pos (show xM16 (xtk1 R) = true by rw [← ht, c_25]; decide), if_pos (mc_b1.mp c_51)])
      · skip
        refine e_iconst (v := 0) (pc := 54) dX4_isSum_54 (by decide) ?_
        exact e_zret (pc := 55) dX4_isSum_55 rfl (by rfl) (Nat.le_refl _) (Nat.le_refl _) ⟨by rw [← hV, if_pos (show xM16 (xtk1 R) = true by rw [← ht, c_25]; decide), if_neg (show ¬ ((xterm (xT a) N (xlv (xT a) N 4).1) (ynx (xT a) N R.2.1) o).1 = true by rw [mc_b0.mp c_51]; decide)]; rfl, u2, c2, by rw [← hV, if_pos (show xM16 (xtk1 R) = true by rw [← ht, c_25]; decide), if_neg (show ¬ ((xterm (xT a) N (xlv (xT a) N 4).1) (ynx (xT a) N R.2.1) o).1 = true by rw [mc_b0.mp c_51]; decide)]; exact hP2, (hkb.trans hk1).trans hk2, rfl⟩
    · skip
      refine e_aloadn (pc := 28) dX4_isSum_28 rfl ?_
      refine e_get (pc := 29) dX4_isSum_29 fX4_41 rfl rfl ?_
      refine e_bipush (v := -17) (pc := 32) dX4_isSum_32 (by decide) ?_
      refine e_icmp_ne (pc := 34) dX4_isSum_34 (t := 67) (by decide) (fun c_34 => ?_) (fun c_34 => ?_)
      · skip
        refine e_iconst (v := 1) (pc := 67) dX4_isSum_67 (by decide) ?_
        exact e_zret (pc := 68) dX4_isSum_68 rfl (by rfl) (Nat.le_refl _) (Nat.le_refl _) ⟨by rw [← hV, if_neg (show ¬ xM16 (xtk1 R) = true by rw [← ht]; unfold xM16; simp [c_25, c_34])]; rfl, u, c, by rw [← hV, if_neg (show ¬ xM16 (xtk1 R) = true by rw [← ht]; unfold xM16; simp [c_25, c_34])]; exact hP, hkb, rfl⟩
      · skip
        refine e_aloadn (pc := 37) dX4_isSum_37 rfl ?_
        refine e_get (pc := 38) dX4_isSum_38 fX4_41 rfl rfl ?_
        refine e_isn3 (pc := 41) dX4_isSum_41 (Nat.le_of_ble_eq_true rfl) rfl ?_
        refine e_aloadn (pc := 42) dX4_isSum_42 rfl ?_
        refine e_cvY (pc := 43) (sp_x_goOnP hL hN hN1 hP) dX4_isSum_43 kX4_28 rfl rfl rfl rfl rfl (mc_CR_of (Nat.le_of_ble_eq_true rfl) (Nat.le_of_ble_eq_true rfl) (Nat.le_refl _) (Nat.le_refl _)) (Nat.le_of_ble_eq_true rfl) (fun w1 hw1 => ?_)
        obtain ⟨u1, c1, hP1, hk1, rfl⟩ := hw1
        refine e_aloadn (pc := 46) dX4_isSum_46 rfl ?_
        refine e_iloadn (pc := 47) dX4_isSum_47 rfl ?_
        refine e_cvX (pc := 48) (sp_x_term4 hL hN hN1 hP1) dX4_isSum_48 kX4_86 rfl rfl rfl rfl rfl (mc_CR_of (Nat.le_of_ble_eq_true rfl) (Nat.le_of_ble_eq_true rfl) (Nat.le_refl _) (Nat.le_refl _)) (Nat.le_of_ble_eq_true rfl) (fun w1 hw1 => ?_)
        obtain ⟨u2, c2, hP2, hk2, rfl⟩ := hw1
        refine e_if_ne (pc := 51) dX4_isSum_51 (t := 56) (by decide) (fun c_51 => ?_) (fun c_51 => ?_)
        · skip
          refine e_aloadn (pc := 56) dX4_isSum_56 rfl ?_
          refine e_iloadn (pc := 57) dX4_isSum_57 rfl ?_
          refine e_cvY (pc := 58) (sp_x_putP hP2) dX4_isSum_58 kX4_76 rfl rfl rfl rfl rfl (mc_CR_of (Nat.le_of_ble_eq_true rfl) (Nat.le_of_ble_eq_true rfl) (Nat.le_refl _) (Nat.le_refl _)) (Nat.le_of_ble_eq_true rfl) (fun w1 hw1 => ?_)
          obtain ⟨u3, c3, hP3, hk3, rfl⟩ := hw1
          refine e_incC2 (pc := 61) dX4_isSum_61 (nI_1 i) (Nat.le_of_ble_eq_true rfl) rfl ?_
          refine e_goto (pc := 64) dX4_isSum_64 (t := 12) (by decide) ?_
          exact ih (i + 1) _ _ _ _ _ (by omega) (by rw [show u 2 = xtk1 R from ht] at hP3; exact hP3) (((hkb.trans hk1).trans hk2).trans hk3) (by rw [← hV, if_pos (show xM16 (xtk1 R) = true by rw [← ht, c_34]; decide), if_pos (mc_b1.mp c_51)])
        · skip
          refine e_iconst (v := 0) (pc := 54) dX4_isSum_54 (by decide) ?_
          exact e_zret (pc := 55) dX4_isSum_55 rfl (by rfl) (Nat.le_refl _) (Nat.le_refl _) ⟨by rw [← hV, if_pos (show xM16 (xtk1 R) = true by rw [← ht, c_34]; decide), if_neg (show ¬ ((xterm (xT a) N (xlv (xT a) N 4).1) (ynx (xT a) N R.2.1) o).1 = true by rw [mc_b0.mp c_51]; decide)]; rfl, u2, c2, by rw [← hV, if_pos (show xM16 (xtk1 R) = true by rw [← ht, c_34]; decide), if_neg (show ¬ ((xterm (xT a) N (xlv (xT a) N 4).1) (ynx (xT a) N R.2.1) o).1 = true by rw [mc_b0.mp c_51]; decide)]; exact hP2, (hkb.trans hk1).trans hk2, rfl⟩
theorem sp_x_sum4 {s u m n : Nat → Int32} {a c b d : Nat → List Int32} {q : List (Option Nat)} {h : Nat} {z : mc_W} (hL : xL a) {N : Nat} (hN : s 5 = nI N) (hN1 : N ≤ 160) {R : xR} {o : List Int32} (hP : xPS N R o u c) : mc_T yX4_isSum cX4_isSum 4 (some .boolean) 34 [.ref 6, .int 1] (WW s a q u c h m b n d z) (some (.int (mc_b (xsum (xT a) N (xlv (xT a) N 4).1 R o).1))) (fun w1 => ∃ u1 c1, xPS N (xsum (xT a) N (xlv (xT a) N 4).1 R o).2.1 (xsum (xT a) N (xlv (xT a) N 4).1 R o).2.2 u1 c1 ∧ xPK u u1 c c1 ∧ w1 = (WW s a q u1 c1 h m b n d z)) := by
  refine mc_start (own := RX4) (ini := false) rfl (by decide +kernel) (fun h => by cases h) (Nat.le_of_ble_eq_true rfl) ?_
  show mc_E _ _ _ _ _ [some (.ref 6), some (.int 1), none, none] [] _ _ _
  refine e_aloadn (pc := 0) dX4_isSum_0 rfl ?_
  refine e_iloadn (pc := 1) dX4_isSum_1 rfl ?_
  refine e_cvX (pc := 2) (sp_x_term4 hL hN hN1 hP) dX4_isSum_2 kX4_86 rfl rfl rfl rfl rfl (mc_CR_of (Nat.le_of_ble_eq_true rfl) (Nat.le_of_ble_eq_true rfl) (Nat.le_refl _) (Nat.le_refl _)) (Nat.le_of_ble_eq_true rfl) (fun w1 hw1 => ?_)
  obtain ⟨u1, c1, hP1, hk1, rfl⟩ := hw1
  refine e_if_ne (pc := 5) dX4_isSum_5 (t := 10) (by decide) (fun c_5 => ?_) (fun c_5 => ?_)
  · skip
    refine e_iconst (v := 0) (pc := 10) dX4_isSum_10 (by decide) ?_
    refine e_isn2 (pc := 11) dX4_isSum_11 (Nat.le_of_ble_eq_true rfl) rfl ?_
    have e : xsum (xT a) N (xlv (xT a) N 4).1 R o = xlp (xT a) N (xterm (xT a) N (xlv (xT a) N 4).1) xM16 160 ((xterm (xT a) N (xlv (xT a) N 4).1) R o).2.1 ((xterm (xT a) N (xlv (xT a) N 4).1) R o).2.2 := if_pos (mc_b1.mp c_5)
    rw [e]
    exact lp_x_sum4 hL hN hN1 160 0 _ _ u1 c1 _ (by omega) hP1 hk1 rfl
  · skip
    refine e_iconst (v := 0) (pc := 8) dX4_isSum_8 (by decide) ?_
    exact e_zret (pc := 9) dX4_isSum_9 rfl (by rfl) (Nat.le_refl _) (Nat.le_refl _) (have e : xsum (xT a) N (xlv (xT a) N 4).1 R o = (false, ((xterm (xT a) N (xlv (xT a) N 4).1) R o).2) := if_neg (show ¬ ((xterm (xT a) N (xlv (xT a) N 4).1) R o).1 = true by rw [mc_b0.mp c_5]; decide); ⟨by rw [e]; rfl, u1, c1, by rw [e]; dsimp only; exact hP1, hk1, rfl⟩)
theorem sp_x_not4 {s u m n : Nat → Int32} {a c b d : Nat → List Int32} {q : List (Option Nat)} {h : Nat} {z : mc_W} (hL : xL a) {N : Nat} (hN : s 5 = nI N) (hN1 : N ≤ 160) {R : xR} {o : List Int32} (hP : xPS N R o u c) : mc_T yX4_isNot cX4_isNot 3 (some .boolean) 35 [.ref 6, .int 1] (WW s a q u c h m b n d z) (some (.int (mc_b ((xlv (xT a) N 4).2 R o).1))) (fun w1 => ∃ u1 c1, xPS N ((xlv (xT a) N 4).2 R o).2.1 ((xlv (xT a) N 4).2 R o).2.2 u1 c1 ∧ xPK u u1 c c1 ∧ w1 = (WW s a q u1 c1 h m b n d z)) := by
  refine mc_start (own := RX4) (ini := false) rfl (by decide +kernel) (fun h => by cases h) (Nat.le_of_ble_eq_true rfl) ?_
  show mc_E _ _ _ _ _ [some (.ref 6), some (.int 1), none] [] _ _ _
  have ht := hP.2.2.1
  refine e_aloadn (pc := 0) dX4_isNot_0 rfl ?_
  refine e_get (pc := 1) dX4_isNot_1 fX4_41 rfl rfl ?_
  refine e_bipush (v := -13) (pc := 4) dX4_isNot_4 (by decide) ?_
  refine e_icmp_ne (pc := 6) dX4_isNot_6 (t := 40) (by decide) (fun c_6 => ?_) (fun c_6 => ?_)
  · skip
    refine e_aloadn (pc := 40) dX4_isNot_40 rfl ?_
    refine e_iloadn (pc := 41) dX4_isNot_41 rfl ?_
    refine e_cvX (pc := 42) (sp_x_sum4 hL hN hN1 hP) dX4_isNot_42 kX4_83 rfl rfl rfl rfl rfl (mc_CR_of (Nat.le_of_ble_eq_true rfl) (Nat.le_of_ble_eq_true rfl) (Nat.le_refl _) (Nat.le_refl _)) (Nat.le_of_ble_eq_true rfl) (fun w1 hw1 => ?_)
    obtain ⟨u1, c1, hP1, hk1, rfl⟩ := hw1
    refine e_if_ne (pc := 45) dX4_isNot_45 (t := 50) (by decide) (fun c_45 => ?_) (fun c_45 => ?_)
    · skip
      refine e_aloadn (pc := 50) dX4_isNot_50 rfl ?_
      refine e_get (pc := 51) dX4_isNot_51 fX4_41 rfl rfl ?_
      refine e_isn2 (pc := 54) dX4_isNot_54 (Nat.le_of_ble_eq_true rfl) rfl ?_
      refine e_iloadn (pc := 55) dX4_isNot_55 rfl ?_
      refine e_bipush (v := -14) (pc := 56) dX4_isNot_56 (by decide) ?_
      refine e_icmp_eq (pc := 58) dX4_isNot_58 (t := 67) (by decide) (fun c_58 => ?_) (fun c_58 => ?_)
      · skip
        refine e_aloadn (pc := 67) dX4_isNot_67 rfl ?_
        refine e_cvY (pc := 68) (sp_x_goOnP hL hN hN1 hP1) dX4_isNot_68 kX4_28 rfl rfl rfl rfl rfl (mc_CR_of (Nat.le_of_ble_eq_true rfl) (Nat.le_of_ble_eq_true rfl) (Nat.le_refl _) (Nat.le_refl _)) (Nat.le_of_ble_eq_true rfl) (fun w1 hw1 => ?_)
        obtain ⟨u2, c2, hP2, hk2, rfl⟩ := hw1
        refine e_aloadn (pc := 71) dX4_isNot_71 rfl ?_
        refine e_iloadn (pc := 72) dX4_isNot_72 rfl ?_
        refine e_cvX (pc := 73) (sp_x_sum4 hL hN hN1 hP2) dX4_isNot_73 kX4_83 rfl rfl rfl rfl rfl (mc_CR_of (Nat.le_of_ble_eq_true rfl) (Nat.le_of_ble_eq_true rfl) (Nat.le_refl _) (Nat.le_refl _)) (Nat.le_of_ble_eq_true rfl) (fun w1 hw1 => ?_)
        obtain ⟨u3, c3, hP3, hk3, rfl⟩ := hw1
        refine e_if_ne (pc := 76) dX4_isNot_76 (t := 81) (by decide) (fun c_76 => ?_) (fun c_76 => ?_)
        · skip
          refine e_aloadn (pc := 81) dX4_isNot_81 rfl ?_
          refine e_iloadn (pc := 82) dX4_isNot_82 rfl ?_
          refine e_cvY (pc := 83) (sp_x_putP hP3) dX4_isNot_83 kX4_76 rfl rfl rfl rfl rfl (mc_CR_of (Nat.le_of_ble_eq_true rfl) (Nat.le_of_ble_eq_true rfl) (Nat.le_refl _) (Nat.le_refl _)) (Nat.le_of_ble_eq_true rfl) (fun w1 hw1 => ?_)
          obtain ⟨u4, c4, hP4, hk4, rfl⟩ := hw1
          refine e_iconst (v := 1) (pc := 86) dX4_isNot_86 (by decide) ?_
          exact e_zret (pc := 87) dX4_isNot_87 rfl (by rfl) (Nat.le_refl _) (Nat.le_refl _) (have e : (xlv (xT a) N 4).2 R o = (true, (xsum (xT a) N (xlv (xT a) N 4).1 (ynx (xT a) N (xsum (xT a) N (xlv (xT a) N 4).1 R o).2.1.2.1) (xsum (xT a) N (xlv (xT a) N 4).1 R o).2.2).2.1, xput (xsum (xT a) N (xlv (xT a) N 4).1 (ynx (xT a) N (xsum (xT a) N (xlv (xT a) N 4).1 R o).2.1.2.1) (xsum (xT a) N (xlv (xT a) N 4).1 R o).2.2).2.2 (xtk1 (xsum (xT a) N (xlv (xT a) N 4).1 R o).2.1)) := (by rw [xlv_nS]; simp only [xnot]; rw [if_neg (show ¬ xtk1 R = -13 by rw [← ht]; exact c_6), if_pos (mc_b1.mp c_45), if_pos (show xM14 (xtk1 (xsum (xT a) N (xlv (xT a) N 4).1 R o).2.1) = true by rw [← hP1.2.2.1, c_58]; decide), if_pos (mc_b1.mp c_76)]); ⟨by rw [e]; rfl, u4, c4, (hP1.2.2.1 ▸ hP4 : xPS N (xsum (xT a) N (xlv (xT a) N 4).1 (ynx (xT a) N (xsum (xT a) N (xlv (xT a) N 4).1 R o).2.1.2.1) (xsum (xT a) N (xlv (xT a) N 4).1 R o).2.2).2.1 (xput (xsum (xT a) N (xlv (xT a) N 4).1 (ynx (xT a) N (xsum (xT a) N (xlv (xT a) N 4).1 R o).2.1.2.1) (xsum (xT a) N (xlv (xT a) N 4).1 R o).2.2).2.2 (xtk1 (xsum (xT a) N (xlv (xT a) N 4).1 R o).2.1)) u4 c4) |> (fun t => by rw [e]; dsimp only; exact t), ((hk1.trans hk2).trans hk3).trans hk4, rfl⟩)
        · skip
          refine e_iconst (v := 0) (pc := 79) dX4_isNot_79 (by decide) ?_
          exact e_zret (pc := 80) dX4_isNot_80 rfl (by rfl) (Nat.le_refl _) (Nat.le_refl _) (have e : (xlv (xT a) N 4).2 R o = (false, (xsum (xT a) N (xlv (xT a) N 4).1 (ynx (xT a) N (xsum (xT a) N (xlv (xT a) N 4).1 R o).2.1.2.1) (xsum (xT a) N (xlv (xT a) N 4).1 R o).2.2).2) := (by rw [xlv_nS]; simp only [xnot]; rw [if_neg (show ¬ xtk1 R = -13 by rw [← ht]; exact c_6), if_pos (mc_b1.mp c_45), if_pos (show xM14 (xtk1 (xsum (xT a) N (xlv (xT a) N 4).1 R o).2.1) = true by rw [← hP1.2.2.1, c_58]; decide), if_neg (show ¬ (xsum (xT a) N (xlv (xT a) N 4).1 (ynx (xT a) N (xsum (xT a) N (xlv (xT a) N 4).1 R o).2.1.2.1) (xsum (xT a) N (xlv (xT a) N 4).1 R o).2.2).1 = true by rw [mc_b0.mp c_76]; decide)]); ⟨by rw [e]; rfl, u3, c3, by rw [e]; dsimp only; exact hP3, (hk1.trans hk2).trans hk3, rfl⟩)
      · skip
        refine e_iloadn (pc := 61) dX4_isNot_61 rfl ?_
        refine e_bipush (v := -15) (pc := 62) dX4_isNot_62 (by decide) ?_
        refine e_icmp_ne (pc := 64) dX4_isNot_64 (t := 86) (by decide) (fun c_64 => ?_) (fun c_64 => ?_)
        · skip
          refine e_iconst (v := 1) (pc := 86) dX4_isNot_86 (by decide) ?_
          exact e_zret (pc := 87) dX4_isNot_87 rfl (by rfl) (Nat.le_refl _) (Nat.le_refl _) (have e : (xlv (xT a) N 4).2 R o = (true, (xsum (xT a) N (xlv (xT a) N 4).1 R o).2) := (by rw [xlv_nS]; simp only [xnot]; rw [if_neg (show ¬ xtk1 R = -13 by rw [← ht]; exact c_6), if_pos (mc_b1.mp c_45), if_neg (show ¬ xM14 (xtk1 (xsum (xT a) N (xlv (xT a) N 4).1 R o).2.1) = true by rw [← hP1.2.2.1]; unfold xM14; simp [c_58, c_64])]); ⟨by rw [e]; rfl, u1, c1, by rw [e]; dsimp only; exact hP1, hk1, rfl⟩)
        · skip
          refine e_aloadn (pc := 67) dX4_isNot_67 rfl ?_
          refine e_cvY (pc := 68) (sp_x_goOnP hL hN hN1 hP1) dX4_isNot_68 kX4_28 rfl rfl rfl rfl rfl (mc_CR_of (Nat.le_of_ble_eq_true rfl) (Nat.le_of_ble_eq_true rfl) (Nat.le_refl _) (Nat.le_refl _)) (Nat.le_of_ble_eq_true rfl) (fun w1 hw1 => ?_)
          obtain ⟨u2, c2, hP2, hk2, rfl⟩ := hw1
          refine e_aloadn (pc := 71) dX4_isNot_71 rfl ?_
          refine e_iloadn (pc := 72) dX4_isNot_72 rfl ?_
          refine e_cvX (pc := 73) (sp_x_sum4 hL hN hN1 hP2) dX4_isNot_73 kX4_83 rfl rfl rfl rfl rfl (mc_CR_of (Nat.le_of_ble_eq_true rfl) (Nat.le_of_ble_eq_true rfl) (Nat.le_refl _) (Nat.le_refl _)) (Nat.le_of_ble_eq_true rfl) (fun w1 hw1 => ?_)
          obtain ⟨u3, c3, hP3, hk3, rfl⟩ := hw1
          refine e_if_ne (pc := 76) dX4_isNot_76 (t := 81) (by decide) (fun c_76 => ?_) (fun c_76 => ?_)
          · skip
            refine e_aloadn (pc := 81) dX4_isNot_81 rfl ?_
            refine e_iloadn (pc := 82) dX4_isNot_82 rfl ?_
            refine e_cvY (pc := 83) (sp_x_putP hP3) dX4_isNot_83 kX4_76 rfl rfl rfl rfl rfl (mc_CR_of (Nat.le_of_ble_eq_true rfl) (Nat.le_of_ble_eq_true rfl) (Nat.le_refl _) (Nat.le_refl _)) (Nat.le_of_ble_eq_true rfl) (fun w1 hw1 => ?_)
            obtain ⟨u4, c4, hP4, hk4, rfl⟩ := hw1
            refine e_iconst (v := 1) (pc := 86) dX4_isNot_86 (by decide) ?_
            exact e_zret (pc := 87) dX4_isNot_87 rfl (by rfl) (Nat.le_refl _) (Nat.le_refl _) (have e : (xlv (xT a) N 4).2 R o = (true, (xsum (xT a) N (xlv (xT a) N 4).1 (ynx (xT a) N (xsum (xT a) N (xlv (xT a) N 4).1 R o).2.1.2.1) (xsum (xT a) N (xlv (xT a) N 4).1 R o).2.2).2.1, xput (xsum (xT a) N (xlv (xT a) N 4).1 (ynx (xT a) N (xsum (xT a) N (xlv (xT a) N 4).1 R o).2.1.2.1) (xsum (xT a) N (xlv (xT a) N 4).1 R o).2.2).2.2 (xtk1 (xsum (xT a) N (xlv (xT a) N 4).1 R o).2.1)) := (by rw [xlv_nS]; simp only [xnot]; rw [if_neg (show ¬ xtk1 R = -13 by rw [← ht]; exact c_6), if_pos (mc_b1.mp c_45), if_pos (show xM14 (xtk1 (xsum (xT a) N (xlv (xT a) N 4).1 R o).2.1) = true by rw [← hP1.2.2.1, c_64]; decide), if_pos (mc_b1.mp c_76)]); ⟨by rw [e]; rfl, u4, c4, (hP1.2.2.1 ▸ hP4 : xPS N (xsum (xT a) N (xlv (xT a) N 4).1 (ynx (xT a) N (xsum (xT a) N (xlv (xT a) N 4).1 R o).2.1.2.1) (xsum (xT a) N (xlv (xT a) N 4).1 R o).2.2).2.1 (xput (xsum (xT a) N (xlv (xT a) N 4).1 (ynx (xT a) N (xsum (xT a) N (xlv (xT a) N 4).1 R o).2.1.2.1) (xsum (xT a) N (xlv (xT a) N 4).1 R o).2.2).2.2 (xtk1 (xsum (xT a) N (xlv (xT a) N 4).1 R o).2.1)) u4 c4) |> (fun t => by rw [e]; dsimp only; exact t), ((hk1.trans hk2).trans hk3).trans hk4, rfl⟩)
          · skip
            refine e_iconst (v := 0) (pc := 79) dX4_isNot_79 (by decide) ?_
            exact e_zret (pc := 80) dX4_isNot_80 rfl (by rfl) (Nat.le_refl _) (Nat.le_refl _) (have e : (xlv (xT a) N 4).2 R o = (false, (xsum (xT a) N (xlv (xT a) N 4).1 (ynx (xT a) N (xsum (xT a) N (xlv (xT a) N 4).1 R o).2.1.2.1) (xsum (xT a) N (xlv (xT a) N 4).1 R o).2.2).2) := (by rw [xlv_nS]; simp only [xnot]; rw [if_neg (show ¬ xtk1 R = -13 by rw [← ht]; exact c_6), if_pos (mc_b1.mp c_45), if_pos (show xM14 (xtk1 (xsum (xT a) N (xlv (xT a) N 4).1 R o).2.1) = true by rw [← hP1.2.2.1, c_64]; decide), if_neg (show ¬ (xsum (xT a) N (xlv (xT a) N 4).1 (ynx (xT a) N (xsum (xT a) N (xlv (xT a) N 4).1 R o).2.1.2.1) (xsum (xT a) N (xlv (xT a) N 4).1 R o).2.2).1 = true by rw [mc_b0.mp c_76]; decide)]); ⟨by rw [e]; rfl, u3, c3, by rw [e]; dsimp only; exact hP3, (hk1.trans hk2).trans hk3, rfl⟩)
    · skip
      refine e_iconst (v := 0) (pc := 48) dX4_isNot_48 (by decide) ?_
      exact e_zret (pc := 49) dX4_isNot_49 rfl (by rfl) (Nat.le_refl _) (Nat.le_refl _) (have e : (xlv (xT a) N 4).2 R o = (false, (xsum (xT a) N (xlv (xT a) N 4).1 R o).2) := (by rw [xlv_nS]; simp only [xnot]; rw [if_neg (show ¬ xtk1 R = -13 by rw [← ht]; exact c_6), if_neg (show ¬ (xsum (xT a) N (xlv (xT a) N 4).1 R o).1 = true by rw [mc_b0.mp c_45]; decide)]); ⟨by rw [e]; rfl, u1, c1, by rw [e]; dsimp only; exact hP1, hk1, rfl⟩)
  · skip
    refine e_iloadn (pc := 9) dX4_isNot_9 rfl ?_
    refine e_iconst (v := 5) (pc := 10) dX4_isNot_10 (by decide) ?_
    refine e_icmp_lt (pc := 11) dX4_isNot_11 (t := 16) (by decide) (fun _ => ?_) (fun c_11 => absurd (by decide) c_11)
    refine e_aloadn (pc := 16) dX4_isNot_16 rfl ?_
    refine e_cvY (pc := 17) (sp_x_goOnP hL hN hN1 hP) dX4_isNot_17 kX4_28 rfl rfl rfl rfl rfl (mc_CR_of (Nat.le_of_ble_eq_true rfl) (Nat.le_of_ble_eq_true rfl) (Nat.le_refl _) (Nat.le_refl _)) (Nat.le_of_ble_eq_true rfl) (fun w1 hw1 => ?_)
    obtain ⟨u1, c1, hP1, hk1, rfl⟩ := hw1
    refine e_aloadn (pc := 20) dX4_isNot_20 rfl ?_
    refine e_iloadn (pc := 21) dX4_isNot_21 rfl ?_
    refine e_iconst (v := 1) (pc := 22) dX4_isNot_22 (by decide) ?_
    refine e_iadd (pc := 23) dX4_isNot_23 ?_
    refine e_top (y := 2) (by decide) ?_
    refine e_cvX (pc := 24) (sp_x_not3 hL hN hN1 hP1) dX4_isNot_24 kX4_80 rfl rfl rfl rfl rfl (mc_CR_of (Nat.le_of_ble_eq_true rfl) (Nat.le_of_ble_eq_true rfl) (Nat.le_refl _) (Nat.le_refl _)) (Nat.le_of_ble_eq_true rfl) (fun w1 hw1 => ?_)
    obtain ⟨u2, c2, hP2, hk2, rfl⟩ := hw1
    refine e_if_ne (pc := 27) dX4_isNot_27 (t := 32) (by decide) (fun c_27 => ?_) (fun c_27 => ?_)
    · skip
      refine e_aloadn (pc := 32) dX4_isNot_32 rfl ?_
      refine e_bipush (v := -13) (pc := 33) dX4_isNot_33 (by decide) ?_
      refine e_cvY (pc := 35) (sp_x_putP hP2) dX4_isNot_35 kX4_76 rfl rfl rfl rfl rfl (mc_CR_of (Nat.le_of_ble_eq_true rfl) (Nat.le_of_ble_eq_true rfl) (Nat.le_refl _) (Nat.le_refl _)) (Nat.le_of_ble_eq_true rfl) (fun w1 hw1 => ?_)
      obtain ⟨u3, c3, hP3, hk3, rfl⟩ := hw1
      refine e_iconst (v := 1) (pc := 38) dX4_isNot_38 (by decide) ?_
      exact e_zret (pc := 39) dX4_isNot_39 rfl (by rfl) (Nat.le_refl _) (Nat.le_refl _) (have e : (xlv (xT a) N 4).2 R o = (true, ((xlv (xT a) N 3).2 (ynx (xT a) N R.2.1) o).2.1, xput ((xlv (xT a) N 3).2 (ynx (xT a) N R.2.1) o).2.2 (-13)) := (by rw [xlv_nS]; simp only [xnot]; rw [if_pos (show xtk1 R = -13 by rw [← ht]; exact c_6), if_pos (mc_b1.mp c_27)]); ⟨by rw [e]; rfl, u3, c3, by rw [e]; dsimp only; exact hP3, (hk1.trans hk2).trans hk3, rfl⟩)
    · skip
      refine e_iconst (v := 0) (pc := 30) dX4_isNot_30 (by decide) ?_
      exact e_zret (pc := 31) dX4_isNot_31 rfl (by rfl) (Nat.le_refl _) (Nat.le_refl _) (have e : (xlv (xT a) N 4).2 R o = (false, ((xlv (xT a) N 3).2 (ynx (xT a) N R.2.1) o).2) := (by rw [xlv_nS]; simp only [xnot]; rw [if_pos (show xtk1 R = -13 by rw [← ht]; exact c_6), if_neg (show ¬ ((xlv (xT a) N 3).2 (ynx (xT a) N R.2.1) o).1 = true by rw [mc_b0.mp c_27]; decide)]); ⟨by rw [e]; rfl, u2, c2, by rw [e]; dsimp only; exact hP2, hk1.trans hk2, rfl⟩)
theorem lp_x_and4 {s m n : Nat → Int32} {a b d : Nat → List Int32} {q : List (Option Nat)} {h : Nat} {z : mc_W} (hL : xL a) {N : Nat} (hN : s 5 = nI N) (hN1 : N ≤ 160) {ub : Nat → Int32} {cb : Nat → List Int32} {V : Bool × xR × List Int32} :
    ∀ (f i : Nat) (R : xR) (o : List Int32) (u : Nat → Int32) (c : Nat → List Int32), i + f = 160 → xPS N R o u c → xPK ub u cb c → xlp (xT a) N (xlv (xT a) N 4).2 xM12 f R o = V →
      mc_E RX4 cX4_isAnd 3 (mc_JM (some .boolean) false 36 0 0 (fun r' w' => r' = some (.int (mc_b V.1)) ∧ ∃ u1 c1, xPS N V.2.1 V.2.2 u1 c1 ∧ xPK ub u1 cb c1 ∧ w' = (WW s a q u1 c1 h m b n d z))) 12 [some (.ref 6), some (.int 1), some (.int (nI i))] [] (WW s a q u c h m b n d z) 0 0 := by
  intro f
  induction f with
  | zero =>
    intro i R o u c hi hP hkb hV
    have e : i = 160 := by omega
    subst e
    simp only [xlp] at hV
    subst hV
    refine e_iloadn (pc := 12) dX4_isAnd_12 rfl ?_
    refine e_sipush (v := 160) (pc := 13) dX4_isAnd_13 (by decide) ?_
    refine e_icmp_ge (pc := 16) dX4_isAnd_16 (t := 54) (by decide) (fun _ => ?_) (fun c_16 => absurd (by decide) c_16)
    refine e_iconst (v := 1) (pc := 54) dX4_isAnd_54 (by decide) ?_
    exact e_zret (pc := 55) dX4_isAnd_55 rfl (by rfl) (Nat.le_refl _) (Nat.le_refl _) ⟨rfl, u, c, hP, hkb, rfl⟩
  | succ f ih =>
    intro i R o u c hi hP hkb hV
    simp only [xlp] at hV
    have hi1 : i < 160 := by omega
    have ht := hP.2.2.1
    refine e_iloadn (pc := 12) dX4_isAnd_12 rfl ?_
    refine e_sipush (v := 160) (pc := 13) dX4_isAnd_13 (by decide) ?_
    refine e_icmp_ge (pc := 16) dX4_isAnd_16 (t := 54) (by decide) (fun c_16 => absurd c_16 (nI_ge hi1 (by decide))) (fun _ => ?_)
    refine e_aloadn (pc := 19) dX4_isAnd_19 rfl ?_
    refine e_get (pc := 20) dX4_isAnd_20 fX4_41 rfl rfl ?_
    refine e_bipush (v := -12) (pc := 23) dX4_isAnd_23 (by decide) ?_
    refine e_icmp_ne (pc := 25) dX4_isAnd_25 (t := 54) (by decide) (fun c_25 => ?_) (fun c_25 => ?_)
    · skip
      refine e_iconst (v := 1) (pc := 54) dX4_isAnd_54 (by decide) ?_
      exact e_zret (pc := 55) dX4_isAnd_55 rfl (by rfl) (Nat.le_refl _) (Nat.le_refl _) ⟨by rw [← hV, if_neg (show ¬ xM12 (xtk1 R) = true by rw [← ht]; unfold xM12; simp [c_25])]; rfl, u, c, by rw [← hV, if_neg (show ¬ xM12 (xtk1 R) = true by rw [← ht]; unfold xM12; simp [c_25])]; exact hP, hkb, rfl⟩
    · skip
      refine e_aloadn (pc := 28) dX4_isAnd_28 rfl ?_
      refine e_cvY (pc := 29) (sp_x_goOnP hL hN hN1 hP) dX4_isAnd_29 kX4_28 rfl rfl rfl rfl rfl (mc_CR_of (Nat.le_of_ble_eq_true rfl) (Nat.le_of_ble_eq_true rfl) (Nat.le_refl _) (Nat.le_refl _)) (Nat.le_of_ble_eq_true rfl) (fun w1 hw1 => ?_)
      obtain ⟨u1, c1, hP1, hk1, rfl⟩ := hw1
      refine e_aloadn (pc := 32) dX4_isAnd_32 rfl ?_
      refine e_iloadn (pc := 33) dX4_isAnd_33 rfl ?_
      refine e_cvX (pc := 34) (sp_x_not4 hL hN hN1 hP1) dX4_isAnd_34 kX4_80 rfl rfl rfl rfl rfl (mc_CR_of (Nat.le_of_ble_eq_true rfl) (Nat.le_of_ble_eq_true rfl) (Nat.le_refl _) (Nat.le_refl _)) (Nat.le_of_ble_eq_true rfl) (fun w1 hw1 => ?_)
      obtain ⟨u2, c2, hP2, hk2, rfl⟩ := hw1
      refine e_if_ne (pc := 37) dX4_isAnd_37 (t := 42) (by decide) (fun c_37 => ?_) (fun c_37 => ?_)
      · skip
        refine e_aloadn (pc := 42) dX4_isAnd_42 rfl ?_
        refine e_bipush (v := -12) (pc := 43) dX4_isAnd_43 (by decide) ?_
        refine e_cvY (pc := 45) (sp_x_putP hP2) dX4_isAnd_45 kX4_76 rfl rfl rfl rfl rfl (mc_CR_of (Nat.le_of_ble_eq_true rfl) (Nat.le_of_ble_eq_true rfl) (Nat.le_refl _) (Nat.le_refl _)) (Nat.le_of_ble_eq_true rfl) (fun w1 hw1 => ?_)
        obtain ⟨u3, c3, hP3, hk3, rfl⟩ := hw1
        refine e_incC2 (pc := 48) dX4_isAnd_48 (nI_1 i) (Nat.le_of_ble_eq_true rfl) rfl ?_
        refine e_goto (pc := 51) dX4_isAnd_51 (t := 12) (by decide) ?_
        exact ih (i + 1) _ _ _ _ (by omega) (by rw [show (-12 : Int32) = xtk1 R from by rw [← ht, c_25]] at hP3; exact hP3) (((hkb.trans hk1).trans hk2).trans hk3) (by rw [← hV, if_pos (show xM12 (xtk1 R) = true by rw [← ht, c_25]; decide), if_pos (mc_b1.mp c_37)])
      · skip
        refine e_iconst (v := 0) (pc := 40) dX4_isAnd_40 (by decide) ?_
        exact e_zret (pc := 41) dX4_isAnd_41 rfl (by rfl) (Nat.le_refl _) (Nat.le_refl _) ⟨by rw [← hV, if_pos (show xM12 (xtk1 R) = true by rw [← ht, c_25]; decide), if_neg (show ¬ ((xlv (xT a) N 4).2 (ynx (xT a) N R.2.1) o).1 = true by rw [mc_b0.mp c_37]; decide)]; rfl, u2, c2, by rw [← hV, if_pos (show xM12 (xtk1 R) = true by rw [← ht, c_25]; decide), if_neg (show ¬ ((xlv (xT a) N 4).2 (ynx (xT a) N R.2.1) o).1 = true by rw [mc_b0.mp c_37]; decide)]; exact hP2, (hkb.trans hk1).trans hk2, rfl⟩
theorem sp_x_and4 {s u m n : Nat → Int32} {a c b d : Nat → List Int32} {q : List (Option Nat)} {h : Nat} {z : mc_W} (hL : xL a) {N : Nat} (hN : s 5 = nI N) (hN1 : N ≤ 160) {R : xR} {o : List Int32} (hP : xPS N R o u c) : mc_T yX4_isAnd cX4_isAnd 3 (some .boolean) 36 [.ref 6, .int 1] (WW s a q u c h m b n d z) (some (.int (mc_b (xand (xT a) N (xlv (xT a) N 4).2 R o).1))) (fun w1 => ∃ u1 c1, xPS N (xand (xT a) N (xlv (xT a) N 4).2 R o).2.1 (xand (xT a) N (xlv (xT a) N 4).2 R o).2.2 u1 c1 ∧ xPK u u1 c c1 ∧ w1 = (WW s a q u1 c1 h m b n d z)) := by
  refine mc_start (own := RX4) (ini := false) rfl (by decide +kernel) (fun h => by cases h) (Nat.le_of_ble_eq_true rfl) ?_
  show mc_E _ _ _ _ _ [some (.ref 6), some (.int 1), none] [] _ _ _
  refine e_aloadn (pc := 0) dX4_isAnd_0 rfl ?_
  refine e_iloadn (pc := 1) dX4_isAnd_1 rfl ?_
  refine e_cvX (pc := 2) (sp_x_not4 hL hN hN1 hP) dX4_isAnd_2 kX4_80 rfl rfl rfl rfl rfl (mc_CR_of (Nat.le_of_ble_eq_true rfl) (Nat.le_of_ble_eq_true rfl) (Nat.le_refl _) (Nat.le_refl _)) (Nat.le_of_ble_eq_true rfl) (fun w1 hw1 => ?_)
  obtain ⟨u1, c1, hP1, hk1, rfl⟩ := hw1
  refine e_if_ne (pc := 5) dX4_isAnd_5 (t := 10) (by decide) (fun c_5 => ?_) (fun c_5 => ?_)
  · skip
    refine e_iconst (v := 0) (pc := 10) dX4_isAnd_10 (by decide) ?_
    refine e_isn2 (pc := 11) dX4_isAnd_11 (Nat.le_of_ble_eq_true rfl) rfl ?_
    have e : xand (xT a) N (xlv (xT a) N 4).2 R o = xlp (xT a) N (xlv (xT a) N 4).2 xM12 160 ((xlv (xT a) N 4).2 R o).2.1 ((xlv (xT a) N 4).2 R o).2.2 := if_pos (mc_b1.mp c_5)
    rw [e]
    exact lp_x_and4 hL hN hN1 160 0 _ _ u1 c1 (by omega) hP1 hk1 rfl
  · skip
    refine e_iconst (v := 0) (pc := 8) dX4_isAnd_8 (by decide) ?_
    exact e_zret (pc := 9) dX4_isAnd_9 rfl (by rfl) (Nat.le_refl _) (Nat.le_refl _) (have e : xand (xT a) N (xlv (xT a) N 4).2 R o = (false, ((xlv (xT a) N 4).2 R o).2) := if_neg (show ¬ ((xlv (xT a) N 4).2 R o).1 = true by rw [mc_b0.mp c_5]; decide); ⟨by rw [e]; rfl, u1, c1, by rw [e]; dsimp only; exact hP1, hk1, rfl⟩)
theorem lp_x_E4 {s m n : Nat → Int32} {a b d : Nat → List Int32} {q : List (Option Nat)} {h : Nat} {z : mc_W} (hL : xL a) {N : Nat} (hN : s 5 = nI N) (hN1 : N ≤ 160) {ub : Nat → Int32} {cb : Nat → List Int32} {V : Bool × xR × List Int32} :
    ∀ (f i : Nat) (R : xR) (o : List Int32) (u : Nat → Int32) (c : Nat → List Int32), i + f = 160 → xPS N R o u c → xPK ub u cb c → xlp (xT a) N (xand (xT a) N (xlv (xT a) N 4).2) xM11 f R o = V →
      mc_E RX4 cX4_isE 3 (mc_JM (some .boolean) false 37 0 0 (fun r' w' => r' = some (.int (mc_b V.1)) ∧ ∃ u1 c1, xPS N V.2.1 V.2.2 u1 c1 ∧ xPK ub u1 cb c1 ∧ w' = (WW s a q u1 c1 h m b n d z))) 12 [some (.ref 6), some (.int 1), some (.int (nI i))] [] (WW s a q u c h m b n d z) 0 0 := by
  intro f
  induction f with
  | zero =>
    intro i R o u c hi hP hkb hV
    have e : i = 160 := by omega
    subst e
    simp only [xlp] at hV
    subst hV
    refine e_iloadn (pc := 12) dX4_isE_12 rfl ?_
    refine e_sipush (v := 160) (pc := 13) dX4_isE_13 (by decide) ?_
    refine e_icmp_ge (pc := 16) dX4_isE_16 (t := 54) (by decide) (fun _ => ?_) (fun c_16 => absurd (by decide) c_16)
    refine e_iconst (v := 1) (pc := 54) dX4_isE_54 (by decide) ?_
    exact e_zret (pc := 55) dX4_isE_55 rfl (by rfl) (Nat.le_refl _) (Nat.le_refl _) ⟨rfl, u, c, hP, hkb, rfl⟩
  | succ f ih =>
    intro i R o u c hi hP hkb hV
    simp only [xlp] at hV
    have hi1 : i < 160 := by omega
    have ht := hP.2.2.1
    refine e_iloadn (pc := 12) dX4_isE_12 rfl ?_
    refine e_sipush (v := 160) (pc := 13) dX4_isE_13 (by decide) ?_
    refine e_icmp_ge (pc := 16) dX4_isE_16 (t := 54) (by decide) (fun c_16 => absurd c_16 (nI_ge hi1 (by decide))) (fun _ => ?_)
    refine e_aloadn (pc := 19) dX4_isE_19 rfl ?_
    refine e_get (pc := 20) dX4_isE_20 fX4_41 rfl rfl ?_
    refine e_bipush (v := -11) (pc := 23) dX4_isE_23 (by decide) ?_
    refine e_icmp_ne (pc := 25) dX4_isE_25 (t := 54) (by decide) (fun c_25 => ?_) (fun c_25 => ?_)
    · skip
      refine e_iconst (v := 1) (pc := 54) dX4_isE_54 (by decide) ?_
      exact e_zret (pc := 55) dX4_isE_55 rfl (by rfl) (Nat.le_refl _) (Nat.le_refl _) ⟨by rw [← hV, if_neg (show ¬ xM11 (xtk1 R) = true by rw [← ht]; unfold xM11; simp [c_25])]; rfl, u, c, by rw [← hV, if_neg (show ¬ xM11 (xtk1 R) = true by rw [← ht]; unfold xM11; simp [c_25])]; exact hP, hkb, rfl⟩
    · skip
      refine e_aloadn (pc := 28) dX4_isE_28 rfl ?_
      refine e_cvY (pc := 29) (sp_x_goOnP hL hN hN1 hP) dX4_isE_29 kX4_28 rfl rfl rfl rfl rfl (mc_CR_of (Nat.le_of_ble_eq_true rfl) (Nat.le_of_ble_eq_true rfl) (Nat.le_refl _) (Nat.le_refl _)) (Nat.le_of_ble_eq_true rfl) (fun w1 hw1 => ?_)
      obtain ⟨u1, c1, hP1, hk1, rfl⟩ := hw1
      refine e_aloadn (pc := 32) dX4_isE_32 rfl ?_
      refine e_iloadn (pc := 33) dX4_isE_33 rfl ?_
      refine e_cvX (pc := 34) (sp_x_and4 hL hN hN1 hP1) dX4_isE_34 kX4_73 rfl rfl rfl rfl rfl (mc_CR_of (Nat.le_of_ble_eq_true rfl) (Nat.le_of_ble_eq_true rfl) (Nat.le_refl _) (Nat.le_refl _)) (Nat.le_of_ble_eq_true rfl) (fun w1 hw1 => ?_)
      obtain ⟨u2, c2, hP2, hk2, rfl⟩ := hw1
      refine e_if_ne (pc := 37) dX4_isE_37 (t := 42) (by decide) (fun c_37 => ?_) (fun c_37 => ?_)
      · skip
        refine e_aloadn (pc := 42) dX4_isE_42 rfl ?_
        refine e_bipush (v := -11) (pc := 43) dX4_isE_43 (by decide) ?_
        refine e_cvY (pc := 45) (sp_x_putP hP2) dX4_isE_45 kX4_76 rfl rfl rfl rfl rfl (mc_CR_of (Nat.le_of_ble_eq_true rfl) (Nat.le_of_ble_eq_true rfl) (Nat.le_refl _) (Nat.le_refl _)) (Nat.le_of_ble_eq_true rfl) (fun w1 hw1 => ?_)
        obtain ⟨u3, c3, hP3, hk3, rfl⟩ := hw1
        refine e_incC2 (pc := 48) dX4_isE_48 (nI_1 i) (Nat.le_of_ble_eq_true rfl) rfl ?_
        refine e_goto (pc := 51) dX4_isE_51 (t := 12) (by decide) ?_
        exact ih (i + 1) _ _ _ _ (by omega) (by rw [show (-11 : Int32) = xtk1 R from by rw [← ht, c_25]] at hP3; exact hP3) (((hkb.trans hk1).trans hk2).trans hk3) (by rw [← hV, if_pos (show xM11 (xtk1 R) = true by rw [← ht, c_25]; decide), if_pos (mc_b1.mp c_37)])
      · skip
        refine e_iconst (v := 0) (pc := 40) dX4_isE_40 (by decide) ?_
        exact e_zret (pc := 41) dX4_isE_41 rfl (by rfl) (Nat.le_refl _) (Nat.le_refl _) ⟨by rw [← hV, if_pos (show xM11 (xtk1 R) = true by rw [← ht, c_25]; decide), if_neg (show ¬ ((xand (xT a) N (xlv (xT a) N 4).2) (ynx (xT a) N R.2.1) o).1 = true by rw [mc_b0.mp c_37]; decide)]; rfl, u2, c2, by rw [← hV, if_pos (show xM11 (xtk1 R) = true by rw [← ht, c_25]; decide), if_neg (show ¬ ((xand (xT a) N (xlv (xT a) N 4).2) (ynx (xT a) N R.2.1) o).1 = true by rw [mc_b0.mp c_37]; decide)]; exact hP2, (hkb.trans hk1).trans hk2, rfl⟩
theorem sp_x_E4 {s u m n : Nat → Int32} {a c b d : Nat → List Int32} {q : List (Option Nat)} {h : Nat} {z : mc_W} (hL : xL a) {N : Nat} (hN : s 5 = nI N) (hN1 : N ≤ 160) {R : xR} {o : List Int32} (hP : xPS N R o u c) : mc_T yX4_isE cX4_isE 3 (some .boolean) 37 [.ref 6, .int 1] (WW s a q u c h m b n d z) (some (.int (mc_b (xE (xT a) N (xlv (xT a) N 4).2 R o).1))) (fun w1 => ∃ u1 c1, xPS N (xE (xT a) N (xlv (xT a) N 4).2 R o).2.1 (xE (xT a) N (xlv (xT a) N 4).2 R o).2.2 u1 c1 ∧ xPK u u1 c c1 ∧ w1 = (WW s a q u1 c1 h m b n d z)) := by
  refine mc_start (own := RX4) (ini := false) rfl (by decide +kernel) (fun h => by cases h) (Nat.le_of_ble_eq_true rfl) ?_
  show mc_E _ _ _ _ _ [some (.ref 6), some (.int 1), none] [] _ _ _
  refine e_aloadn (pc := 0) dX4_isE_0 rfl ?_
  refine e_iloadn (pc := 1) dX4_isE_1 rfl ?_
  refine e_cvX (pc := 2) (sp_x_and4 hL hN hN1 hP) dX4_isE_2 kX4_73 rfl rfl rfl rfl rfl (mc_CR_of (Nat.le_of_ble_eq_true rfl) (Nat.le_of_ble_eq_true rfl) (Nat.le_refl _) (Nat.le_refl _)) (Nat.le_of_ble_eq_true rfl) (fun w1 hw1 => ?_)
  obtain ⟨u1, c1, hP1, hk1, rfl⟩ := hw1
  refine e_if_ne (pc := 5) dX4_isE_5 (t := 10) (by decide) (fun c_5 => ?_) (fun c_5 => ?_)
  · skip
    refine e_iconst (v := 0) (pc := 10) dX4_isE_10 (by decide) ?_
    refine e_isn2 (pc := 11) dX4_isE_11 (Nat.le_of_ble_eq_true rfl) rfl ?_
    have e : xE (xT a) N (xlv (xT a) N 4).2 R o = xlp (xT a) N (xand (xT a) N (xlv (xT a) N 4).2) xM11 160 ((xand (xT a) N (xlv (xT a) N 4).2) R o).2.1 ((xand (xT a) N (xlv (xT a) N 4).2) R o).2.2 := if_pos (mc_b1.mp c_5)
    rw [e]
    exact lp_x_E4 hL hN hN1 160 0 _ _ u1 c1 (by omega) hP1 hk1 rfl
  · skip
    refine e_iconst (v := 0) (pc := 8) dX4_isE_8 (by decide) ?_
    exact e_zret (pc := 9) dX4_isE_9 rfl (by rfl) (Nat.le_refl _) (Nat.le_refl _) (have e : xE (xT a) N (xlv (xT a) N 4).2 R o = (false, ((xand (xT a) N (xlv (xT a) N 4).2) R o).2) := if_neg (show ¬ ((xand (xT a) N (xlv (xT a) N 4).2) R o).1 = true by rw [mc_b0.mp c_5]; decide); ⟨by rw [e]; rfl, u1, c1, by rw [e]; dsimp only; exact hP1, hk1, rfl⟩)
end Zj_6n_x24_4
section Zj_6n_x24_5
theorem sp_x_one5 {s u m n : Nat → Int32} {a c b d : Nat → List Int32} {q : List (Option Nat)} {h : Nat} {z : mc_W} (hL : xL a) {N : Nat} (hN : s 5 = nI N) (hN1 : N ≤ 160) {R : xR} {o : List Int32} (hP : xPS N R o u c) : mc_T yX4_isOne cX4_isOne 2 (some .boolean) 38 [.ref 6, .int 0] (WW s a q u c h m b n d z) (some (.int (mc_b ((xlv (xT a) N 5).1 R o).1))) (fun w1 => ∃ u1 c1, xPS N ((xlv (xT a) N 5).1 R o).2.1 ((xlv (xT a) N 5).1 R o).2.2 u1 c1 ∧ xPK u u1 c c1 ∧ w1 = (WW s a q u1 c1 h m b n d z)) := by
  refine mc_start (own := RX4) (ini := false) rfl (by decide +kernel) (fun h => by cases h) (Nat.le_of_ble_eq_true rfl) ?_
  show mc_E _ _ _ _ _ [some (.ref 6), some (.int 0)] [] _ _ _
  have ht := hP.2.2.1
  refine e_aloadn (pc := 0) dX4_isOne_0 rfl ?_
  refine e_get (pc := 1) dX4_isOne_1 fX4_41 rfl rfl ?_
  refine e_bipush (v := -6) (pc := 4) dX4_isOne_4 (by decide) ?_
  refine e_icmp_lt (pc := 6) dX4_isOne_6 (t := 23) (by decide) (fun c_6 => ?_) (fun c_6 => ?_)
  · skip
    refine e_aloadn (pc := 23) dX4_isOne_23 rfl ?_
    refine e_get (pc := 24) dX4_isOne_24 fX4_41 rfl rfl ?_
    refine e_bipush (v := -17) (pc := 27) dX4_isOne_27 (by decide) ?_
    refine e_icmp_eq (pc := 29) dX4_isOne_29 (t := 41) (by decide) (fun c_29 => ?_) (fun c_29 => ?_)
    · skip
      refine e_iloadn (pc := 41) dX4_isOne_41 rfl ?_
      refine e_iconst (v := 5) (pc := 42) dX4_isOne_42 (by decide) ?_
      refine e_icmp_lt (pc := 43) dX4_isOne_43 (t := 48) (by decide) (fun _ => ?_) (fun c_43 => absurd (by decide) c_43)
      refine e_aloadn (pc := 48) dX4_isOne_48 rfl ?_
      refine e_get (pc := 49) dX4_isOne_49 fX4_41 rfl rfl ?_
      refine e_bipush (v := -20) (pc := 52) dX4_isOne_52 (by decide) ?_
      refine e_icmp_ne (pc := 54) dX4_isOne_54 (t := 88) (by decide) (fun c_54 => ?_) (fun c_54 => ?_)
      · skip
        refine e_aloadn (pc := 88) dX4_isOne_88 rfl ?_
        refine e_cvY (pc := 89) (sp_x_goOnP hL hN hN1 hP) dX4_isOne_89 kX4_28 rfl rfl rfl rfl rfl (mc_CR_of (Nat.le_of_ble_eq_true rfl) (Nat.le_of_ble_eq_true rfl) (Nat.le_refl _) (Nat.le_refl _)) (Nat.le_of_ble_eq_true rfl) (fun w1 hw1 => ?_)
        obtain ⟨u1, c1, hP1, hk1, rfl⟩ := hw1
        refine e_aloadn (pc := 92) dX4_isOne_92 rfl ?_
        refine e_iloadn (pc := 93) dX4_isOne_93 rfl ?_
        refine e_iconst (v := 1) (pc := 94) dX4_isOne_94 (by decide) ?_
        refine e_iadd (pc := 95) dX4_isOne_95 ?_
        refine e_top (y := 1) (by decide) ?_
        refine e_cvX (pc := 96) (sp_x_one4 hL hN hN1 hP1) dX4_isOne_96 kX4_89 rfl rfl rfl rfl rfl (mc_CR_of (Nat.le_of_ble_eq_true rfl) (Nat.le_of_ble_eq_true rfl) (Nat.le_refl _) (Nat.le_refl _)) (Nat.le_of_ble_eq_true rfl) (fun w1 hw1 => ?_)
        obtain ⟨u2, c2, hP2, hk2, rfl⟩ := hw1
        refine e_if_ne (pc := 99) dX4_isOne_99 (t := 104) (by decide) (fun c_99 => ?_) (fun c_99 => ?_)
        · skip
          refine e_aloadn (pc := 104) dX4_isOne_104 rfl ?_
          refine e_bipush (v := -19) (pc := 105) dX4_isOne_105 (by decide) ?_
          refine e_cvY (pc := 107) (sp_x_putP hP2) dX4_isOne_107 kX4_76 rfl rfl rfl rfl rfl (mc_CR_of (Nat.le_of_ble_eq_true rfl) (Nat.le_of_ble_eq_true rfl) (Nat.le_refl _) (Nat.le_refl _)) (Nat.le_of_ble_eq_true rfl) (fun w1 hw1 => ?_)
          obtain ⟨u3, c3, hP3, hk3, rfl⟩ := hw1
          refine e_iconst (v := 1) (pc := 110) dX4_isOne_110 (by decide) ?_
          exact e_zret (pc := 111) dX4_isOne_111 rfl (by rfl) (Nat.le_refl _) (Nat.le_refl _) (have e : (xlv (xT a) N 5).1 R o = (true, ((xlv (xT a) N 4).1 (ynx (xT a) N R.2.1) o).2.1, xput ((xlv (xT a) N 4).1 (ynx (xT a) N R.2.1) o).2.2 (-19)) := (by rw [xlv_oS]; simp only [xone]; rw [if_neg (show ¬ -6 ≤ xtk1 R by rw [← ht]; exact Int32.not_le.mpr c_6), if_neg (show ¬ xtk1 R = -20 by rw [← ht]; exact c_54), if_pos (show xtk1 R = -17 by rw [← ht]; exact c_29), if_pos (mc_b1.mp c_99)]); ⟨by rw [e]; rfl, u3, c3, by rw [e]; dsimp only; exact hP3, (hk1.trans hk2).trans hk3, rfl⟩)
        · skip
          refine e_iconst (v := 0) (pc := 102) dX4_isOne_102 (by decide) ?_
          exact e_zret (pc := 103) dX4_isOne_103 rfl (by rfl) (Nat.le_refl _) (Nat.le_refl _) (have e : (xlv (xT a) N 5).1 R o = (false, ((xlv (xT a) N 4).1 (ynx (xT a) N R.2.1) o).2) := (by rw [xlv_oS]; simp only [xone]; rw [if_neg (show ¬ -6 ≤ xtk1 R by rw [← ht]; exact Int32.not_le.mpr c_6), if_neg (show ¬ xtk1 R = -20 by rw [← ht]; exact c_54), if_pos (show xtk1 R = -17 by rw [← ht]; exact c_29), if_neg (show ¬ ((xlv (xT a) N 4).1 (ynx (xT a) N R.2.1) o).1 = true by rw [mc_b0.mp c_99]; decide)]); ⟨by rw [e]; rfl, u2, c2, by rw [e]; dsimp only; exact hP2, hk1.trans hk2, rfl⟩)
      · skip
        refine e_aloadn (pc := 57) dX4_isOne_57 rfl ?_
        refine e_cvY (pc := 58) (sp_x_goOnP hL hN hN1 hP) dX4_isOne_58 kX4_28 rfl rfl rfl rfl rfl (mc_CR_of (Nat.le_of_ble_eq_true rfl) (Nat.le_of_ble_eq_true rfl) (Nat.le_refl _) (Nat.le_refl _)) (Nat.le_of_ble_eq_true rfl) (fun w1 hw1 => ?_)
        obtain ⟨u1, c1, hP1, hk1, rfl⟩ := hw1
        refine e_aloadn (pc := 61) dX4_isOne_61 rfl ?_
        refine e_iloadn (pc := 62) dX4_isOne_62 rfl ?_
        refine e_iconst (v := 1) (pc := 63) dX4_isOne_63 (by decide) ?_
        refine e_iadd (pc := 64) dX4_isOne_64 ?_
        refine e_top (y := 1) (by decide) ?_
        refine e_cvX (pc := 65) (sp_x_E4 hL hN hN1 hP1) dX4_isOne_65 kX4_70 rfl rfl rfl rfl rfl (mc_CR_of (Nat.le_of_ble_eq_true rfl) (Nat.le_of_ble_eq_true rfl) (Nat.le_refl _) (Nat.le_refl _)) (Nat.le_of_ble_eq_true rfl) (fun w1 hw1 => ?_)
        obtain ⟨u2, c2, hP2, hk2, rfl⟩ := hw1
        refine e_if_eq (pc := 68) dX4_isOne_68 (t := 80) (by decide) (fun c_68 => ?_) (fun c_68 => ?_)
        · skip
          refine e_iconst (v := 0) (pc := 80) dX4_isOne_80 (by decide) ?_
          exact e_zret (pc := 81) dX4_isOne_81 rfl (by rfl) (Nat.le_refl _) (Nat.le_refl _) (have e : (xlv (xT a) N 5).1 R o = (false, (xE (xT a) N (xlv (xT a) N 4).2 (ynx (xT a) N R.2.1) o).2) := (by rw [xlv_oS]; simp only [xone]; rw [if_neg (show ¬ -6 ≤ xtk1 R by rw [← ht]; exact Int32.not_le.mpr c_6), if_pos (show xtk1 R = -20 by rw [← ht]; exact c_54), if_neg (show ¬ (xE (xT a) N (xlv (xT a) N 4).2 (ynx (xT a) N R.2.1) o).1 = true by rw [mc_b0.mp c_68]; decide)]); ⟨by rw [e]; rfl, u2, c2, by rw [e]; dsimp only; exact hP2, hk1.trans hk2, rfl⟩)
        · skip
          refine e_aloadn (pc := 71) dX4_isOne_71 rfl ?_
          refine e_get (pc := 72) dX4_isOne_72 fX4_41 rfl rfl ?_
          refine e_bipush (v := -21) (pc := 75) dX4_isOne_75 (by decide) ?_
          refine e_icmp_eq (pc := 77) dX4_isOne_77 (t := 82) (by decide) (fun c_77 => ?_) (fun c_77 => ?_)
          · skip
            refine e_aloadn (pc := 82) dX4_isOne_82 rfl ?_
            refine e_cvY (pc := 83) (sp_x_goOnP hL hN hN1 hP2) dX4_isOne_83 kX4_28 rfl rfl rfl rfl rfl (mc_CR_of (Nat.le_of_ble_eq_true rfl) (Nat.le_of_ble_eq_true rfl) (Nat.le_refl _) (Nat.le_refl _)) (Nat.le_of_ble_eq_true rfl) (fun w1 hw1 => ?_)
            obtain ⟨u3, c3, hP3, hk3, rfl⟩ := hw1
            refine e_iconst (v := 1) (pc := 86) dX4_isOne_86 (by decide) ?_
            exact e_zret (pc := 87) dX4_isOne_87 rfl (by rfl) (Nat.le_refl _) (Nat.le_refl _) (have e : (xlv (xT a) N 5).1 R o = (true, ynx (xT a) N (xE (xT a) N (xlv (xT a) N 4).2 (ynx (xT a) N R.2.1) o).2.1.2.1, (xE (xT a) N (xlv (xT a) N 4).2 (ynx (xT a) N R.2.1) o).2.2) := (by rw [xlv_oS]; simp only [xone]; rw [if_neg (show ¬ -6 ≤ xtk1 R by rw [← ht]; exact Int32.not_le.mpr c_6), if_pos (show xtk1 R = -20 by rw [← ht]; exact c_54), if_pos (mc_b1.mp c_68), if_pos (show xtk1 (xE (xT a) N (xlv (xT a) N 4).2 (ynx (xT a) N R.2.1) o).2.1 = -21 by rw [← hP2.2.2.1]; exact c_77)]); ⟨by rw [e]; rfl, u3, c3, by rw [e]; dsimp only; exact hP3, (hk1.trans hk2).trans hk3, rfl⟩)
          · skip
            refine e_iconst (v := 0) (pc := 80) dX4_isOne_80 (by decide) ?_
            exact e_zret (pc := 81) dX4_isOne_81 rfl (by rfl) (Nat.le_refl _) (Nat.le_refl _) (have e : (xlv (xT a) N 5).1 R o = (false, (xE (xT a) N (xlv (xT a) N 4).2 (ynx (xT a) N R.2.1) o).2) := (by rw [xlv_oS]; simp only [xone]; rw [if_neg (show ¬ -6 ≤ xtk1 R by rw [← ht]; exact Int32.not_le.mpr c_6), if_pos (show xtk1 R = -20 by rw [← ht]; exact c_54), if_pos (mc_b1.mp c_68), if_neg (show ¬ xtk1 (xE (xT a) N (xlv (xT a) N 4).2 (ynx (xT a) N R.2.1) o).2.1 = -21 by rw [← hP2.2.2.1]; exact c_77)]); ⟨by rw [e]; rfl, u2, c2, by rw [e]; dsimp only; exact hP2, hk1.trans hk2, rfl⟩)
    · skip
      refine e_aloadn (pc := 32) dX4_isOne_32 rfl ?_
      refine e_get (pc := 33) dX4_isOne_33 fX4_41 rfl rfl ?_
      refine e_bipush (v := -20) (pc := 36) dX4_isOne_36 (by decide) ?_
      refine e_icmp_ne (pc := 38) dX4_isOne_38 (t := 46) (by decide) (fun c_38 => ?_) (fun c_38 => ?_)
      · skip
        refine e_iconst (v := 0) (pc := 46) dX4_isOne_46 (by decide) ?_
        exact e_zret (pc := 47) dX4_isOne_47 rfl (by rfl) (Nat.le_refl _) (Nat.le_refl _) (have e : (xlv (xT a) N 5).1 R o = (false, R, o) := (by rw [xlv_oS]; simp only [xone]; rw [if_neg (show ¬ -6 ≤ xtk1 R by rw [← ht]; exact Int32.not_le.mpr c_6), if_neg (show ¬ xtk1 R = -20 by rw [← ht]; exact c_38), if_neg (show ¬ xtk1 R = -17 by rw [← ht]; exact c_29)]); ⟨by rw [e]; rfl, u, c, by rw [e]; dsimp only; exact hP, xPK_refl u c, rfl⟩)
      · skip
        refine e_iloadn (pc := 41) dX4_isOne_41 rfl ?_
        refine e_iconst (v := 5) (pc := 42) dX4_isOne_42 (by decide) ?_
        refine e_icmp_lt (pc := 43) dX4_isOne_43 (t := 48) (by decide) (fun _ => ?_) (fun c_43 => absurd (by decide) c_43)
        refine e_aloadn (pc := 48) dX4_isOne_48 rfl ?_
        refine e_get (pc := 49) dX4_isOne_49 fX4_41 rfl rfl ?_
        refine e_bipush (v := -20) (pc := 52) dX4_isOne_52 (by decide) ?_
        refine e_icmp_ne (pc := 54) dX4_isOne_54 (t := 88) (by decide) (fun c_54 => ?_) (fun c_54 => ?_)
        · skip
          refine e_aloadn (pc := 88) dX4_isOne_88 rfl ?_
          refine e_cvY (pc := 89) (sp_x_goOnP hL hN hN1 hP) dX4_isOne_89 kX4_28 rfl rfl rfl rfl rfl (mc_CR_of (Nat.le_of_ble_eq_true rfl) (Nat.le_of_ble_eq_true rfl) (Nat.le_refl _) (Nat.le_refl _)) (Nat.le_of_ble_eq_true rfl) (fun w1 hw1 => ?_)
          obtain ⟨u1, c1, hP1, hk1, rfl⟩ := hw1
          refine e_aloadn (pc := 92) dX4_isOne_92 rfl ?_
          refine e_iloadn (pc := 93) dX4_isOne_93 rfl ?_
          refine e_iconst (v := 1) (pc := 94) dX4_isOne_94 (by decide) ?_
          refine e_iadd (pc := 95) dX4_isOne_95 ?_
          refine e_top (y := 1) (by decide) ?_
          refine e_cvX (pc := 96) (sp_x_one4 hL hN hN1 hP1) dX4_isOne_96 kX4_89 rfl rfl rfl rfl rfl (mc_CR_of (Nat.le_of_ble_eq_true rfl) (Nat.le_of_ble_eq_true rfl) (Nat.le_refl _) (Nat.le_refl _)) (Nat.le_of_ble_eq_true rfl) (fun w1 hw1 => ?_)
          obtain ⟨u2, c2, hP2, hk2, rfl⟩ := hw1
          refine e_if_ne (pc := 99) dX4_isOne_99 (t := 104) (by decide) (fun c_99 => ?_) (fun c_99 => ?_)
          · skip
            refine e_aloadn (pc := 104) dX4_isOne_104 rfl ?_
            refine e_bipush (v := -19) (pc := 105) dX4_isOne_105 (by decide) ?_
            refine e_cvY (pc := 107) (sp_x_putP hP2) dX4_isOne_107 kX4_76 rfl rfl rfl rfl rfl (mc_CR_of (Nat.le_of_ble_eq_true rfl) (Nat.le_of_ble_eq_true rfl) (Nat.le_refl _) (Nat.le_refl _)) (Nat.le_of_ble_eq_true rfl) (fun w1 hw1 => ?_)
            obtain ⟨u3, c3, hP3, hk3, rfl⟩ := hw1
            refine e_iconst (v := 1) (pc := 110) dX4_isOne_110 (by decide) ?_
            exact e_zret (pc := 111) dX4_isOne_111 rfl (by rfl) (Nat.le_refl _) (Nat.le_refl _) (have e : (xlv (xT a) N 5).1 R o = (true, ((xlv (xT a) N 4).1 (ynx (xT a) N R.2.1) o).2.1, xput ((xlv (xT a) N 4).1 (ynx (xT a) N R.2.1) o).2.2 (-19)) := (by rw [xlv_oS]; simp only [xone]; rw [if_neg (show ¬ -6 ≤ xtk1 R by rw [← ht]; exact Int32.not_le.mpr c_6), if_neg (show ¬ xtk1 R = -20 by rw [← ht]; exact c_54), if_pos (show xtk1 R = -17 from absurd (show u 2 = -20 from c_38) c_54), if_pos (mc_b1.mp c_99)]); ⟨by rw [e]; rfl, u3, c3, by rw [e]; dsimp only; exact hP3, (hk1.trans hk2).trans hk3, rfl⟩)
          · skip
            refine e_iconst (v := 0) (pc := 102) dX4_isOne_102 (by decide) ?_
            exact e_zret (pc := 103) dX4_isOne_103 rfl (by rfl) (Nat.le_refl _) (Nat.le_refl _) (have e : (xlv (xT a) N 5).1 R o = (false, ((xlv (xT a) N 4).1 (ynx (xT a) N R.2.1) o).2) := (by rw [xlv_oS]; simp only [xone]; rw [if_neg (show ¬ -6 ≤ xtk1 R by rw [← ht]; exact Int32.not_le.mpr c_6), if_neg (show ¬ xtk1 R = -20 by rw [← ht]; exact c_54), if_pos (show xtk1 R = -17 from absurd (show u 2 = -20 from c_38) c_54), if_neg (show ¬ ((xlv (xT a) N 4).1 (ynx (xT a) N R.2.1) o).1 = true by rw [mc_b0.mp c_99]; decide)]); ⟨by rw [e]; rfl, u2, c2, by rw [e]; dsimp only; exact hP2, hk1.trans hk2, rfl⟩)
        · skip
          refine e_aloadn (pc := 57) dX4_isOne_57 rfl ?_
          refine e_cvY (pc := 58) (sp_x_goOnP hL hN hN1 hP) dX4_isOne_58 kX4_28 rfl rfl rfl rfl rfl (mc_CR_of (Nat.le_of_ble_eq_true rfl) (Nat.le_of_ble_eq_true rfl) (Nat.le_refl _) (Nat.le_refl _)) (Nat.le_of_ble_eq_true rfl) (fun w1 hw1 => ?_)
          obtain ⟨u1, c1, hP1, hk1, rfl⟩ := hw1
          refine e_aloadn (pc := 61) dX4_isOne_61 rfl ?_
          refine e_iloadn (pc := 62) dX4_isOne_62 rfl ?_
          refine e_iconst (v := 1) (pc := 63) dX4_isOne_63 (by decide) ?_
          refine e_iadd (pc := 64) dX4_isOne_64 ?_
          refine e_top (y := 1) (by decide) ?_
          refine e_cvX (pc := 65) (sp_x_E4 hL hN hN1 hP1) dX4_isOne_65 kX4_70 rfl rfl rfl rfl rfl (mc_CR_of (Nat.le_of_ble_eq_true rfl) (Nat.le_of_ble_eq_true rfl) (Nat.le_refl _) (Nat.le_refl _)) (Nat.le_of_ble_eq_true rfl) (fun w1 hw1 => ?_)
          obtain ⟨u2, c2, hP2, hk2, rfl⟩ := hw1
          refine e_if_eq (pc := 68) dX4_isOne_68 (t := 80) (by decide) (fun c_68 => ?_) (fun c_68 => ?_)
          · skip
            refine e_iconst (v := 0) (pc := 80) dX4_isOne_80 (by decide) ?_
            exact e_zret (pc := 81) dX4_isOne_81 rfl (by rfl) (Nat.le_refl _) (Nat.le_refl _) (have e : (xlv (xT a) N 5).1 R o = (false, (xE (xT a) N (xlv (xT a) N 4).2 (ynx (xT a) N R.2.1) o).2) := (by rw [xlv_oS]; simp only [xone]; rw [if_neg (show ¬ -6 ≤ xtk1 R by rw [← ht]; exact Int32.not_le.mpr c_6), if_pos (show xtk1 R = -20 by rw [← ht]; exact c_54), if_neg (show ¬ (xE (xT a) N (xlv (xT a) N 4).2 (ynx (xT a) N R.2.1) o).1 = true by rw [mc_b0.mp c_68]; decide)]); ⟨by rw [e]; rfl, u2, c2, by rw [e]; dsimp only; exact hP2, hk1.trans hk2, rfl⟩)
          · skip
            refine e_aloadn (pc := 71) dX4_isOne_71 rfl ?_
            refine e_get (pc := 72) dX4_isOne_72 fX4_41 rfl rfl ?_
            refine e_bipush (v := -21) (pc := 75) dX4_isOne_75 (by decide) ?_
            refine e_icmp_eq (pc := 77) dX4_isOne_77 (t := 82) (by decide) (fun c_77 => ?_) (fun c_77 => ?_)
            · skip
              refine e_aloadn (pc := 82) dX4_isOne_82 rfl ?_
              refine e_cvY (pc := 83) (sp_x_goOnP hL hN hN1 hP2) dX4_isOne_83 kX4_28 rfl rfl rfl rfl rfl (mc_CR_of (Nat.le_of_ble_eq_true rfl) (Nat.le_of_ble_eq_true rfl) (Nat.le_refl _) (Nat.le_refl _)) (Nat.le_of_ble_eq_true rfl) (fun w1 hw1 => ?_)
              obtain ⟨u3, c3, hP3, hk3, rfl⟩ := hw1
              refine e_iconst (v := 1) (pc := 86) dX4_isOne_86 (by decide) ?_
              exact e_zret (pc := 87) dX4_isOne_87 rfl (by rfl) (Nat.le_refl _) (Nat.le_refl _) (have e : (xlv (xT a) N 5).1 R o = (true, ynx (xT a) N (xE (xT a) N (xlv (xT a) N 4).2 (ynx (xT a) N R.2.1) o).2.1.2.1, (xE (xT a) N (xlv (xT a) N 4).2 (ynx (xT a) N R.2.1) o).2.2) := (by rw [xlv_oS]; simp only [xone]; rw [if_neg (show ¬ -6 ≤ xtk1 R by rw [← ht]; exact Int32.not_le.mpr c_6), if_pos (show xtk1 R = -20 by rw [← ht]; exact c_54), if_pos (mc_b1.mp c_68), if_pos (show xtk1 (xE (xT a) N (xlv (xT a) N 4).2 (ynx (xT a) N R.2.1) o).2.1 = -21 by rw [← hP2.2.2.1]; exact c_77)]); ⟨by rw [e]; rfl, u3, c3, by rw [e]; dsimp only; exact hP3, (hk1.trans hk2).trans hk3, rfl⟩)
            · skip
              refine e_iconst (v := 0) (pc := 80) dX4_isOne_80 (by decide) ?_
              exact e_zret (pc := 81) dX4_isOne_81 rfl (by rfl) (Nat.le_refl _) (Nat.le_refl _) (have e : (xlv (xT a) N 5).1 R o = (false, (xE (xT a) N (xlv (xT a) N 4).2 (ynx (xT a) N R.2.1) o).2) := (by rw [xlv_oS]; simp only [xone]; rw [if_neg (show ¬ -6 ≤ xtk1 R by rw [← ht]; exact Int32.not_le.mpr c_6), if_pos (show xtk1 R = -20 by rw [← ht]; exact c_54), if_pos (mc_b1.mp c_68), if_neg (show ¬ xtk1 (xE (xT a) N (xlv (xT a) N 4).2 (ynx (xT a) N R.2.1) o).2.1 = -21 by rw [← hP2.2.2.1]; exact c_77)]); ⟨by rw [e]; rfl, u2, c2, by rw [e]; dsimp only; exact hP2, hk1.trans hk2, rfl⟩)
  · skip
    refine e_aloadn (pc := 9) dX4_isOne_9 rfl ?_
    refine e_aloadn (pc := 10) dX4_isOne_10 rfl ?_
    refine e_get (pc := 11) dX4_isOne_11 fX4_41 rfl rfl ?_
    refine e_cvY (pc := 14) (sp_x_putP hP) dX4_isOne_14 kX4_76 rfl rfl rfl rfl rfl (mc_CR_of (Nat.le_of_ble_eq_true rfl) (Nat.le_of_ble_eq_true rfl) (Nat.le_refl _) (Nat.le_refl _)) (Nat.le_of_ble_eq_true rfl) (fun w1 hw1 => ?_)
    obtain ⟨u1, c1, hP1, hk1, rfl⟩ := hw1
    rw [ht] at hP1
    refine e_aloadn (pc := 17) dX4_isOne_17 rfl ?_
    refine e_cvY (pc := 18) (sp_x_goOnP hL hN hN1 hP1) dX4_isOne_18 kX4_28 rfl rfl rfl rfl rfl (mc_CR_of (Nat.le_of_ble_eq_true rfl) (Nat.le_of_ble_eq_true rfl) (Nat.le_refl _) (Nat.le_refl _)) (Nat.le_of_ble_eq_true rfl) (fun w1 hw1 => ?_)
    obtain ⟨u2, c2, hP2, hk2, rfl⟩ := hw1
    refine e_iconst (v := 1) (pc := 21) dX4_isOne_21 (by decide) ?_
    exact e_zret (pc := 22) dX4_isOne_22 rfl (by rfl) (Nat.le_refl _) (Nat.le_refl _) (have e : (xlv (xT a) N 5).1 R o = (true, ynx (xT a) N R.2.1, xput o (xtk1 R)) := (by rw [xlv_oS]; unfold xone; rw [if_pos (show -6 ≤ xtk1 R by rw [← ht]; exact Int32.not_lt.mp c_6)]); ⟨by rw [e]; rfl, u2, c2, by rw [e]; dsimp only; exact hP2, hk1.trans hk2, rfl⟩)
theorem lp_x_term5 {s m n : Nat → Int32} {a b d : Nat → List Int32} {q : List (Option Nat)} {h : Nat} {z : mc_W} (hL : xL a) {N : Nat} (hN : s 5 = nI N) (hN1 : N ≤ 160) {ub : Nat → Int32} {cb : Nat → List Int32} {V : Bool × xR × List Int32} :
    ∀ (f i : Nat) (R : xR) (o : List Int32) (u : Nat → Int32) (c : Nat → List Int32), i + f = 160 → xPS N R o u c → xPK ub u cb c → xlp (xT a) N (xlv (xT a) N 5).1 xM18 f R o = V →
      mc_E RX4 cX4_isTerm 3 (mc_JM (some .boolean) false 39 0 0 (fun r' w' => r' = some (.int (mc_b V.1)) ∧ ∃ u1 c1, xPS N V.2.1 V.2.2 u1 c1 ∧ xPK ub u1 cb c1 ∧ w' = (WW s a q u1 c1 h m b n d z))) 12 [some (.ref 6), some (.int 0), some (.int (nI i))] [] (WW s a q u c h m b n d z) 0 0 := by
  intro f
  induction f with
  | zero =>
    intro i R o u c hi hP hkb hV
    have e : i = 160 := by omega
    subst e
    simp only [xlp] at hV
    subst hV
    refine e_iloadn (pc := 12) dX4_isTerm_12 rfl ?_
    refine e_sipush (v := 160) (pc := 13) dX4_isTerm_13 (by decide) ?_
    refine e_icmp_ge (pc := 16) dX4_isTerm_16 (t := 54) (by decide) (fun _ => ?_) (fun c_16 => absurd (by decide) c_16)
    refine e_iconst (v := 1) (pc := 54) dX4_isTerm_54 (by decide) ?_
    exact e_zret (pc := 55) dX4_isTerm_55 rfl (by rfl) (Nat.le_refl _) (Nat.le_refl _) ⟨rfl, u, c, hP, hkb, rfl⟩
  | succ f ih =>
    intro i R o u c hi hP hkb hV
    simp only [xlp] at hV
    have hi1 : i < 160 := by omega
    have ht := hP.2.2.1
    refine e_iloadn (pc := 12) dX4_isTerm_12 rfl ?_
    refine e_sipush (v := 160) (pc := 13) dX4_isTerm_13 (by decide) ?_
    refine e_icmp_ge (pc := 16) dX4_isTerm_16 (t := 54) (by decide) (fun c_16 => absurd c_16 (nI_ge hi1 (by decide))) (fun _ => ?_)
    refine e_aloadn (pc := 19) dX4_isTerm_19 rfl ?_
    refine e_get (pc := 20) dX4_isTerm_20 fX4_41 rfl rfl ?_
    refine e_bipush (v := -18) (pc := 23) dX4_isTerm_23 (by decide) ?_
    refine e_icmp_ne (pc := 25) dX4_isTerm_25 (t := 54) (by decide) (fun c_25 => ?_) (fun c_25 => ?_)
    · skip
      refine e_iconst (v := 1) (pc := 54) dX4_isTerm_54 (by decide) ?_
      exact e_zret (pc := 55) dX4_isTerm_55 rfl (by rfl) (Nat.le_refl _) (Nat.le_refl _) ⟨by rw [← hV, if_neg (show ¬ xM18 (xtk1 R) = true by rw [← ht]; unfold xM18; simp [c_25])]; rfl, u, c, by rw [← hV, if_neg (show ¬ xM18 (xtk1 R) = true by rw [← ht]; unfold xM18; simp [c_25])]; exact hP, hkb, rfl⟩
    · skip
      refine e_aloadn (pc := 28) dX4_isTerm_28 rfl ?_
      refine e_cvY (pc := 29) (sp_x_goOnP hL hN hN1 hP) dX4_isTerm_29 kX4_28 rfl rfl rfl rfl rfl (mc_CR_of (Nat.le_of_ble_eq_true rfl) (Nat.le_of_ble_eq_true rfl) (Nat.le_refl _) (Nat.le_refl _)) (Nat.le_of_ble_eq_true rfl) (fun w1 hw1 => ?_)
      obtain ⟨u1, c1, hP1, hk1, rfl⟩ := hw1
      refine e_aloadn (pc := 32) dX4_isTerm_32 rfl ?_
      refine e_iloadn (pc := 33) dX4_isTerm_33 rfl ?_
      refine e_cvX (pc := 34) (sp_x_one5 hL hN hN1 hP1) dX4_isTerm_34 kX4_89 rfl rfl rfl rfl rfl (mc_CR_of (Nat.le_of_ble_eq_true rfl) (Nat.le_of_ble_eq_true rfl) (Nat.le_refl _) (Nat.le_refl _)) (Nat.le_of_ble_eq_true rfl) (fun w1 hw1 => ?_)
      obtain ⟨u2, c2, hP2, hk2, rfl⟩ := hw1
      refine e_if_ne (pc := 37) dX4_isTerm_37 (t := 42) (by decide) (fun c_37 => ?_) (fun c_37 => ?_)
      · skip
        refine e_aloadn (pc := 42) dX4_isTerm_42 rfl ?_
        refine e_bipush (v := -18) (pc := 43) dX4_isTerm_43 (by decide) ?_
        refine e_cvY (pc := 45) (sp_x_putP hP2) dX4_isTerm_45 kX4_76 rfl rfl rfl rfl rfl (mc_CR_of (Nat.le_of_ble_eq_true rfl) (Nat.le_of_ble_eq_true rfl) (Nat.le_refl _) (Nat.le_refl _)) (Nat.le_of_ble_eq_true rfl) (fun w1 hw1 => ?_)
        obtain ⟨u3, c3, hP3, hk3, rfl⟩ := hw1
        refine e_incC2 (pc := 48) dX4_isTerm_48 (nI_1 i) (Nat.le_of_ble_eq_true rfl) rfl ?_
        refine e_goto (pc := 51) dX4_isTerm_51 (t := 12) (by decide) ?_
        exact ih (i + 1) _ _ _ _ (by omega) (by rw [show (-18 : Int32) = xtk1 R from by rw [← ht, c_25]] at hP3; exact hP3) (((hkb.trans hk1).trans hk2).trans hk3) (by rw [← hV, if_pos (show xM18 (xtk1 R) = true by rw [← ht, c_25]; decide), if_pos (mc_b1.mp c_37)])
      · skip
        refine e_iconst (v := 0) (pc := 40) dX4_isTerm_40 (by decide) ?_
        exact e_zret (pc := 41) dX4_isTerm_41 rfl (by rfl) (Nat.le_refl _) (Nat.le_refl _) ⟨by rw [← hV, if_pos (show xM18 (xtk1 R) = true by rw [← ht, c_25]; decide), if_neg (show ¬ ((xlv (xT a) N 5).1 (ynx (xT a) N R.2.1) o).1 = true by rw [mc_b0.mp c_37]; decide)]; rfl, u2, c2, by rw [← hV, if_pos (show xM18 (xtk1 R) = true by rw [← ht, c_25]; decide), if_neg (show ¬ ((xlv (xT a) N 5).1 (ynx (xT a) N R.2.1) o).1 = true by rw [mc_b0.mp c_37]; decide)]; exact hP2, (hkb.trans hk1).trans hk2, rfl⟩
theorem sp_x_term5 {s u m n : Nat → Int32} {a c b d : Nat → List Int32} {q : List (Option Nat)} {h : Nat} {z : mc_W} (hL : xL a) {N : Nat} (hN : s 5 = nI N) (hN1 : N ≤ 160) {R : xR} {o : List Int32} (hP : xPS N R o u c) : mc_T yX4_isTerm cX4_isTerm 3 (some .boolean) 39 [.ref 6, .int 0] (WW s a q u c h m b n d z) (some (.int (mc_b (xterm (xT a) N (xlv (xT a) N 5).1 R o).1))) (fun w1 => ∃ u1 c1, xPS N (xterm (xT a) N (xlv (xT a) N 5).1 R o).2.1 (xterm (xT a) N (xlv (xT a) N 5).1 R o).2.2 u1 c1 ∧ xPK u u1 c c1 ∧ w1 = (WW s a q u1 c1 h m b n d z)) := by
  refine mc_start (own := RX4) (ini := false) rfl (by decide +kernel) (fun h => by cases h) (Nat.le_of_ble_eq_true rfl) ?_
  show mc_E _ _ _ _ _ [some (.ref 6), some (.int 0), none] [] _ _ _
  refine e_aloadn (pc := 0) dX4_isTerm_0 rfl ?_
  refine e_iloadn (pc := 1) dX4_isTerm_1 rfl ?_
  refine e_cvX (pc := 2) (sp_x_one5 hL hN hN1 hP) dX4_isTerm_2 kX4_89 rfl rfl rfl rfl rfl (mc_CR_of (Nat.le_of_ble_eq_true rfl) (Nat.le_of_ble_eq_true rfl) (Nat.le_refl _) (Nat.le_refl _)) (Nat.le_of_ble_eq_true rfl) (fun w1 hw1 => ?_)
  obtain ⟨u1, c1, hP1, hk1, rfl⟩ := hw1
  refine e_if_ne (pc := 5) dX4_isTerm_5 (t := 10) (by decide) (fun c_5 => ?_) (fun c_5 => ?_)
  · skip
    refine e_iconst (v := 0) (pc := 10) dX4_isTerm_10 (by decide) ?_
    refine e_isn2 (pc := 11) dX4_isTerm_11 (Nat.le_of_ble_eq_true rfl) rfl ?_
    have e : xterm (xT a) N (xlv (xT a) N 5).1 R o = xlp (xT a) N (xlv (xT a) N 5).1 xM18 160 ((xlv (xT a) N 5).1 R o).2.1 ((xlv (xT a) N 5).1 R o).2.2 := if_pos (mc_b1.mp c_5)
    rw [e]
    exact lp_x_term5 hL hN hN1 160 0 _ _ u1 c1 (by omega) hP1 hk1 rfl
  · skip
    refine e_iconst (v := 0) (pc := 8) dX4_isTerm_8 (by decide) ?_
    exact e_zret (pc := 9) dX4_isTerm_9 rfl (by rfl) (Nat.le_refl _) (Nat.le_refl _) (have e : xterm (xT a) N (xlv (xT a) N 5).1 R o = (false, ((xlv (xT a) N 5).1 R o).2) := if_neg (show ¬ ((xlv (xT a) N 5).1 R o).1 = true by rw [mc_b0.mp c_5]; decide); ⟨by rw [e]; rfl, u1, c1, by rw [e]; dsimp only; exact hP1, hk1, rfl⟩)
theorem lp_x_sum5 {s m n : Nat → Int32} {a b d : Nat → List Int32} {q : List (Option Nat)} {h : Nat} {z : mc_W} (hL : xL a) {N : Nat} (hN : s 5 = nI N) (hN1 : N ≤ 160) {ub : Nat → Int32} {cb : Nat → List Int32} {V : Bool × xR × List Int32} :
    ∀ (f i : Nat) (R : xR) (o : List Int32) (u : Nat → Int32) (c : Nat → List Int32) (x3 : Option Value), i + f = 160 → xPS N R o u c → xPK ub u cb c → xlp (xT a) N (xterm (xT a) N (xlv (xT a) N 5).1) xM16 f R o = V →
      mc_E RX4 cX4_isSum 4 (mc_JM (some .boolean) false 40 0 0 (fun r' w' => r' = some (.int (mc_b V.1)) ∧ ∃ u1 c1, xPS N V.2.1 V.2.2 u1 c1 ∧ xPK ub u1 cb c1 ∧ w' = (WW s a q u1 c1 h m b n d z))) 12 [some (.ref 6), some (.int 0), some (.int (nI i)), x3] [] (WW s a q u c h m b n d z) 0 0 := by
  intro f
  induction f with
  | zero =>
    intro i R o u c x3 hi hP hkb hV
    have e : i = 160 := by omega
    subst e
    simp only [xlp] at hV
    subst hV
    refine e_iloadn (pc := 12) dX4_isSum_12 rfl ?_
    refine e_sipush (v := 160) (pc := 13) dX4_isSum_13 (by decide) ?_
    refine e_icmp_ge (pc := 16) dX4_isSum_16 (t := 67) (by decide) (fun _ => ?_) (fun c_16 => absurd (by decide) c_16)
    refine e_iconst (v := 1) (pc := 67) dX4_isSum_67 (by decide) ?_
    exact e_zret (pc := 68) dX4_isSum_68 rfl (by rfl) (Nat.le_refl _) (Nat.le_refl _) ⟨rfl, u, c, hP, hkb, rfl⟩
  | succ f ih =>
    intro i R o u c x3 hi hP hkb hV
    simp only [xlp] at hV
    have hi1 : i < 160 := by omega
    have ht := hP.2.2.1
    refine e_iloadn (pc := 12) dX4_isSum_12 rfl ?_
    refine e_sipush (v := 160) (pc := 13) dX4_isSum_13 (by decide) ?_
    refine e_icmp_ge (pc := 16) dX4_isSum_16 (t := 67) (by decide) (fun c_16 => absurd c_16 (nI_ge hi1 (by decide))) (fun _ => ?_)
    refine e_aloadn (pc := 19) dX4_isSum_19 rfl ?_
    refine e_get (pc := 20) dX4_isSum_20 fX4_41 rfl rfl ?_
    refine e_bipush (v := -16) (pc := 23) dX4_isSum_23 (by decide) ?_
    refine e_icmp_eq (pc := 25) dX4_isSum_25 (t := 37) (by decide) (fun c_25 => ?_) (fun c_25 => ?_)
    · skip
      refine e_aloadn (pc := 37) dX4_isSum_37 rfl ?_
      refine e_get (pc := 38) dX4_isSum_38 fX4_41 rfl rfl ?_
      refine e_isn3 (pc := 41) dX4_isSum_41 (Nat.le_of_ble_eq_true rfl) rfl ?_
      refine e_aloadn (pc := 42) dX4_isSum_42 rfl ?_
      refine e_cvY (pc := 43) (sp_x_goOnP hL hN hN1 hP) dX4_isSum_43 kX4_28 rfl rfl rfl rfl rfl (mc_CR_of (Nat.le_of_ble_eq_true rfl) (Nat.le_of_ble_eq_true rfl) (Nat.le_refl _) (Nat.le_refl _)) (Nat.le_of_ble_eq_true rfl) (fun w1 hw1 => ?_)
      obtain ⟨u1, c1, hP1, hk1, rfl⟩ := hw1
      refine e_aloadn (pc := 46) dX4_isSum_46 rfl ?_
      refine e_iloadn (pc := 47) dX4_isSum_47 rfl ?_
      refine e_cvX (pc := 48) (sp_x_term5 hL hN hN1 hP1) dX4_isSum_48 kX4_86 rfl rfl rfl rfl rfl (mc_CR_of (Nat.le_of_ble_eq_true rfl) (Nat.le_of_ble_eq_true rfl) (Nat.le_refl _) (Nat.le_refl _)) (Nat.le_of_ble_eq_true rfl) (fun w1 hw1 => ?_)
      obtain ⟨u2, c2, hP2, hk2, rfl⟩ := hw1
      refine e_if_ne (pc := 51) dX4_isSum_51 (t := 56) (by decide) (fun c_51 => ?_) (fun c_51 => ?_)
      · skip
        refine e_aloadn (pc := 56) dX4_isSum_56 rfl ?_
        refine e_iloadn (pc := 57) dX4_isSum_57 rfl ?_
        refine e_cvY (pc := 58) (sp_x_putP hP2) dX4_isSum_58 kX4_76 rfl rfl rfl rfl rfl (mc_CR_of (Nat.le_of_ble_eq_true rfl) (Nat.le_of_ble_eq_true rfl) (Nat.le_refl _) (Nat.le_refl _)) (Nat.le_of_ble_eq_true rfl) (fun w1 hw1 => ?_)
        obtain ⟨u3, c3, hP3, hk3, rfl⟩ := hw1
        refine e_incC2 (pc := 61) dX4_isSum_61 (nI_1 i) (Nat.le_of_ble_eq_true rfl) rfl ?_
        refine e_goto (pc := 64) dX4_isSum_64 (t := 12) (by decide) ?_
        exact ih (i + 1) _ _ _ _ _ (by omega) (by rw [show u 2 = xtk1 R from ht] at hP3; exact hP3) (((hkb.trans hk1).trans hk2).trans hk3) (by rw [← hV, if_pos (show xM16 (xtk1 R) = true by rw [← ht, c_25]; decide), if_pos (mc_b1.mp c_51)])
      · skip
        refine e_iconst (v := 0) (pc := 54) dX4_isSum_54 (by decide) ?_
        exact e_zret (pc := 55) dX4_isSum_55 rfl (by rfl) (Nat.le_refl _) (Nat.le_refl _) ⟨by rw [← hV, if_pos (show xM16 (xtk1 R) = true by rw [← ht, c_25]; decide), if_neg (show ¬ ((xterm (xT a) N (xlv (xT a) N 5).1) (ynx (xT a) N R.2.1) o).1 = true by rw [mc_b0.mp c_51]; decide)]; rfl, u2, c2, by rw [← hV, if_pos (show xM16 (xtk1 R) = true by rw [← ht, c_25]; decide), if_neg (show ¬ ((xterm (xT a) N (xlv (xT a) N 5).1) (ynx (xT a) N R.2.1) o).1 = true by rw [mc_b0.mp c_51]; decide)]; exact hP2, (hkb.trans hk1).trans hk2, rfl⟩
    · skip
      refine e_aloadn (pc := 28) dX4_isSum_28 rfl ?_
      refine e_get (pc := 29) dX4_isSum_29 fX4_41 rfl rfl ?_
      refine e_bipush (v := -17) (pc := 32) dX4_isSum_32 (by decide) ?_
      refine e_icmp_ne (pc := 34) dX4_isSum_34 (t := 67) (by decide) (fun c_34 => ?_) (fun c_34 => ?_)
      · skip
        refine e_iconst (v := 1) (pc := 67) dX4_isSum_67 (by decide) ?_
        exact e_zret (pc := 68) dX4_isSum_68 rfl (by rfl) (Nat.le_refl _) (Nat.le_refl _) ⟨by rw [← hV, if_neg (show ¬ xM16 (xtk1 R) = true by rw [← ht]; unfold xM16; simp [c_25, c_34])]; rfl, u, c, by rw [← hV, if_neg (show ¬ xM16 (xtk1 R) = true by rw [← ht]; unfold xM16; simp [c_25, c_34])]; exact hP, hkb, rfl⟩
      · skip
        refine e_aloadn (pc := 37) dX4_isSum_37 rfl ?_
        refine e_get (pc := 38) dX4_isSum_38 fX4_41 rfl rfl ?_
        refine e_isn3 (pc := 41) dX4_isSum_41 (Nat.le_of_ble_eq_true rfl) rfl ?_
        refine e_aloadn (pc := 42) dX4_isSum_42 rfl ?_
        refine e_cvY (pc := 43) (sp_x_goOnP hL hN hN1 hP) dX4_isSum_43 kX4_28 rfl rfl rfl rfl rfl (mc_CR_of (Nat.le_of_ble_eq_true rfl) (Nat.le_of_ble_eq_true rfl) (Nat.le_refl _) (Nat.le_refl _)) (Nat.le_of_ble_eq_true rfl) (fun w1 hw1 => ?_)
        obtain ⟨u1, c1, hP1, hk1, rfl⟩ := hw1
        refine e_aloadn (pc := 46) dX4_isSum_46 rfl ?_
        refine e_iloadn (pc := 47) dX4_isSum_47 rfl ?_
        refine e_cvX (pc := 48) (sp_x_term5 hL hN hN1 hP1) dX4_isSum_48 kX4_86 rfl rfl rfl rfl rfl (mc_CR_of (Nat.le_of_ble_eq_true rfl) (Nat.le_of_ble_eq_true rfl) (Nat.le_refl _) (Nat.le_refl _)) (Nat.le_of_ble_eq_true rfl) (fun w1 hw1 => ?_)
        obtain ⟨u2, c2, hP2, hk2, rfl⟩ := hw1
        refine e_if_ne (pc := 51) dX4_isSum_51 (t := 56) (by decide) (fun c_51 => ?_) (fun c_51 => ?_)
        · skip
          refine e_aloadn (pc := 56) dX4_isSum_56 rfl ?_
          refine e_iloadn (pc := 57) dX4_isSum_57 rfl ?_
          refine e_cvY (pc := 58) (sp_x_putP hP2) dX4_isSum_58 kX4_76 rfl rfl rfl rfl rfl (mc_CR_of (Nat.le_of_ble_eq_true rfl) (Nat.le_of_ble_eq_true rfl) (Nat.le_refl _) (Nat.le_refl _)) (Nat.le_of_ble_eq_true rfl) (fun w1 hw1 => ?_)
          obtain ⟨u3, c3, hP3, hk3, rfl⟩ := hw1
          refine e_incC2 (pc := 61) dX4_isSum_61 (nI_1 i) (Nat.le_of_ble_eq_true rfl) rfl ?_
          refine e_goto (pc := 64) dX4_isSum_64 (t := 12) (by decide) ?_
          exact ih (i + 1) _ _ _ _ _ (by omega) (by rw [show u 2 = xtk1 R from ht] at hP3; exact hP3) (((hkb.trans hk1).trans hk2).trans hk3) (by rw [← hV, if_pos (show xM16 (xtk1 R) = true by rw [← ht, c_34]; decide), if_pos (mc_b1.mp c_51)])
        · skip
          refine e_iconst (v := 0) (pc := 54) dX4_isSum_54 (by decide) ?_
          exact e_zret (pc := 55) dX4_isSum_55 rfl (by rfl) (Nat.le_refl _) (Nat.le_refl _) ⟨by rw [← hV, if_pos (show xM16 (xtk1 R) = true by rw [← ht, c_34]; decide), if_neg (show ¬ ((xterm (xT a) N (xlv (xT a) N 5).1) (ynx (xT a) N R.2.1) o).1 = true by rw [mc_b0.mp c_51]; decide)]; rfl, u2, c2, by rw [← hV, if_pos (show xM16 (xtk1 R) = true by rw [← ht, c_34]; decide), if_neg (show ¬ ((xterm (xT a) N (xlv (xT a) N 5).1) (ynx (xT a) N R.2.1) o).1 = true by rw [mc_b0.mp c_51]; decide)]; exact hP2, (hkb.trans hk1).trans hk2, rfl⟩
theorem sp_x_sum5 {s u m n : Nat → Int32} {a c b d : Nat → List Int32} {q : List (Option Nat)} {h : Nat} {z : mc_W} (hL : xL a) {N : Nat} (hN : s 5 = nI N) (hN1 : N ≤ 160) {R : xR} {o : List Int32} (hP : xPS N R o u c) : mc_T yX4_isSum cX4_isSum 4 (some .boolean) 40 [.ref 6, .int 0] (WW s a q u c h m b n d z) (some (.int (mc_b (xsum (xT a) N (xlv (xT a) N 5).1 R o).1))) (fun w1 => ∃ u1 c1, xPS N (xsum (xT a) N (xlv (xT a) N 5).1 R o).2.1 (xsum (xT a) N (xlv (xT a) N 5).1 R o).2.2 u1 c1 ∧ xPK u u1 c c1 ∧ w1 = (WW s a q u1 c1 h m b n d z)) := by
  refine mc_start (own := RX4) (ini := false) rfl (by decide +kernel) (fun h => by cases h) (Nat.le_of_ble_eq_true rfl) ?_
  show mc_E _ _ _ _ _ [some (.ref 6), some (.int 0), none, none] [] _ _ _
  refine e_aloadn (pc := 0) dX4_isSum_0 rfl ?_
  refine e_iloadn (pc := 1) dX4_isSum_1 rfl ?_
  refine e_cvX (pc := 2) (sp_x_term5 hL hN hN1 hP) dX4_isSum_2 kX4_86 rfl rfl rfl rfl rfl (mc_CR_of (Nat.le_of_ble_eq_true rfl) (Nat.le_of_ble_eq_true rfl) (Nat.le_refl _) (Nat.le_refl _)) (Nat.le_of_ble_eq_true rfl) (fun w1 hw1 => ?_)
  obtain ⟨u1, c1, hP1, hk1, rfl⟩ := hw1
  refine e_if_ne (pc := 5) dX4_isSum_5 (t := 10) (by decide) (fun c_5 => ?_) (fun c_5 => ?_)
  · skip
    refine e_iconst (v := 0) (pc := 10) dX4_isSum_10 (by decide) ?_
    refine e_isn2 (pc := 11) dX4_isSum_11 (Nat.le_of_ble_eq_true rfl) rfl ?_
    have e : xsum (xT a) N (xlv (xT a) N 5).1 R o = xlp (xT a) N (xterm (xT a) N (xlv (xT a) N 5).1) xM16 160 ((xterm (xT a) N (xlv (xT a) N 5).1) R o).2.1 ((xterm (xT a) N (xlv (xT a) N 5).1) R o).2.2 := if_pos (mc_b1.mp c_5)
    rw [e]
    exact lp_x_sum5 hL hN hN1 160 0 _ _ u1 c1 _ (by omega) hP1 hk1 rfl
  · skip
    refine e_iconst (v := 0) (pc := 8) dX4_isSum_8 (by decide) ?_
    exact e_zret (pc := 9) dX4_isSum_9 rfl (by rfl) (Nat.le_refl _) (Nat.le_refl _) (have e : xsum (xT a) N (xlv (xT a) N 5).1 R o = (false, ((xterm (xT a) N (xlv (xT a) N 5).1) R o).2) := if_neg (show ¬ ((xterm (xT a) N (xlv (xT a) N 5).1) R o).1 = true by rw [mc_b0.mp c_5]; decide); ⟨by rw [e]; rfl, u1, c1, by rw [e]; dsimp only; exact hP1, hk1, rfl⟩)
theorem sp_x_not5 {s u m n : Nat → Int32} {a c b d : Nat → List Int32} {q : List (Option Nat)} {h : Nat} {z : mc_W} (hL : xL a) {N : Nat} (hN : s 5 = nI N) (hN1 : N ≤ 160) {R : xR} {o : List Int32} (hP : xPS N R o u c) : mc_T yX4_isNot cX4_isNot 3 (some .boolean) 41 [.ref 6, .int 0] (WW s a q u c h m b n d z) (some (.int (mc_b ((xlv (xT a) N 5).2 R o).1))) (fun w1 => ∃ u1 c1, xPS N ((xlv (xT a) N 5).2 R o).2.1 ((xlv (xT a) N 5).2 R o).2.2 u1 c1 ∧ xPK u u1 c c1 ∧ w1 = (WW s a q u1 c1 h m b n d z)) := by
  refine mc_start (own := RX4) (ini := false) rfl (by decide +kernel) (fun h => by cases h) (Nat.le_of_ble_eq_true rfl) ?_
  show mc_E _ _ _ _ _ [some (.ref 6), some (.int 0), none] [] _ _ _
  have ht := hP.2.2.1
  refine e_aloadn (pc := 0) dX4_isNot_0 rfl ?_
  refine e_get (pc := 1) dX4_isNot_1 fX4_41 rfl rfl ?_
  refine e_bipush (v := -13) (pc := 4) dX4_isNot_4 (by decide) ?_
  refine e_icmp_ne (pc := 6) dX4_isNot_6 (t := 40) (by decide) (fun c_6 => ?_) (fun c_6 => ?_)
  · skip
    refine e_aloadn (pc := 40) dX4_isNot_40 rfl ?_
    refine e_iloadn (pc := 41) dX4_isNot_41 rfl ?_
    refine e_cvX (pc := 42) (sp_x_sum5 hL hN hN1 hP) dX4_isNot_42 kX4_83 rfl rfl rfl rfl rfl (mc_CR_of (Nat.le_of_ble_eq_true rfl) (Nat.le_of_ble_eq_true rfl) (Nat.le_refl _) (Nat.le_refl _)) (Nat.le_of_ble_eq_true rfl) (fun w1 hw1 => ?_)
    obtain ⟨u1, c1, hP1, hk1, rfl⟩ := hw1
    refine e_if_ne (pc := 45) dX4_isNot_45 (t := 50) (by decide) (fun c_45 => ?_) (fun c_45 => ?_)
    · skip
      refine e_aloadn (pc := 50) dX4_isNot_50 rfl ?_
      refine e_get (pc := 51) dX4_isNot_51 fX4_41 rfl rfl ?_
      refine e_isn2 (pc := 54) dX4_isNot_54 (Nat.le_of_ble_eq_true rfl) rfl ?_
      refine e_iloadn (pc := 55) dX4_isNot_55 rfl ?_
      refine e_bipush (v := -14) (pc := 56) dX4_isNot_56 (by decide) ?_
      refine e_icmp_eq (pc := 58) dX4_isNot_58 (t := 67) (by decide) (fun c_58 => ?_) (fun c_58 => ?_)
      · skip
        refine e_aloadn (pc := 67) dX4_isNot_67 rfl ?_
        refine e_cvY (pc := 68) (sp_x_goOnP hL hN hN1 hP1) dX4_isNot_68 kX4_28 rfl rfl rfl rfl rfl (mc_CR_of (Nat.le_of_ble_eq_true rfl) (Nat.le_of_ble_eq_true rfl) (Nat.le_refl _) (Nat.le_refl _)) (Nat.le_of_ble_eq_true rfl) (fun w1 hw1 => ?_)
        obtain ⟨u2, c2, hP2, hk2, rfl⟩ := hw1
        refine e_aloadn (pc := 71) dX4_isNot_71 rfl ?_
        refine e_iloadn (pc := 72) dX4_isNot_72 rfl ?_
        refine e_cvX (pc := 73) (sp_x_sum5 hL hN hN1 hP2) dX4_isNot_73 kX4_83 rfl rfl rfl rfl rfl (mc_CR_of (Nat.le_of_ble_eq_true rfl) (Nat.le_of_ble_eq_true rfl) (Nat.le_refl _) (Nat.le_refl _)) (Nat.le_of_ble_eq_true rfl) (fun w1 hw1 => ?_)
        obtain ⟨u3, c3, hP3, hk3, rfl⟩ := hw1
        refine e_if_ne (pc := 76) dX4_isNot_76 (t := 81) (by decide) (fun c_76 => ?_) (fun c_76 => ?_)
        · skip
          refine e_aloadn (pc := 81) dX4_isNot_81 rfl ?_
          refine e_iloadn (pc := 82) dX4_isNot_82 rfl ?_
          refine e_cvY (pc := 83) (sp_x_putP hP3) dX4_isNot_83 kX4_76 rfl rfl rfl rfl rfl (mc_CR_of (Nat.le_of_ble_eq_true rfl) (Nat.le_of_ble_eq_true rfl) (Nat.le_refl _) (Nat.le_refl _)) (Nat.le_of_ble_eq_true rfl) (fun w1 hw1 => ?_)
          obtain ⟨u4, c4, hP4, hk4, rfl⟩ := hw1
          refine e_iconst (v := 1) (pc := 86) dX4_isNot_86 (by decide) ?_
          exact e_zret (pc := 87) dX4_isNot_87 rfl (by rfl) (Nat.le_refl _) (Nat.le_refl _) (have e : (xlv (xT a) N 5).2 R o = (true, (xsum (xT a) N (xlv (xT a) N 5).1 (ynx (xT a) N (xsum (xT a) N (xlv (xT a) N 5).1 R o).2.1.2.1) (xsum (xT a) N (xlv (xT a) N 5).1 R o).2.2).2.1, xput (xsum (xT a) N (xlv (xT a) N 5).1 (ynx (xT a) N (xsum (xT a) N (xlv (xT a) N 5).1 R o).2.1.2.1) (xsum (xT a) N (xlv (xT a) N 5).1 R o).2.2).2.2 (xtk1 (xsum (xT a) N (xlv (xT a) N 5).1 R o).2.1)) := (by rw [xlv_nS]; simp only [xnot]; rw [if_neg (show ¬ xtk1 R = -13 by rw [← ht]; exact c_6), if_pos (mc_b1.mp c_45), if_pos (show xM14 (xtk1 (xsum (xT a) N (xlv (xT a) N 5).1 R o).2.1) = true by rw [← hP1.2.2.1, c_58]; decide), if_pos (mc_b1.mp c_76)]); ⟨by rw [e]; rfl, u4, c4, (hP1.2.2.1 ▸ hP4 : xPS N (xsum (xT a) N (xlv (xT a) N 5).1 (ynx (xT a) N (xsum (xT a) N (xlv (xT a) N 5).1 R o).2.1.2.1) (xsum (xT a) N (xlv (xT a) N 5).1 R o).2.2).2.1 (xput (xsum (xT a) N (xlv (xT a) N 5).1 (ynx (xT a) N (xsum (xT a) N (xlv (xT a) N 5).1 R o).2.1.2.1) (xsum (xT a) N (xlv (xT a) N 5).1 R o).2.2).2.2 (xtk1 (xsum (xT a) N (xlv (xT a) N 5).1 R o).2.1)) u4 c4) |> (fun t => by rw [e]; dsimp only; exact t), ((hk1.trans hk2).trans hk3).trans hk4, rfl⟩)
        · skip
          refine e_iconst (v := 0) (pc := 79) dX4_isNot_79 (by decide) ?_
          exact e_zret (pc := 80) dX4_isNot_80 rfl (by rfl) (Nat.le_refl _) (Nat.le_refl _) (have e : (xlv (xT a) N 5).2 R o = (false, (xsum (xT a) N (xlv (xT a) N 5).1 (ynx (xT a) N (xsum (xT a) N (xlv (xT a) N 5).1 R o).2.1.2.1) (xsum (xT a) N (xlv (xT a) N 5).1 R o).2.2).2) := (by rw [xlv_nS]; simp only [xnot]; rw [if_neg (show ¬ xtk1 R = -13 by rw [← ht]; exact c_6), if_pos (mc_b1.mp c_45), if_pos (show xM14 (xtk1 (xsum (xT a) N (xlv (xT a) N 5).1 R o).2.1) = true by rw [← hP1.2.2.1, c_58]; decide), if_neg (show ¬ (xsum (xT a) N (xlv (xT a) N 5).1 (ynx (xT a) N (xsum (xT a) N (xlv (xT a) N 5).1 R o).2.1.2.1) (xsum (xT a) N (xlv (xT a) N 5).1 R o).2.2).1 = true by rw [mc_b0.mp c_76]; decide)]); ⟨by rw [e]; rfl, u3, c3, by rw [e]; dsimp only; exact hP3, (hk1.trans hk2).trans hk3, rfl⟩)
      · skip
        refine e_iloadn (pc := 61) dX4_isNot_61 rfl ?_
        refine e_bipush (v := -15) (pc := 62) dX4_isNot_62 (by decide) ?_
        refine e_icmp_ne (pc := 64) dX4_isNot_64 (t := 86) (by decide) (fun c_64 => ?_) (fun c_64 => ?_)
        · skip
          refine e_iconst (v := 1) (pc := 86) dX4_isNot_86 (by decide) ?_
          exact e_zret (pc := 87) dX4_isNot_87 rfl (by rfl) (Nat.le_refl _) (Nat.le_refl _) (have e : (xlv (xT a) N 5).2 R o = (true, (xsum (xT a) N (xlv (xT a) N 5).1 R o).2) := (by rw [xlv_nS]; simp only [xnot]; rw [if_neg (show ¬ xtk1 R = -13 by rw [← ht]; exact c_6), if_pos (mc_b1.mp c_45), if_neg (show ¬ xM14 (xtk1 (xsum (xT a) N (xlv (xT a) N 5).1 R o).2.1) = true by rw [← hP1.2.2.1]; unfold xM14; simp [c_58, c_64])]); ⟨by rw [e]; rfl, u1, c1, by rw [e]; dsimp only; exact hP1, hk1, rfl⟩)
        · skip
          refine e_aloadn (pc := 67) dX4_isNot_67 rfl ?_
          refine e_cvY (pc := 68) (sp_x_goOnP hL hN hN1 hP1) dX4_isNot_68 kX4_28 rfl rfl rfl rfl rfl (mc_CR_of (Nat.le_of_ble_eq_true rfl) (Nat.le_of_ble_eq_true rfl) (Nat.le_refl _) (Nat.le_refl _)) (Nat.le_of_ble_eq_true rfl) (fun w1 hw1 => ?_)
          obtain ⟨u2, c2, hP2, hk2, rfl⟩ := hw1
          refine e_aloadn (pc := 71) dX4_isNot_71 rfl ?_
          refine e_iloadn (pc := 72) dX4_isNot_72 rfl ?_
          refine e_cvX (pc := 73) (sp_x_sum5 hL hN hN1 hP2) dX4_isNot_73 kX4_83 rfl rfl rfl rfl rfl (mc_CR_of (Nat.le_of_ble_eq_true rfl) (Nat.le_of_ble_eq_true rfl) (Nat.le_refl _) (Nat.le_refl _)) (Nat.le_of_ble_eq_true rfl) (fun w1 hw1 => ?_)
          obtain ⟨u3, c3, hP3, hk3, rfl⟩ := hw1
          refine e_if_ne (pc := 76) dX4_isNot_76 (t := 81) (by decide) (fun c_76 => ?_) (fun c_76 => ?_)
          · skip
            refine e_aloadn (pc := 81) dX4_isNot_81 rfl ?_
            refine e_iloadn (pc := 82) dX4_isNot_82 rfl ?_
            refine e_cvY (pc := 83) (sp_x_putP hP3) dX4_isNot_83 kX4_76 rfl rfl rfl rfl rfl (mc_CR_of (Nat.le_of_ble_eq_true rfl) (Nat.le_of_ble_eq_true rfl) (Nat.le_refl _) (Nat.le_refl _)) (Nat.le_of_ble_eq_true rfl) (fun w1 hw1 => ?_)
            obtain ⟨u4, c4, hP4, hk4, rfl⟩ := hw1
            refine e_iconst (v := 1) (pc := 86) dX4_isNot_86 (by decide) ?_
            exact e_zret (pc := 87) dX4_isNot_87 rfl (by rfl) (Nat.le_refl _) (Nat.le_refl _) (have e : (xlv (xT a) N 5).2 R o = (true, (xsum (xT a) N (xlv (xT a) N 5).1 (ynx (xT a) N (xsum (xT a) N (xlv (xT a) N 5).1 R o).2.1.2.1) (xsum (xT a) N (xlv (xT a) N 5).1 R o).2.2).2.1, xput (xsum (xT a) N (xlv (xT a) N 5).1 (ynx (xT a) N (xsum (xT a) N (xlv (xT a) N 5).1 R o).2.1.2.1) (xsum (xT a) N (xlv (xT a) N 5).1 R o).2.2).2.2 (xtk1 (xsum (xT a) N (xlv (xT a) N 5).1 R o).2.1)) := (by rw [xlv_nS]; simp only [xnot]; rw [if_neg (show ¬ xtk1 R = -13 by rw [← ht]; exact c_6), if_pos (mc_b1.mp c_45), if_pos (show xM14 (xtk1 (xsum (xT a) N (xlv (xT a) N 5).1 R o).2.1) = true by rw [← hP1.2.2.1, c_64]; decide), if_pos (mc_b1.mp c_76)]); ⟨by rw [e]; rfl, u4, c4, (hP1.2.2.1 ▸ hP4 : xPS N (xsum (xT a) N (xlv (xT a) N 5).1 (ynx (xT a) N (xsum (xT a) N (xlv (xT a) N 5).1 R o).2.1.2.1) (xsum (xT a) N (xlv (xT a) N 5).1 R o).2.2).2.1 (xput (xsum (xT a) N (xlv (xT a) N 5).1 (ynx (xT a) N (xsum (xT a) N (xlv (xT a) N 5).1 R o).2.1.2.1) (xsum (xT a) N (xlv (xT a) N 5).1 R o).2.2).2.2 (xtk1 (xsum (xT a) N (xlv (xT a) N 5).1 R o).2.1)) u4 c4) |> (fun t => by rw [e]; dsimp only; exact t), ((hk1.trans hk2).trans hk3).trans hk4, rfl⟩)
          · skip
            refine e_iconst (v := 0) (pc := 79) dX4_isNot_79 (by decide) ?_
            exact e_zret (pc := 80) dX4_isNot_80 rfl (by rfl) (Nat.le_refl _) (Nat.le_refl _) (have e : (xlv (xT a) N 5).2 R o = (false, (xsum (xT a) N (xlv (xT a) N 5).1 (ynx (xT a) N (xsum (xT a) N (xlv (xT a) N 5).1 R o).2.1.2.1) (xsum (xT a) N (xlv (xT a) N 5).1 R o).2.2).2) := (by rw [xlv_nS]; simp only [xnot]; rw [if_neg (show ¬ xtk1 R = -13 by rw [← ht]; exact c_6), if_pos (mc_b1.mp c_45), if_pos (show xM14 (xtk1 (xsum (xT a) N (xlv (xT a) N 5).1 R o).2.1) = true by rw [← hP1.2.2.1, c_64]; decide), if_neg (show ¬ (xsum (xT a) N (xlv (xT a) N 5).1 (ynx (xT a) N (xsum (xT a) N (xlv (xT a) N 5).1 R o).2.1.2.1) (xsum (xT a) N (xlv (xT a) N 5).1 R o).2.2).1 = true by rw [mc_b0.mp c_76]; decide)]); ⟨by rw [e]; rfl, u3, c3, by rw [e]; dsimp only; exact hP3, (hk1.trans hk2).trans hk3, rfl⟩)
    · skip
      refine e_iconst (v := 0) (pc := 48) dX4_isNot_48 (by decide) ?_
      exact e_zret (pc := 49) dX4_isNot_49 rfl (by rfl) (Nat.le_refl _) (Nat.le_refl _) (have e : (xlv (xT a) N 5).2 R o = (false, (xsum (xT a) N (xlv (xT a) N 5).1 R o).2) := (by rw [xlv_nS]; simp only [xnot]; rw [if_neg (show ¬ xtk1 R = -13 by rw [← ht]; exact c_6), if_neg (show ¬ (xsum (xT a) N (xlv (xT a) N 5).1 R o).1 = true by rw [mc_b0.mp c_45]; decide)]); ⟨by rw [e]; rfl, u1, c1, by rw [e]; dsimp only; exact hP1, hk1, rfl⟩)
  · skip
    refine e_iloadn (pc := 9) dX4_isNot_9 rfl ?_
    refine e_iconst (v := 5) (pc := 10) dX4_isNot_10 (by decide) ?_
    refine e_icmp_lt (pc := 11) dX4_isNot_11 (t := 16) (by decide) (fun _ => ?_) (fun c_11 => absurd (by decide) c_11)
    refine e_aloadn (pc := 16) dX4_isNot_16 rfl ?_
    refine e_cvY (pc := 17) (sp_x_goOnP hL hN hN1 hP) dX4_isNot_17 kX4_28 rfl rfl rfl rfl rfl (mc_CR_of (Nat.le_of_ble_eq_true rfl) (Nat.le_of_ble_eq_true rfl) (Nat.le_refl _) (Nat.le_refl _)) (Nat.le_of_ble_eq_true rfl) (fun w1 hw1 => ?_)
    obtain ⟨u1, c1, hP1, hk1, rfl⟩ := hw1
    refine e_aloadn (pc := 20) dX4_isNot_20 rfl ?_
    refine e_iloadn (pc := 21) dX4_isNot_21 rfl ?_
    refine e_iconst (v := 1) (pc := 22) dX4_isNot_22 (by decide) ?_
    refine e_iadd (pc := 23) dX4_isNot_23 ?_
    refine e_top (y := 1) (by decide) ?_
    refine e_cvX (pc := 24) (sp_x_not4 hL hN hN1 hP1) dX4_isNot_24 kX4_80 rfl rfl rfl rfl rfl (mc_CR_of (Nat.le_of_ble_eq_true rfl) (Nat.le_of_ble_eq_true rfl) (Nat.le_refl _) (Nat.le_refl _)) (Nat.le_of_ble_eq_true rfl) (fun w1 hw1 => ?_)
    obtain ⟨u2, c2, hP2, hk2, rfl⟩ := hw1
    refine e_if_ne (pc := 27) dX4_isNot_27 (t := 32) (by decide) (fun c_27 => ?_) (fun c_27 => ?_)
    · skip
      refine e_aloadn (pc := 32) dX4_isNot_32 rfl ?_
      refine e_bipush (v := -13) (pc := 33) dX4_isNot_33 (by decide) ?_
      refine e_cvY (pc := 35) (sp_x_putP hP2) dX4_isNot_35 kX4_76 rfl rfl rfl rfl rfl (mc_CR_of (Nat.le_of_ble_eq_true rfl) (Nat.le_of_ble_eq_true rfl) (Nat.le_refl _) (Nat.le_refl _)) (Nat.le_of_ble_eq_true rfl) (fun w1 hw1 => ?_)
      obtain ⟨u3, c3, hP3, hk3, rfl⟩ := hw1
      refine e_iconst (v := 1) (pc := 38) dX4_isNot_38 (by decide) ?_
      exact e_zret (pc := 39) dX4_isNot_39 rfl (by rfl) (Nat.le_refl _) (Nat.le_refl _) (have e : (xlv (xT a) N 5).2 R o = (true, ((xlv (xT a) N 4).2 (ynx (xT a) N R.2.1) o).2.1, xput ((xlv (xT a) N 4).2 (ynx (xT a) N R.2.1) o).2.2 (-13)) := (by rw [xlv_nS]; simp only [xnot]; rw [if_pos (show xtk1 R = -13 by rw [← ht]; exact c_6), if_pos (mc_b1.mp c_27)]); ⟨by rw [e]; rfl, u3, c3, by rw [e]; dsimp only; exact hP3, (hk1.trans hk2).trans hk3, rfl⟩)
    · skip
      refine e_iconst (v := 0) (pc := 30) dX4_isNot_30 (by decide) ?_
      exact e_zret (pc := 31) dX4_isNot_31 rfl (by rfl) (Nat.le_refl _) (Nat.le_refl _) (have e : (xlv (xT a) N 5).2 R o = (false, ((xlv (xT a) N 4).2 (ynx (xT a) N R.2.1) o).2) := (by rw [xlv_nS]; simp only [xnot]; rw [if_pos (show xtk1 R = -13 by rw [← ht]; exact c_6), if_neg (show ¬ ((xlv (xT a) N 4).2 (ynx (xT a) N R.2.1) o).1 = true by rw [mc_b0.mp c_27]; decide)]); ⟨by rw [e]; rfl, u2, c2, by rw [e]; dsimp only; exact hP2, hk1.trans hk2, rfl⟩)
theorem lp_x_and5 {s m n : Nat → Int32} {a b d : Nat → List Int32} {q : List (Option Nat)} {h : Nat} {z : mc_W} (hL : xL a) {N : Nat} (hN : s 5 = nI N) (hN1 : N ≤ 160) {ub : Nat → Int32} {cb : Nat → List Int32} {V : Bool × xR × List Int32} :
    ∀ (f i : Nat) (R : xR) (o : List Int32) (u : Nat → Int32) (c : Nat → List Int32), i + f = 160 → xPS N R o u c → xPK ub u cb c → xlp (xT a) N (xlv (xT a) N 5).2 xM12 f R o = V →
      mc_E RX4 cX4_isAnd 3 (mc_JM (some .boolean) false 42 0 0 (fun r' w' => r' = some (.int (mc_b V.1)) ∧ ∃ u1 c1, xPS N V.2.1 V.2.2 u1 c1 ∧ xPK ub u1 cb c1 ∧ w' = (WW s a q u1 c1 h m b n d z))) 12 [some (.ref 6), some (.int 0), some (.int (nI i))] [] (WW s a q u c h m b n d z) 0 0 := by
  intro f
  induction f with
  | zero =>
    intro i R o u c hi hP hkb hV
    have e : i = 160 := by omega
    subst e
    simp only [xlp] at hV
    subst hV
    refine e_iloadn (pc := 12) dX4_isAnd_12 rfl ?_
    refine e_sipush (v := 160) (pc := 13) dX4_isAnd_13 (by decide) ?_
    refine e_icmp_ge (pc := 16) dX4_isAnd_16 (t := 54) (by decide) (fun _ => ?_) (fun c_16 => absurd (by decide) c_16)
    refine e_iconst (v := 1) (pc := 54) dX4_isAnd_54 (by decide) ?_
    exact e_zret (pc := 55) dX4_isAnd_55 rfl (by rfl) (Nat.le_refl _) (Nat.le_refl _) ⟨rfl, u, c, hP, hkb, rfl⟩
  | succ f ih =>
    intro i R o u c hi hP hkb hV
    simp only [xlp] at hV
    have hi1 : i < 160 := by omega
    have ht := hP.2.2.1
    refine e_iloadn (pc := 12) dX4_isAnd_12 rfl ?_
    refine e_sipush (v := 160) (pc := 13) dX4_isAnd_13 (by decide) ?_
    refine e_icmp_ge (pc := 16) dX4_isAnd_16 (t := 54) (by decide) (fun c_16 => absurd c_16 (nI_ge hi1 (by decide))) (fun _ => ?_)
    refine e_aloadn (pc := 19) dX4_isAnd_19 rfl ?_
    refine e_get (pc := 20) dX4_isAnd_20 fX4_41 rfl rfl ?_
    refine e_bipush (v := -12) (pc := 23) dX4_isAnd_23 (by decide) ?_
    refine e_icmp_ne (pc := 25) dX4_isAnd_25 (t := 54) (by decide) (fun c_25 => ?_) (fun c_25 => ?_)
    · skip
      refine e_iconst (v := 1) (pc := 54) dX4_isAnd_54 (by decide) ?_
      exact e_zret (pc := 55) dX4_isAnd_55 rfl (by rfl) (Nat.le_refl _) (Nat.le_refl _) ⟨by rw [← hV, if_neg (show ¬ xM12 (xtk1 R) = true by rw [← ht]; unfold xM12; simp [c_25])]; rfl, u, c, by rw [← hV, if_neg (show ¬ xM12 (xtk1 R) = true by rw [← ht]; unfold xM12; simp [c_25])]; exact hP, hkb, rfl⟩
    · skip
      refine e_aloadn (pc := 28) dX4_isAnd_28 rfl ?_
      refine e_cvY (pc := 29) (sp_x_goOnP hL hN hN1 hP) dX4_isAnd_29 kX4_28 rfl rfl rfl rfl rfl (mc_CR_of (Nat.le_of_ble_eq_true rfl) (Nat.le_of_ble_eq_true rfl) (Nat.le_refl _) (Nat.le_refl _)) (Nat.le_of_ble_eq_true rfl) (fun w1 hw1 => ?_)
      obtain ⟨u1, c1, hP1, hk1, rfl⟩ := hw1
      refine e_aloadn (pc := 32) dX4_isAnd_32 rfl ?_
      refine e_iloadn (pc := 33) dX4_isAnd_33 rfl ?_
      refine e_cvX (pc := 34) (sp_x_not5 hL hN hN1 hP1) dX4_isAnd_34 kX4_80 rfl rfl rfl rfl rfl (mc_CR_of (Nat.le_of_ble_eq_true rfl) (Nat.le_of_ble_eq_true rfl) (Nat.le_refl _) (Nat.le_refl _)) (Nat.le_of_ble_eq_true rfl) (fun w1 hw1 => ?_)
      obtain ⟨u2, c2, hP2, hk2, rfl⟩ := hw1
      refine e_if_ne (pc := 37) dX4_isAnd_37 (t := 42) (by decide) (fun c_37 => ?_) (fun c_37 => ?_)
      · skip
        refine e_aloadn (pc := 42) dX4_isAnd_42 rfl ?_
        refine e_bipush (v := -12) (pc := 43) dX4_isAnd_43 (by decide) ?_
        refine e_cvY (pc := 45) (sp_x_putP hP2) dX4_isAnd_45 kX4_76 rfl rfl rfl rfl rfl (mc_CR_of (Nat.le_of_ble_eq_true rfl) (Nat.le_of_ble_eq_true rfl) (Nat.le_refl _) (Nat.le_refl _)) (Nat.le_of_ble_eq_true rfl) (fun w1 hw1 => ?_)
        obtain ⟨u3, c3, hP3, hk3, rfl⟩ := hw1
        refine e_incC2 (pc := 48) dX4_isAnd_48 (nI_1 i) (Nat.le_of_ble_eq_true rfl) rfl ?_
        refine e_goto (pc := 51) dX4_isAnd_51 (t := 12) (by decide) ?_
        exact ih (i + 1) _ _ _ _ (by omega) (by rw [show (-12 : Int32) = xtk1 R from by rw [← ht, c_25]] at hP3; exact hP3) (((hkb.trans hk1).trans hk2).trans hk3) (by rw [← hV, if_pos (show xM12 (xtk1 R) = true by rw [← ht, c_25]; decide), if_pos (mc_b1.mp c_37)])
      · skip
        refine e_iconst (v := 0) (pc := 40) dX4_isAnd_40 (by decide) ?_
        exact e_zret (pc := 41) dX4_isAnd_41 rfl (by rfl) (Nat.le_refl _) (Nat.le_refl _) ⟨by rw [← hV, if_pos (show xM12 (xtk1 R) = true by rw [← ht, c_25]; decide), if_neg (show ¬ ((xlv (xT a) N 5).2 (ynx (xT a) N R.2.1) o).1 = true by rw [mc_b0.mp c_37]; decide)]; rfl, u2, c2, by rw [← hV, if_pos (show xM12 (xtk1 R) = true by rw [← ht, c_25]; decide), if_neg (show ¬ ((xlv (xT a) N 5).2 (ynx (xT a) N R.2.1) o).1 = true by rw [mc_b0.mp c_37]; decide)]; exact hP2, (hkb.trans hk1).trans hk2, rfl⟩
theorem sp_x_and5 {s u m n : Nat → Int32} {a c b d : Nat → List Int32} {q : List (Option Nat)} {h : Nat} {z : mc_W} (hL : xL a) {N : Nat} (hN : s 5 = nI N) (hN1 : N ≤ 160) {R : xR} {o : List Int32} (hP : xPS N R o u c) : mc_T yX4_isAnd cX4_isAnd 3 (some .boolean) 42 [.ref 6, .int 0] (WW s a q u c h m b n d z) (some (.int (mc_b (xand (xT a) N (xlv (xT a) N 5).2 R o).1))) (fun w1 => ∃ u1 c1, xPS N (xand (xT a) N (xlv (xT a) N 5).2 R o).2.1 (xand (xT a) N (xlv (xT a) N 5).2 R o).2.2 u1 c1 ∧ xPK u u1 c c1 ∧ w1 = (WW s a q u1 c1 h m b n d z)) := by
  refine mc_start (own := RX4) (ini := false) rfl (by decide +kernel) (fun h => by cases h) (Nat.le_of_ble_eq_true rfl) ?_
  show mc_E _ _ _ _ _ [some (.ref 6), some (.int 0), none] [] _ _ _
  refine e_aloadn (pc := 0) dX4_isAnd_0 rfl ?_
  refine e_iloadn (pc := 1) dX4_isAnd_1 rfl ?_
  refine e_cvX (pc := 2) (sp_x_not5 hL hN hN1 hP) dX4_isAnd_2 kX4_80 rfl rfl rfl rfl rfl (mc_CR_of (Nat.le_of_ble_eq_true rfl) (Nat.le_of_ble_eq_true rfl) (Nat.le_refl _) (Nat.le_refl _)) (Nat.le_of_ble_eq_true rfl) (fun w1 hw1 => ?_)
  obtain ⟨u1, c1, hP1, hk1, rfl⟩ := hw1
  refine e_if_ne (pc := 5) dX4_isAnd_5 (t := 10) (by decide) (fun c_5 => ?_) (fun c_5 => ?_)
  · skip
    refine e_iconst (v := 0) (pc := 10) dX4_isAnd_10 (by decide) ?_
    refine e_isn2 (pc := 11) dX4_isAnd_11 (Nat.le_of_ble_eq_true rfl) rfl ?_
    have e : xand (xT a) N (xlv (xT a) N 5).2 R o = xlp (xT a) N (xlv (xT a) N 5).2 xM12 160 ((xlv (xT a) N 5).2 R o).2.1 ((xlv (xT a) N 5).2 R o).2.2 := if_pos (mc_b1.mp c_5)
    rw [e]
    exact lp_x_and5 hL hN hN1 160 0 _ _ u1 c1 (by omega) hP1 hk1 rfl
  · skip
    refine e_iconst (v := 0) (pc := 8) dX4_isAnd_8 (by decide) ?_
    exact e_zret (pc := 9) dX4_isAnd_9 rfl (by rfl) (Nat.le_refl _) (Nat.le_refl _) (have e : xand (xT a) N (xlv (xT a) N 5).2 R o = (false, ((xlv (xT a) N 5).2 R o).2) := if_neg (show ¬ ((xlv (xT a) N 5).2 R o).1 = true by rw [mc_b0.mp c_5]; decide); ⟨by rw [e]; rfl, u1, c1, by rw [e]; dsimp only; exact hP1, hk1, rfl⟩)
theorem lp_x_E5 {s m n : Nat → Int32} {a b d : Nat → List Int32} {q : List (Option Nat)} {h : Nat} {z : mc_W} (hL : xL a) {N : Nat} (hN : s 5 = nI N) (hN1 : N ≤ 160) {ub : Nat → Int32} {cb : Nat → List Int32} {V : Bool × xR × List Int32} :
    ∀ (f i : Nat) (R : xR) (o : List Int32) (u : Nat → Int32) (c : Nat → List Int32), i + f = 160 → xPS N R o u c → xPK ub u cb c → xlp (xT a) N (xand (xT a) N (xlv (xT a) N 5).2) xM11 f R o = V →
      mc_E RX4 cX4_isE 3 (mc_JM (some .boolean) false 43 0 0 (fun r' w' => r' = some (.int (mc_b V.1)) ∧ ∃ u1 c1, xPS N V.2.1 V.2.2 u1 c1 ∧ xPK ub u1 cb c1 ∧ w' = (WW s a q u1 c1 h m b n d z))) 12 [some (.ref 6), some (.int 0), some (.int (nI i))] [] (WW s a q u c h m b n d z) 0 0 := by
  intro f
  induction f with
  | zero =>
    intro i R o u c hi hP hkb hV
    have e : i = 160 := by omega
    subst e
    simp only [xlp] at hV
    subst hV
    refine e_iloadn (pc := 12) dX4_isE_12 rfl ?_
    refine e_sipush (v := 160) (pc := 13) dX4_isE_13 (by decide) ?_
    refine e_icmp_ge (pc := 16) dX4_isE_16 (t := 54) (by decide) (fun _ => ?_) (fun c_16 => absurd (by decide) c_16)
    refine e_iconst (v := 1) (pc := 54) dX4_isE_54 (by decide) ?_
    exact e_zret (pc := 55) dX4_isE_55 rfl (by rfl) (Nat.le_refl _) (Nat.le_refl _) ⟨rfl, u, c, hP, hkb, rfl⟩
  | succ f ih =>
    intro i R o u c hi hP hkb hV
    simp only [xlp] at hV
    have hi1 : i < 160 := by omega
    have ht := hP.2.2.1
    refine e_iloadn (pc := 12) dX4_isE_12 rfl ?_
    refine e_sipush (v := 160) (pc := 13) dX4_isE_13 (by decide) ?_
    refine e_icmp_ge (pc := 16) dX4_isE_16 (t := 54) (by decide) (fun c_16 => absurd c_16 (nI_ge hi1 (by decide))) (fun _ => ?_)
    refine e_aloadn (pc := 19) dX4_isE_19 rfl ?_
    refine e_get (pc := 20) dX4_isE_20 fX4_41 rfl rfl ?_
    refine e_bipush (v := -11) (pc := 23) dX4_isE_23 (by decide) ?_
    refine e_icmp_ne (pc := 25) dX4_isE_25 (t := 54) (by decide) (fun c_25 => ?_) (fun c_25 => ?_)
    · skip
      refine e_iconst (v := 1) (pc := 54) dX4_isE_54 (by decide) ?_
      exact e_zret (pc := 55) dX4_isE_55 rfl (by rfl) (Nat.le_refl _) (Nat.le_refl _) ⟨by rw [← hV, if_neg (show ¬ xM11 (xtk1 R) = true by rw [← ht]; unfold xM11; simp [c_25])]; rfl, u, c, by rw [← hV, if_neg (show ¬ xM11 (xtk1 R) = true by rw [← ht]; unfold xM11; simp [c_25])]; exact hP, hkb, rfl⟩
    · skip
      refine e_aloadn (pc := 28) dX4_isE_28 rfl ?_
      refine e_cvY (pc := 29) (sp_x_goOnP hL hN hN1 hP) dX4_isE_29 kX4_28 rfl rfl rfl rfl rfl (mc_CR_of (Nat.le_of_ble_eq_true rfl) (Nat.le_of_ble_eq_true rfl) (Nat.le_refl _) (Nat.le_refl _)) (Nat.le_of_ble_eq_true rfl) (fun w1 hw1 => ?_)
      obtain ⟨u1, c1, hP1, hk1, rfl⟩ := hw1
      refine e_aloadn (pc := 32) dX4_isE_32 rfl ?_
      refine e_iloadn (pc := 33) dX4_isE_33 rfl ?_
      refine e_cvX (pc := 34) (sp_x_and5 hL hN hN1 hP1) dX4_isE_34 kX4_73 rfl rfl rfl rfl rfl (mc_CR_of (Nat.le_of_ble_eq_true rfl) (Nat.le_of_ble_eq_true rfl) (Nat.le_refl _) (Nat.le_refl _)) (Nat.le_of_ble_eq_true rfl) (fun w1 hw1 => ?_)
      obtain ⟨u2, c2, hP2, hk2, rfl⟩ := hw1
      refine e_if_ne (pc := 37) dX4_isE_37 (t := 42) (by decide) (fun c_37 => ?_) (fun c_37 => ?_)
      · skip
        refine e_aloadn (pc := 42) dX4_isE_42 rfl ?_
        refine e_bipush (v := -11) (pc := 43) dX4_isE_43 (by decide) ?_
        refine e_cvY (pc := 45) (sp_x_putP hP2) dX4_isE_45 kX4_76 rfl rfl rfl rfl rfl (mc_CR_of (Nat.le_of_ble_eq_true rfl) (Nat.le_of_ble_eq_true rfl) (Nat.le_refl _) (Nat.le_refl _)) (Nat.le_of_ble_eq_true rfl) (fun w1 hw1 => ?_)
        obtain ⟨u3, c3, hP3, hk3, rfl⟩ := hw1
        refine e_incC2 (pc := 48) dX4_isE_48 (nI_1 i) (Nat.le_of_ble_eq_true rfl) rfl ?_
        refine e_goto (pc := 51) dX4_isE_51 (t := 12) (by decide) ?_
        exact ih (i + 1) _ _ _ _ (by omega) (by rw [show (-11 : Int32) = xtk1 R from by rw [← ht, c_25]] at hP3; exact hP3) (((hkb.trans hk1).trans hk2).trans hk3) (by rw [← hV, if_pos (show xM11 (xtk1 R) = true by rw [← ht, c_25]; decide), if_pos (mc_b1.mp c_37)])
      · skip
        refine e_iconst (v := 0) (pc := 40) dX4_isE_40 (by decide) ?_
        exact e_zret (pc := 41) dX4_isE_41 rfl (by rfl) (Nat.le_refl _) (Nat.le_refl _) ⟨by rw [← hV, if_pos (show xM11 (xtk1 R) = true by rw [← ht, c_25]; decide), if_neg (show ¬ ((xand (xT a) N (xlv (xT a) N 5).2) (ynx (xT a) N R.2.1) o).1 = true by rw [mc_b0.mp c_37]; decide)]; rfl, u2, c2, by rw [← hV, if_pos (show xM11 (xtk1 R) = true by rw [← ht, c_25]; decide), if_neg (show ¬ ((xand (xT a) N (xlv (xT a) N 5).2) (ynx (xT a) N R.2.1) o).1 = true by rw [mc_b0.mp c_37]; decide)]; exact hP2, (hkb.trans hk1).trans hk2, rfl⟩
theorem sp_x_E5 {s u m n : Nat → Int32} {a c b d : Nat → List Int32} {q : List (Option Nat)} {h : Nat} {z : mc_W} (hL : xL a) {N : Nat} (hN : s 5 = nI N) (hN1 : N ≤ 160) {R : xR} {o : List Int32} (hP : xPS N R o u c) : mc_T yX4_isE cX4_isE 3 (some .boolean) 43 [.ref 6, .int 0] (WW s a q u c h m b n d z) (some (.int (mc_b (xE (xT a) N (xlv (xT a) N 5).2 R o).1))) (fun w1 => ∃ u1 c1, xPS N (xE (xT a) N (xlv (xT a) N 5).2 R o).2.1 (xE (xT a) N (xlv (xT a) N 5).2 R o).2.2 u1 c1 ∧ xPK u u1 c c1 ∧ w1 = (WW s a q u1 c1 h m b n d z)) := by
  refine mc_start (own := RX4) (ini := false) rfl (by decide +kernel) (fun h => by cases h) (Nat.le_of_ble_eq_true rfl) ?_
  show mc_E _ _ _ _ _ [some (.ref 6), some (.int 0), none] [] _ _ _
  refine e_aloadn (pc := 0) dX4_isE_0 rfl ?_
  refine e_iloadn (pc := 1) dX4_isE_1 rfl ?_
  refine e_cvX (pc := 2) (sp_x_and5 hL hN hN1 hP) dX4_isE_2 kX4_73 rfl rfl rfl rfl rfl (mc_CR_of (Nat.le_of_ble_eq_true rfl) (Nat.le_of_ble_eq_true rfl) (Nat.le_refl _) (Nat.le_refl _)) (Nat.le_of_ble_eq_true rfl) (fun w1 hw1 => ?_)
  obtain ⟨u1, c1, hP1, hk1, rfl⟩ := hw1
  refine e_if_ne (pc := 5) dX4_isE_5 (t := 10) (by decide) (fun c_5 => ?_) (fun c_5 => ?_)
  · skip
    refine e_iconst (v := 0) (pc := 10) dX4_isE_10 (by decide) ?_
    refine e_isn2 (pc := 11) dX4_isE_11 (Nat.le_of_ble_eq_true rfl) rfl ?_
    have e : xE (xT a) N (xlv (xT a) N 5).2 R o = xlp (xT a) N (xand (xT a) N (xlv (xT a) N 5).2) xM11 160 ((xand (xT a) N (xlv (xT a) N 5).2) R o).2.1 ((xand (xT a) N (xlv (xT a) N 5).2) R o).2.2 := if_pos (mc_b1.mp c_5)
    rw [e]
    exact lp_x_E5 hL hN hN1 160 0 _ _ u1 c1 (by omega) hP1 hk1 rfl
  · skip
    refine e_iconst (v := 0) (pc := 8) dX4_isE_8 (by decide) ?_
    exact e_zret (pc := 9) dX4_isE_9 rfl (by rfl) (Nat.le_refl _) (Nat.le_refl _) (have e : xE (xT a) N (xlv (xT a) N 5).2 R o = (false, ((xand (xT a) N (xlv (xT a) N 5).2) R o).2) := if_neg (show ¬ ((xand (xT a) N (xlv (xT a) N 5).2) R o).1 = true by rw [mc_b0.mp c_5]; decide); ⟨by rw [e]; rfl, u1, c1, by rw [e]; dsimp only; exact hP1, hk1, rfl⟩)
end Zj_6n_x24_5
section Zj_6o_x25
/-! ===== a whole text ===== -/
/-- what stands next, as ynx tells it -/
def xpr (T : Nat → Int32) (N : Nat) (R : xR) : Prop := ∃ A, A ≤ N ∧ R = ynx T N A
theorem ynx_b (T : Nat → Int32) (N A : Nat) (h : A ≤ N) : A ≤ (ynx T N A).1 ∧ (ynx T N A).1 ≤ N ∧ ((ynx T N A).2.2.1 ≠ 0 → (ynx T N A).1 < (ynx T N A).2.1) := by
  obtain ⟨p1, p2⟩ := yws_le T N (N - A) A h
  unfold ynx
  generalize yws T N (N - A) A = P at p1 p2
  by_cases h1 : P = N
  · rw [if_pos h1]; exact ⟨by show A ≤ N; omega, Nat.le_refl _, fun q => absurd rfl q⟩
  · rw [if_neg h1]
    have hPN : P < N := by omega
    by_cases h2 : mc_wi (T P) 97 122 = true
    · rw [if_pos h2]
      refine ⟨p1, p2, fun _ => ?_⟩
      show P < ylt T N (N - P) P
      rw [show N - P = (N - P - 1) + 1 by omega]
      simp only [ylt]
      rw [if_pos ⟨hPN, h2⟩]
      have := (ylt_le T N (N - P - 1) (P + 1) (by omega)).1
      omega
    · rw [if_neg h2]
      by_cases h3 : mc_wi (T P) 48 57 = true
      · rw [if_pos h3]
        refine ⟨p1, p2, fun _ => ?_⟩
        show P < (yda T N (N - P) P 0 0).1
        rw [show N - P = (N - P - 1) + 1 by omega]
        simp only [yda]
        rw [if_pos ⟨hPN, h3⟩]
        have := (yda_k T N (N - P - 1) (P + 1) 1 (if 0 < 4 then 10 * 0 + T P - 48 else 0) (by omega)).2.1
        exact this
      · rw [if_neg h3]; exact ⟨p1, p2, fun _ => Nat.lt_succ_self P⟩
theorem xpr_nx {T : Nat → Int32} {N : Nat} {R : xR} (h : xpr T N R) (ht : xtk1 R ≠ -26) : xpr T N (ynx T N R.2.1) ∧ R.1 + 1 ≤ (ynx T N R.2.1).1 := by
  obtain ⟨A, hA, rfl⟩ := h
  have b := ynx_b T N A hA
  have l := ynx_lt T N A hA
  have t0 : (ynx T N A).2.2.1 ≠ 0 := fun q => ht (by unfold xtk1 xtm; rw [if_pos q])
  have b2 := ynx_b T N _ l.2.1
  exact ⟨⟨_, l.2.1, rfl⟩, by have := b.2.2 t0; omega⟩
/-- a reader puts no more than it takes -/
def xgd (T : Nat → Int32) (N : Nat) (p : xP) : Prop := ∀ R o k, xpr T N R → o.length + k ≤ R.1 → xpr T N (p R o).2.1 ∧ (p R o).2.2.length + k ≤ (p R o).2.1.1
theorem xput_len (o : List Int32) (x : Int32) : (xput o x).length ≤ o.length + 1 := by
  unfold xput; split
  · rw [List.length_append]; exact Nat.le_refl _
  · omega
theorem xgd_lp {T : Nat → Int32} {N : Nat} {p : xP} {M : Int32 → Bool} (hp : xgd T N p) (hM : ∀ t, M t = true → t ≠ -26) : ∀ f, xgd T N (xlp T N p M f) := by
  intro f
  induction f with
  | zero => intro R o k hR hk; exact ⟨hR, hk⟩
  | succ f ih =>
    intro R o k hR hk
    simp only [xlp]
    by_cases h : M (xtk1 R) = true
    · rw [if_pos h]
      have n := xpr_nx hR (hM _ h)
      have g := hp (ynx T N R.2.1) o (k + 1) n.1 (by omega)
      by_cases h2 : (p (ynx T N R.2.1) o).1 = true
      · rw [if_pos h2]
        have := xput_len (p (ynx T N R.2.1) o).2.2 (xtk1 R)
        exact ih _ _ k g.1 (by omega)
      · rw [if_neg h2]
        exact ⟨g.1, by dsimp only; omega⟩
    · rw [if_neg h]; exact ⟨hR, hk⟩
theorem xgd_row {T : Nat → Int32} {N : Nat} {p : xP} {M : Int32 → Bool} (hp : xgd T N p) (hM : ∀ t, M t = true → t ≠ -26) : xgd T N (xrow1 T N p M) := by
  intro R o k hR hk
  unfold xrow1
  have g := hp R o k hR hk
  by_cases h2 : (p R o).1 = true
  · rw [if_pos h2]; exact xgd_lp hp hM 160 _ _ k g.1 g.2
  · rw [if_neg h2]; exact g
theorem xgd_not {T : Nat → Int32} {N : Nat} {nb : Option xP} {sm : xP} (hn : ∀ p, nb = some p → xgd T N p) (hs : xgd T N sm) : xgd T N (xnot T N nb sm) := by
  intro R o k hR hk
  unfold xnot
  by_cases h : xtk1 R = -13
  · rw [if_pos h]
    cases nb with
    | none => exact ⟨hR, hk⟩
    | some p =>
      have n := xpr_nx hR (by rw [h]; decide)
      have g := hn p rfl (ynx T N R.2.1) o (k + 1) n.1 (by omega)
      dsimp only
      by_cases h2 : (p (ynx T N R.2.1) o).1 = true
      · rw [if_pos h2]
        have := xput_len (p (ynx T N R.2.1) o).2.2 (-13)
        exact ⟨g.1, by dsimp only; omega⟩
      · rw [if_neg h2]; exact ⟨g.1, by dsimp only; omega⟩
  · rw [if_neg h]
    have g := hs R o k hR hk
    by_cases h2 : (sm R o).1 = true
    · rw [if_pos h2]
      by_cases h3 : xM14 (xtk1 (sm R o).2.1) = true
      · rw [if_pos h3]
        have n := xpr_nx g.1 (fun q => by rw [q] at h3; exact absurd h3 (by decide))
        have g2 := hs (ynx T N (sm R o).2.1.2.1) (sm R o).2.2 (k + 1) n.1 (by omega)
        by_cases h4 : (sm (ynx T N (sm R o).2.1.2.1) (sm R o).2.2).1 = true
        · rw [if_pos h4]
          have := xput_len (sm (ynx T N (sm R o).2.1.2.1) (sm R o).2.2).2.2 (xtk1 (sm R o).2.1)
          exact ⟨g2.1, by dsimp only; omega⟩
        · rw [if_neg h4]; exact ⟨g2.1, by dsimp only; omega⟩
      · rw [if_neg h3]; exact g
    · rw [if_neg h2]; exact g
theorem xgd_one {T : Nat → Int32} {N : Nat} {eb : Option (xP × xP)} (he : ∀ p, eb = some p → xgd T N p.1 ∧ xgd T N p.2) : xgd T N (xone T N eb) := by
  intro R o k hR hk
  unfold xone
  by_cases h : -6 ≤ xtk1 R
  · rw [if_pos h]
    have n := xpr_nx hR (fun q => by rw [q] at h; exact absurd h (by decide))
    have := xput_len o (xtk1 R)
    exact ⟨n.1, by dsimp only; omega⟩
  · rw [if_neg h]
    cases eb with
    | none => exact ⟨hR, hk⟩
    | some p =>
      obtain ⟨e, b⟩ := p
      have hh := he (e, b) rfl
      dsimp only
      by_cases h2 : xtk1 R = -20
      · rw [if_pos h2]
        have n := xpr_nx hR (by rw [h2]; decide)
        have g := hh.1 (ynx T N R.2.1) o (k + 1) n.1 (by omega)
        dsimp only at g
        by_cases h3 : (e (ynx T N R.2.1) o).1 = true
        · rw [if_pos h3]
          by_cases h4 : xtk1 (e (ynx T N R.2.1) o).2.1 = -21
          · rw [if_pos h4]
            have n2 := xpr_nx g.1 (by rw [h4]; decide)
            exact ⟨n2.1, by dsimp only; omega⟩
          · rw [if_neg h4]; exact ⟨g.1, by dsimp only; omega⟩
        · rw [if_neg h3]; exact ⟨g.1, by dsimp only; omega⟩
      · rw [if_neg h2]
        by_cases h3 : xtk1 R = -17
        · rw [if_pos h3]
          have n := xpr_nx hR (by rw [h3]; decide)
          have g := hh.2 (ynx T N R.2.1) o (k + 1) n.1 (by omega)
          dsimp only at g
          by_cases h4 : (b (ynx T N R.2.1) o).1 = true
          · rw [if_pos h4]
            have := xput_len (b (ynx T N R.2.1) o).2.2 (-19)
            exact ⟨g.1, by dsimp only; omega⟩
          · rw [if_neg h4]; exact ⟨g.1, by dsimp only; omega⟩
        · rw [if_neg h3]; exact ⟨hR, hk⟩
theorem M_no : (∀ t, xM18 t = true → t ≠ -26) ∧ (∀ t, xM16 t = true → t ≠ -26) ∧ (∀ t, xM12 t = true → t ≠ -26) ∧ ∀ t, xM11 t = true → t ≠ -26 :=
  ⟨fun t h q => by rw [q] at h; exact absurd h (by decide), fun t h q => by rw [q] at h; exact absurd h (by decide), fun t h q => by rw [q] at h; exact absurd h (by decide), fun t h q => by rw [q] at h; exact absurd h (by decide)⟩
theorem xgd_E {T : Nat → Int32} {N : Nat} {p : xP} (hp : xgd T N p) : xgd T N (xE T N p) := xgd_row (xgd_row hp M_no.2.2.1) M_no.2.2.2
theorem xgd_sum {T : Nat → Int32} {N : Nat} {p : xP} (hp : xgd T N p) : xgd T N (xsum T N p) := xgd_row (xgd_row hp M_no.1) M_no.2.1
theorem xgd_lv (T : Nat → Int32) (N : Nat) : ∀ g, xgd T N (xlv T N g).1 ∧ xgd T N (xlv T N g).2 := by
  intro g
  induction g with
  | zero =>
    have h1 : xgd T N (xlv T N 0).1 := by rw [xlv_o0]; exact xgd_one (fun p h => by cases h)
    exact ⟨h1, by rw [xlv_n0]; exact xgd_not (fun p h => by cases h) (xgd_sum h1)⟩
  | succ g ih =>
    have h1 : xgd T N (xlv T N (g + 1)).1 := by rw [xlv_oS]; exact xgd_one (fun p h => by cases h; exact ⟨xgd_E ih.2, ih.1⟩)
    exact ⟨h1, by rw [xlv_nS]; exact xgd_not (fun p h => by cases h; exact ih.2) (xgd_sum h1)⟩
/-- a part: its name, an E, a semicolon -/
def xpart (T : Nat → Int32) (N : Nat) (E : xP) (key : Int32) : xP := fun R o =>
  if xtk1 R = key then (if (E (ynx T N R.2.1) o).1 = true then (if xtk1 (E (ynx T N R.2.1) o).2.1 = -22 then (true, ynx T N (E (ynx T N R.2.1) o).2.1.2.1, (E (ynx T N R.2.1) o).2.2) else (false, (E (ynx T N R.2.1) o).2)) else (false, (E (ynx T N R.2.1) o).2)) else (false, R, o)
theorem xgd_part {T : Nat → Int32} {N : Nat} {E : xP} {key : Int32} (hE : xgd T N E) (hk : key ≠ -26) {R : xR} {o : List Int32} {k : Nat} (hR : xpr T N R) (ho : o.length + k ≤ R.1) : xpr T N (xpart T N E key R o).2.1 ∧ (xpart T N E key R o).2.2.length + k ≤ (xpart T N E key R o).2.1.1 ∧ ((xpart T N E key R o).1 = true → (xpart T N E key R o).2.2.length + (k + 2) ≤ (xpart T N E key R o).2.1.1) := by
  unfold xpart
  by_cases h : xtk1 R = key
  · rw [if_pos h]
    have n := xpr_nx hR (by rw [h]; exact hk)
    have g := hE (ynx T N R.2.1) o (k + 1) n.1 (by omega)
    by_cases h3 : (E (ynx T N R.2.1) o).1 = true
    · rw [if_pos h3]
      by_cases h4 : xtk1 (E (ynx T N R.2.1) o).2.1 = -22
      · rw [if_pos h4]
        have n2 := xpr_nx g.1 (by rw [h4]; decide)
        exact ⟨n2.1, by dsimp only; omega, fun _ => by dsimp only; omega⟩
      · rw [if_neg h4]; exact ⟨g.1, by dsimp only; omega, fun q => by cases (show false = true from q)⟩
    · rw [if_neg h3]; exact ⟨g.1, by dsimp only; omega, fun q => by cases (show false = true from q)⟩
  · rw [if_neg h]; exact ⟨hR, ho, fun q => by cases (show false = true from q)⟩
def xnext (T : Nat → Int32) (N : Nat) (w : Int32) : xP := fun R o => if xtk1 R = w then (true, ynx T N R.2.1, o) else (false, R, o)
theorem sp_x_isNext {s u m n : Nat → Int32} {a c b d : Nat → List Int32} {q : List (Option Nat)} {h : Nat} {z : mc_W} (hL : xL a) {N : Nat} (hN : s 5 = nI N) (hN1 : N ≤ 160) {R : xR} {o : List Int32} (hP : xPS N R o u c) {x : Int32} : mc_T yX4_isNext cX4_isNext 2 (some .boolean) 8 [.ref 6, .int x] (WW s a q u c h m b n d z) (some (.int (mc_b (xnext (xT a) N x R o).1))) (fun w1 => ∃ u1 c1, xPS N (xnext (xT a) N x R o).2.1 (xnext (xT a) N x R o).2.2 u1 c1 ∧ xPK u u1 c c1 ∧ w1 = (WW s a q u1 c1 h m b n d z)) := by
  refine mc_start (own := RX4) (ini := false) rfl (by decide +kernel) (fun h => by cases h) (Nat.le_of_ble_eq_true rfl) ?_
  show mc_E _ _ _ _ _ [some (.ref 6), some (.int x)] [] _ _ _
  have ht := hP.2.2.1
  refine e_aloadn (pc := 0) dX4_isNext_0 rfl ?_
  refine e_get (pc := 1) dX4_isNext_1 fX4_41 rfl rfl ?_
  refine e_iloadn (pc := 4) dX4_isNext_4 rfl ?_
  refine e_icmp_eq (pc := 5) dX4_isNext_5 (t := 10) (by decide) (fun c_5 => ?_) (fun c_5 => ?_)
  · skip
    refine e_aloadn (pc := 10) dX4_isNext_10 rfl ?_
    refine e_cvY (pc := 11) (sp_x_goOnP hL hN hN1 hP) dX4_isNext_11 kX4_28 rfl rfl rfl rfl rfl (mc_CR_of (Nat.le_of_ble_eq_true rfl) (Nat.le_of_ble_eq_true rfl) (Nat.le_refl _) (Nat.le_refl _)) (Nat.le_of_ble_eq_true rfl) (fun w1 hw1 => ?_)
    obtain ⟨u1, c1, hP1, hk1, rfl⟩ := hw1
    refine e_iconst (v := 1) (pc := 14) dX4_isNext_14 (by decide) ?_
    exact e_zret (pc := 15) dX4_isNext_15 rfl (by rfl) (Nat.le_refl _) (Nat.le_refl _) (have e : (xnext (xT a) N x R o) = (true, ynx (xT a) N R.2.1, o) := if_pos (show xtk1 R = x by rw [← ht]; exact c_5); ⟨by rw [e]; rfl, u1, c1, by rw [e]; dsimp only; exact hP1, hk1, rfl⟩)
  · skip
    refine e_iconst (v := 0) (pc := 8) dX4_isNext_8 (by decide) ?_
    exact e_zret (pc := 9) dX4_isNext_9 rfl (by rfl) (Nat.le_refl _) (Nat.le_refl _) (have e : (xnext (xT a) N x R o) = (false, R, o) := if_neg (show ¬ xtk1 R = x by rw [← ht]; exact c_5); ⟨by rw [e]; rfl, u, c, by rw [e]; dsimp only; exact hP, xPK_refl u c, rfl⟩)
theorem xpart_eq (T : Nat → Int32) (N : Nat) (E : xP) (x : Int32) (R : xR) (o : List Int32) : xpart T N E x R o = if (xnext T N x R o).1 = true then (if (E (xnext T N x R o).2.1 (xnext T N x R o).2.2).1 = true then xnext T N (-22) (E (xnext T N x R o).2.1 (xnext T N x R o).2.2).2.1 (E (xnext T N x R o).2.1 (xnext T N x R o).2.2).2.2 else (false, (E (xnext T N x R o).2.1 (xnext T N x R o).2.2).2)) else (false, R, o) := by
  unfold xpart xnext
  by_cases h : xtk1 R = x
  · rw [if_pos h, if_pos h]
    dsimp only
    rw [if_pos rfl]
  · rw [if_neg h, if_neg h]; exact (if_neg (fun q => by cases (show false = true from q))).symm
theorem xnext_f {T : Nat → Int32} {N : Nat} {x : Int32} {R : xR} {o : List Int32} (h : (xnext T N x R o).1 = false) : (xnext T N x R o).2 = (R, o) := by
  unfold xnext at h ⊢
  by_cases q : xtk1 R = x
  · rw [if_pos q] at h; cases (show true = false from h)
  · rw [if_neg q]
theorem sp_x_isPart {s u m n : Nat → Int32} {a c b d : Nat → List Int32} {q : List (Option Nat)} {h : Nat} {z : mc_W} (hL : xL a) {N : Nat} (hN : s 5 = nI N) (hN1 : N ≤ 160) {R : xR} {o : List Int32} (hP : xPS N R o u c) {x : Int32} : mc_T yX4_isPart cX4_isPart 2 (some .boolean) 44 [.ref 6, .int x] (WW s a q u c h m b n d z) (some (.int (mc_b (xpart (xT a) N (xE (xT a) N (xlv (xT a) N 5).2) x R o).1))) (fun w1 => ∃ u1 c1, xPS N (xpart (xT a) N (xE (xT a) N (xlv (xT a) N 5).2) x R o).2.1 (xpart (xT a) N (xE (xT a) N (xlv (xT a) N 5).2) x R o).2.2 u1 c1 ∧ xPK u u1 c c1 ∧ w1 = (WW s a q u1 c1 h m b n d z)) := by
  refine mc_start (own := RX4) (ini := false) rfl (by decide +kernel) (fun h => by cases h) (Nat.le_of_ble_eq_true rfl) ?_
  show mc_E _ _ _ _ _ [some (.ref 6), some (.int x)] [] _ _ _
  refine e_aloadn (pc := 0) dX4_isPart_0 rfl ?_
  refine e_iloadn (pc := 1) dX4_isPart_1 rfl ?_
  refine e_cvX (pc := 2) (sp_x_isNext (x := x) hL hN hN1 hP) dX4_isPart_2 kX4_67 rfl rfl rfl rfl rfl (mc_CR_of (Nat.le_of_ble_eq_true rfl) (Nat.le_of_ble_eq_true rfl) (Nat.le_refl _) (Nat.le_refl _)) (Nat.le_of_ble_eq_true rfl) (fun w1 hw1 => ?_)
  obtain ⟨u1, c1, hP1, hk1, rfl⟩ := hw1
  refine e_if_eq (pc := 5) dX4_isPart_5 (t := 29) (by decide) (fun c_5 => ?_) (fun c_5 => ?_)
  · skip
    refine e_iconst (v := 0) (pc := 29) dX4_isPart_29 (by decide) ?_
    exact e_zret (pc := 30) dX4_isPart_30 rfl (by rfl) (Nat.le_refl _) (Nat.le_refl _) (have e : (xpart (xT a) N (xE (xT a) N (xlv (xT a) N 5).2) x R o) = (false, R, o) := (by rw [xpart_eq, if_neg (show ¬ (xnext (xT a) N x R o).1 = true by rw [mc_b0.mp c_5]; decide)]); have e2 := xnext_f (mc_b0.mp c_5); ⟨by rw [e]; rfl, u1, c1, by rw [e]; rw [e2] at hP1; exact hP1, hk1, rfl⟩)
  · skip
    refine e_aloadn (pc := 8) dX4_isPart_8 rfl ?_
    refine e_iconst (v := 0) (pc := 9) dX4_isPart_9 (by decide) ?_
    refine e_cvX (pc := 10) (sp_x_E5 hL hN hN1 hP1) dX4_isPart_10 kX4_70 rfl rfl rfl rfl rfl (mc_CR_of (Nat.le_of_ble_eq_true rfl) (Nat.le_of_ble_eq_true rfl) (Nat.le_refl _) (Nat.le_refl _)) (Nat.le_of_ble_eq_true rfl) (fun w1 hw1 => ?_)
    obtain ⟨u2, c2, hP2, hk2, rfl⟩ := hw1
    refine e_if_eq (pc := 13) dX4_isPart_13 (t := 29) (by decide) (fun c_13 => ?_) (fun c_13 => ?_)
    · skip
      refine e_iconst (v := 0) (pc := 29) dX4_isPart_29 (by decide) ?_
      exact e_zret (pc := 30) dX4_isPart_30 rfl (by rfl) (Nat.le_refl _) (Nat.le_refl _) (have e : (xpart (xT a) N (xE (xT a) N (xlv (xT a) N 5).2) x R o) = (false, ((xE (xT a) N (xlv (xT a) N 5).2) (xnext (xT a) N x R o).2.1 (xnext (xT a) N x R o).2.2).2) := (by rw [xpart_eq, if_pos (mc_b1.mp c_5), if_neg (show ¬ ((xE (xT a) N (xlv (xT a) N 5).2) (xnext (xT a) N x R o).2.1 (xnext (xT a) N x R o).2.2).1 = true by rw [mc_b0.mp c_13]; decide)]); ⟨by rw [e]; rfl, u2, c2, by rw [e]; dsimp only; exact hP2, hk1.trans hk2, rfl⟩)
    · skip
      refine e_aloadn (pc := 16) dX4_isPart_16 rfl ?_
      refine e_bipush (v := -22) (pc := 17) dX4_isPart_17 (by decide) ?_
      refine e_cvX (pc := 19) (sp_x_isNext (x := -22) hL hN hN1 hP2) dX4_isPart_19 kX4_67 rfl rfl rfl rfl rfl (mc_CR_of (Nat.le_of_ble_eq_true rfl) (Nat.le_of_ble_eq_true rfl) (Nat.le_refl _) (Nat.le_refl _)) (Nat.le_of_ble_eq_true rfl) (fun w1 hw1 => ?_)
      obtain ⟨u3, c3, hP3, hk3, rfl⟩ := hw1
      refine e_if_eq (pc := 22) dX4_isPart_22 (t := 29) (by decide) (fun c_22 => ?_) (fun c_22 => ?_)
      · skip
        refine e_iconst (v := 0) (pc := 29) dX4_isPart_29 (by decide) ?_
        exact e_zret (pc := 30) dX4_isPart_30 rfl (by rfl) (Nat.le_refl _) (Nat.le_refl _) (have e : (xpart (xT a) N (xE (xT a) N (xlv (xT a) N 5).2) x R o) = (xnext (xT a) N (-22) ((xE (xT a) N (xlv (xT a) N 5).2) (xnext (xT a) N x R o).2.1 (xnext (xT a) N x R o).2.2).2.1 ((xE (xT a) N (xlv (xT a) N 5).2) (xnext (xT a) N x R o).2.1 (xnext (xT a) N x R o).2.2).2.2) := (by rw [xpart_eq, if_pos (mc_b1.mp c_5), if_pos (mc_b1.mp c_13)]); ⟨by rw [e, mc_b0.mp c_22]; rfl, u3, c3, by rw [e]; exact hP3, (hk1.trans hk2).trans hk3, rfl⟩)
      · skip
        refine e_iconst (v := 1) (pc := 25) dX4_isPart_25 (by decide) ?_
        refine e_goto (pc := 26) dX4_isPart_26 (t := 30) (by decide) ?_
        exact e_zret (pc := 30) dX4_isPart_30 rfl (by rfl) (Nat.le_refl _) (Nat.le_refl _) (have e : (xpart (xT a) N (xE (xT a) N (xlv (xT a) N 5).2) x R o) = (xnext (xT a) N (-22) ((xE (xT a) N (xlv (xT a) N 5).2) (xnext (xT a) N x R o).2.1 (xnext (xT a) N x R o).2.2).2.1 ((xE (xT a) N (xlv (xT a) N 5).2) (xnext (xT a) N x R o).2.1 (xnext (xT a) N x R o).2.2).2.2) := (by rw [xpart_eq, if_pos (mc_b1.mp c_5), if_pos (mc_b1.mp c_13)]); ⟨by rw [e, mc_b1.mp c_22]; rfl, u3, c3, by rw [e]; exact hP3, (hk1.trans hk2).trans hk3, rfl⟩)
def xtA (T : Nat → Int32) (N : Nat) : Bool × xR × List Int32 := xpart T N (xE T N (xlv T N 5).2) (-23) (ynx T N 0) []
def xtB (T : Nat → Int32) (N : Nat) : Bool × xR × List Int32 := xpart T N (xE T N (xlv T N 5).2) (-24) (xtA T N).2.1 (xtA T N).2.2
def xtC (T : Nat → Int32) (N : Nat) : Bool × xR × List Int32 := xpart T N (xE T N (xlv T N 5).2) (-25) (xtB T N).2.1 (xtB T N).2.2
theorem foldA (T : Nat → Int32) (N : Nat) : xpart T N (xE T N (xlv T N 5).2) (-23) (ynx T N 0) [] = xtA T N := rfl
theorem foldB (T : Nat → Int32) (N : Nat) : xpart T N (xE T N (xlv T N 5).2) (-24) (xtA T N).2.1 (xtA T N).2.2 = xtB T N := rfl
theorem foldC (T : Nat → Int32) (N : Nat) : xpart T N (xE T N (xlv T N 5).2) (-25) (xtB T N).2.1 (xtB T N).2.2 = xtC T N := rfl
/-- whether a text stands there, and where the last token began -/
def xtv (T : Nat → Int32) (N : Nat) : Bool × Nat := if (xtA T N).1 = true then (if (xtB T N).1 = true then (if (xtC T N).1 = true then (xtk1 (xtC T N).2.1 == -26, (xtC T N).2.1.1) else (false, (xtC T N).2.1.1)) else (false, (xtB T N).2.1.1)) else (false, (xtA T N).2.1.1)
theorem xtC_len (T : Nat → Int32) (N : Nat) (hN : N ≤ 160) (h : (xtv T N).1 = true) : (xtC T N).2.2.length ≤ 154 := by
  have E := xgd_E (xgd_lv T N 5).2
  have b0 := ynx_b T N 0 (Nat.zero_le _)
  unfold xtv at h
  by_cases h1 : (xtA T N).1 = true
  · rw [if_pos h1] at h
    by_cases h2 : (xtB T N).1 = true
    · rw [if_pos h2] at h
      by_cases h3 : (xtC T N).1 = true
      · have g1 := xgd_part (key := -23) (R := ynx T N 0) (o := []) (k := 0) E (by decide) ⟨0, Nat.zero_le _, rfl⟩ (by show 0 + 0 ≤ _; omega)
        rw [foldA] at g1
        have g2 := xgd_part (key := -24) (R := (xtA T N).2.1) (o := (xtA T N).2.2) (k := 2) E (by decide) g1.1 (g1.2.2 h1)
        rw [foldB] at g2
        have g3 := xgd_part (key := -25) (R := (xtB T N).2.1) (o := (xtB T N).2.2) (k := 4) E (by decide) g2.1 (g2.2.2 h2)
        rw [foldC] at g3
        have g4 := g3.2.2 h3
        obtain ⟨A, hA, e⟩ := g3.1
        have b := (ynx_b T N A hA).2.1
        rw [← e] at b
        omega
      · rw [if_neg h3] at h; cases (show false = true from h)
    · rw [if_neg h2] at h; cases (show false = true from h)
  · rw [if_neg h1] at h; cases (show false = true from h)
theorem xPS.up {N : Nat} {R : xR} {o : List Int32} {u : Nat → Int32} {c : Nat → List Int32} {k : Nat} {x : Int32} (h : xPS N R o u c) (hk : 4 ≤ k) : xPS N R o (mc_up u k x) c := by
  obtain ⟨p0, p1, p2, p3, p4⟩ := h
  exact ⟨by rw [upn (by omega)]; exact p0, by rw [upn (by omega)]; exact p1, by rw [upn (by omega)]; exact p2, by rw [upn (by omega)]; exact p3, p4⟩
/-- what isText leaves -/
def xTL (T : Nat → Int32) (N : Nat) (u u1 : Nat → Int32) (c c1 : Nat → List Int32) : Prop :=
  u1 0 = nI (xtv T N).2 ∧ (∀ j, 6 ≤ j → u1 j = u j) ∧ (∀ j, 1 ≤ j → c1 j = c j) ∧ (c1 0).length = 160 ∧ ((xtv T N).1 = true → u1 3 = nI (xtC T N).2.2.length ∧ (c1 0).take (xtC T N).2.2.length = (xtC T N).2.2 ∧ u1 4 = nI (xtA T N).2.2.length ∧ u1 5 = nI (xtB T N).2.2.length)
theorem sp_x_isText {s u m n : Nat → Int32} {a c b d : Nat → List Int32} {q : List (Option Nat)} {h : Nat} {z : mc_W} (hL : xL a) {N : Nat} (hN : s 5 = nI N) (hN1 : N ≤ 160) (hc0 : (c 0).length = 160) : mc_T yX4_isText cX4_isText 1 (some .boolean) 45 [.ref 6] (WW s a q u c h m b n d z) (some (.int (mc_b (xtv (xT a) N).1))) (fun w1 => ∃ u1 c1, xTL (xT a) N u u1 c c1 ∧ w1 = (WW s a q u1 c1 h m b n d z)) := by
  refine mc_start (own := RX4) (ini := false) rfl (by decide +kernel) (fun h => by cases h) (Nat.le_of_ble_eq_true rfl) ?_
  show mc_E _ _ _ _ _ [some (.ref 6)] [] _ _ _
  refine e_aloadn (pc := 0) dX4_isText_0 rfl ?_
  refine e_iconst (v := 0) (pc := 1) dX4_isText_1 (by decide) ?_
  refine put_tape_next (pc := 2) dX4_isText_2 pX4_22 ?_
  refine e_aloadn (pc := 5) dX4_isText_5 rfl ?_
  refine e_iconst (v := 0) (pc := 6) dX4_isText_6 (by decide) ?_
  refine put_tape_codeSize (pc := 7) dX4_isText_7 pX4_25 ?_
  refine e_aloadn (pc := 10) dX4_isText_10 rfl ?_
  refine e_cvY (pc := 11) (sp_x_goOn (A := 0) hL hN hN1 (by rw [upn (by decide), up_at]; rfl) (Nat.zero_le _)) dX4_isText_11 kX4_28 rfl rfl rfl rfl rfl (mc_CR_of (Nat.le_of_ble_eq_true rfl) (Nat.le_of_ble_eq_true rfl) (Nat.le_refl _) (Nat.le_refl _)) (Nat.le_of_ble_eq_true rfl) (fun w1 hw1 => ?_)
  obtain ⟨u1, hx1, rfl⟩ := hw1
  have hP1 : xPS N (ynx (xT a) N 0) [] u1 c := ⟨hx1.1, hx1.2.1, hx1.2.2.1, by rw [hx1.2.2.2 3 (by decide), up_at]; rfl, rfl, hc0, Nat.zero_le _, (ynx_lt (xT a) N 0 (Nat.zero_le _)).2.1⟩
  refine e_aloadn (pc := 14) dX4_isText_14 rfl ?_
  refine e_bipush (v := -23) (pc := 15) dX4_isText_15 (by decide) ?_
  refine e_cvX (pc := 17) (sp_x_isPart (x := -23) hL hN hN1 hP1) dX4_isText_17 kX4_31 rfl rfl rfl rfl rfl (mc_CR_of (Nat.le_of_ble_eq_true rfl) (Nat.le_of_ble_eq_true rfl) (Nat.le_refl _) (Nat.le_refl _)) (Nat.le_of_ble_eq_true rfl) (fun w1 hw1 => ?_)
  obtain ⟨u2, c2, hP2, hk2, rfl⟩ := hw1
  rw [foldA] at hP2 ⊢
  refine e_if_ne (pc := 20) dX4_isText_20 (t := 25) (by decide) (fun c_20 => ?_) (fun c_20 => ?_)
  · skip
    refine e_aloadn (pc := 25) dX4_isText_25 rfl ?_
    refine e_aloadn (pc := 26) dX4_isText_26 rfl ?_
    refine e_get (pc := 27) dX4_isText_27 fX4_25 rfl rfl ?_
    refine put_tape_slipsAt (pc := 30) dX4_isText_30 pX4_35 ?_
    refine e_aloadn (pc := 33) dX4_isText_33 rfl ?_
    refine e_bipush (v := -24) (pc := 34) dX4_isText_34 (by decide) ?_
    refine e_cvX (pc := 36) (sp_x_isPart (x := -24) hL hN hN1 (hP2.up (k := 4) (x := u2 3) (by decide))) dX4_isText_36 kX4_31 rfl rfl rfl rfl rfl (mc_CR_of (Nat.le_of_ble_eq_true rfl) (Nat.le_of_ble_eq_true rfl) (Nat.le_refl _) (Nat.le_refl _)) (Nat.le_of_ble_eq_true rfl) (fun w1 hw1 => ?_)
    obtain ⟨u3, c3, hP3, hk3, rfl⟩ := hw1
    rw [foldB] at hP3 ⊢
    refine e_if_ne (pc := 39) dX4_isText_39 (t := 44) (by decide) (fun c_39 => ?_) (fun c_39 => ?_)
    · skip
      refine e_aloadn (pc := 44) dX4_isText_44 rfl ?_
      refine e_aloadn (pc := 45) dX4_isText_45 rfl ?_
      refine e_get (pc := 46) dX4_isText_46 fX4_25 rfl rfl ?_
      refine put_tape_costsAt (pc := 49) dX4_isText_49 pX4_38 ?_
      refine e_aloadn (pc := 52) dX4_isText_52 rfl ?_
      refine e_bipush (v := -25) (pc := 53) dX4_isText_53 (by decide) ?_
      refine e_cvX (pc := 55) (sp_x_isPart (x := -25) hL hN hN1 (hP3.up (k := 5) (x := u3 3) (by decide))) dX4_isText_55 kX4_31 rfl rfl rfl rfl rfl (mc_CR_of (Nat.le_of_ble_eq_true rfl) (Nat.le_of_ble_eq_true rfl) (Nat.le_refl _) (Nat.le_refl _)) (Nat.le_of_ble_eq_true rfl) (fun w1 hw1 => ?_)
      obtain ⟨u4, c4, hP4, hk4, rfl⟩ := hw1
      rw [foldC] at hP4 ⊢
      refine e_if_eq (pc := 58) dX4_isText_58 (t := 74) (by decide) (fun c_58 => ?_) (fun c_58 => ?_)
      · skip
        refine e_iconst (v := 0) (pc := 74) dX4_isText_74 (by decide) ?_
        exact e_zret (pc := 75) dX4_isText_75 rfl (by rfl) (Nat.le_refl _) (Nat.le_refl _) (have e : (xtv (xT a) N) = (false, (xtC (xT a) N).2.1.1) := (by unfold xtv; rw [if_pos (show (xtA (xT a) N).1 = true from mc_b1.mp c_20), if_pos (show (xtB (xT a) N).1 = true from mc_b1.mp c_39), if_neg (show ¬ (xtC (xT a) N).1 = true by rw [show (xtC (xT a) N).1 = false from mc_b0.mp c_58]; decide)]); ⟨by rw [e]; rfl, u4, c4, ⟨by rw [e]; dsimp only; exact hP4.1, fun j hj => by rw [hk4.1 j (by omega), upn (by omega), hk3.1 j (by omega), upn (by omega), hk2.1 j (by omega), hx1.2.2.2 j (by omega), upn (by omega), upn (by omega)], fun j hj => by rw [hk4.2 j hj, hk3.2 j hj, hk2.2 j hj], hP4.2.2.2.2.2.1, fun q => by rw [e] at q; cases (show false = true from q)⟩, rfl⟩)
      · skip
        refine e_aloadn (pc := 61) dX4_isText_61 rfl ?_
        refine e_get (pc := 62) dX4_isText_62 fX4_41 rfl rfl ?_
        refine e_bipush (v := -26) (pc := 65) dX4_isText_65 (by decide) ?_
        refine e_icmp_ne (pc := 67) dX4_isText_67 (t := 74) (by decide) (fun c_67 => ?_) (fun c_67 => ?_)
        · skip
          refine e_iconst (v := 0) (pc := 74) dX4_isText_74 (by decide) ?_
          exact e_zret (pc := 75) dX4_isText_75 rfl (by rfl) (Nat.le_refl _) (Nat.le_refl _) (have e : (xtv (xT a) N) = (false, (xtC (xT a) N).2.1.1) := (by unfold xtv; rw [if_pos (show (xtA (xT a) N).1 = true from mc_b1.mp c_20), if_pos (show (xtB (xT a) N).1 = true from mc_b1.mp c_39), if_pos (show (xtC (xT a) N).1 = true from mc_b1.mp c_58)]; rw [(show (xtk1 (xtC (xT a) N).2.1 == -26) = false by rw [beq_eq_false_iff_ne]; intro q; exact c_67 (hP4.2.2.1.trans q))]); ⟨by rw [e]; rfl, u4, c4, ⟨by rw [e]; dsimp only; exact hP4.1, fun j hj => by rw [hk4.1 j (by omega), upn (by omega), hk3.1 j (by omega), upn (by omega), hk2.1 j (by omega), hx1.2.2.2 j (by omega), upn (by omega), upn (by omega)], fun j hj => by rw [hk4.2 j hj, hk3.2 j hj, hk2.2 j hj], hP4.2.2.2.2.2.1, fun q => by rw [e] at q; cases (show false = true from q)⟩, rfl⟩)
        · skip
          refine e_iconst (v := 1) (pc := 70) dX4_isText_70 (by decide) ?_
          refine e_goto (pc := 71) dX4_isText_71 (t := 75) (by decide) ?_
          exact e_zret (pc := 75) dX4_isText_75 rfl (by rfl) (Nat.le_refl _) (Nat.le_refl _) (have e : (xtv (xT a) N) = (true, (xtC (xT a) N).2.1.1) := (by unfold xtv; rw [if_pos (show (xtA (xT a) N).1 = true from mc_b1.mp c_20), if_pos (show (xtB (xT a) N).1 = true from mc_b1.mp c_39), if_pos (show (xtC (xT a) N).1 = true from mc_b1.mp c_58)]; rw [(show (xtk1 (xtC (xT a) N).2.1 == -26) = true by rw [beq_iff_eq]; exact hP4.2.2.1.symm.trans c_67)]); ⟨by rw [e]; rfl, u4, c4, ⟨by rw [e]; dsimp only; exact hP4.1, fun j hj => by rw [hk4.1 j (by omega), upn (by omega), hk3.1 j (by omega), upn (by omega), hk2.1 j (by omega), hx1.2.2.2 j (by omega), upn (by omega), upn (by omega)], fun j hj => by rw [hk4.2 j hj, hk3.2 j hj, hk2.2 j hj], hP4.2.2.2.2.2.1, fun _ => ⟨hP4.2.2.2.1, hP4.2.2.2.2.1, by rw [hk4.1 4 (by decide), upn (by decide), hk3.1 4 (by decide), up_at]; exact hP2.2.2.2.1, by rw [hk4.1 5 (by decide), up_at]; exact hP3.2.2.2.1⟩⟩, rfl⟩)
    · skip
      refine e_iconst (v := 0) (pc := 42) dX4_isText_42 (by decide) ?_
      exact e_zret (pc := 43) dX4_isText_43 rfl (by rfl) (Nat.le_refl _) (Nat.le_refl _) (have e : (xtv (xT a) N) = (false, (xtB (xT a) N).2.1.1) := (by unfold xtv; rw [if_pos (show (xtA (xT a) N).1 = true from mc_b1.mp c_20), if_neg (show ¬ (xtB (xT a) N).1 = true by rw [show (xtB (xT a) N).1 = false from mc_b0.mp c_39]; decide)]); ⟨by rw [e]; rfl, u3, c3, ⟨by rw [e]; dsimp only; exact hP3.1, fun j hj => by rw [hk3.1 j (by omega), upn (by omega), hk2.1 j (by omega), hx1.2.2.2 j (by omega), upn (by omega), upn (by omega)], fun j hj => by rw [hk3.2 j hj, hk2.2 j hj], hP3.2.2.2.2.2.1, fun q => by rw [e] at q; cases (show false = true from q)⟩, rfl⟩)
  · skip
    refine e_iconst (v := 0) (pc := 23) dX4_isText_23 (by decide) ?_
    exact e_zret (pc := 24) dX4_isText_24 rfl (by rfl) (Nat.le_refl _) (Nat.le_refl _) (have e : (xtv (xT a) N) = (false, (xtA (xT a) N).2.1.1) := (by unfold xtv; rw [if_neg (show ¬ (xtA (xT a) N).1 = true by rw [show (xtA (xT a) N).1 = false from mc_b0.mp c_20]; decide)]); ⟨by rw [e]; rfl, u2, c2, ⟨by rw [e]; dsimp only; exact hP2.1, fun j hj => by rw [hk2.1 j (by omega), hx1.2.2.2 j (by omega), upn (by omega), upn (by omega)], hk2.2, hP2.2.2.2.2.2.1, fun q => by rw [e] at q; cases (show false = true from q)⟩, rfl⟩)
end Zj_6o_x25
section Zj_6p_x26_0
/-! ===== a new text ===== -/
theorem rng_take {l : List Int32} {K : Nat} (h : K ≤ l.length) : mc_cpy l (List.replicate K 0) 0 0 K = l.take K := by
  unfold mc_cpy
  rw [List.length_replicate]
  refine List.ext_getElem? fun j => ?_
  rw [List.getElem?_map, List.getElem?_take]
  by_cases q : j < K
  · rw [List.getElem?_range q, if_pos q]
    show some (if 0 ≤ j ∧ j < 0 + K then l.getD (0 + (j - 0)) 0 else _) = _
    rw [if_pos ⟨Nat.zero_le _, by omega⟩, show 0 + (j - 0) = j by omega, List.getD_eq_getElem?_getD, List.getElem?_eq_getElem (by omega)]
    rfl
  · rw [List.getElem?_eq_none (by rw [List.length_range]; omega), if_neg q]; rfl
theorem xmm {x : Int32} {K : Nat} (h : x = nI K) (hK : K ≤ 154) : (if (0 : Int32) < (if (160 : Int32) < x then 160 else x) then (if (160 : Int32) < x then 160 else x) else 0) = nI K := by
  subst h
  rw [if_neg (show ¬ (160 : Int32) < nI K from fun q => by rw [Int32.lt_iff_toInt_lt, nI_toInt (by omega), show (160 : Int32).toInt = 160 from rfl] at q; omega)]
  by_cases g : (0 : Int32) < nI K
  · rw [if_pos g]
  · rw [if_neg g]
    rw [Int32.lt_iff_toInt_lt, nI_toInt (by omega), i0] at g
    have : K = 0 := by omega
    subst this; rfl
theorem set_app {α : Type} {l : List α} {x y : α} : (l ++ [x]).set l.length y = l ++ [y] := by
  rw [List.set_append_right _ _ (Nat.le_refl _)]; simp
theorem WW_zset {s : Nat → Int32} {a : Nat → List Int32} {q : List (Option Nat)} {u : Nat → Int32} {c : Nat → List Int32} {h : Nat} {m : Nat → Int32} {b : Nat → List Int32} {n : Nat → Int32} {d : Nat → List Int32} {z : mc_W} {i : Nat} {v : mc_C} : (WW s a q u c h m b n d z).set (i + 46) v = WW s a q u c h m b n d (z.set i v) := rfl
theorem xm2 {K : Nat} (hK : K ≤ 154) : (if nI K < (160 : Int32) then nI K else 160) = nI K := if_pos (by rw [Int32.lt_iff_toInt_lt, nI_toInt (by omega), show (160 : Int32).toInt = 160 from rfl]; omega)
end Zj_6p_x26_0
section Zj_6p_x26_1
theorem sp_x_copyOf {s u m n : Nat → Int32} {a c b d : Nat → List Int32} {q : List (Option Nat)} {h : Nat} {z : mc_W} {K : Nat} (hK : K ≤ 154) (hl : (c 0).length = 160) (hz : z.length ≤ 900000) :
    mc_S yJ7_copyOf_59c91 cJ7_copyOf_59c91 3 (some (.array .int)) 2 1 160 [.ref 8, .int (nI K)] (WW s a q u c h m b n d z) (fun r w => r = some (.ref (z.length + 46)) ∧ w = (WW s a q u c h m b n d (z ++ [.inr (.inl ((c 0).take K))]))) := by
  refine mc_start (own := RJ7) (ini := false) rfl (by decide +kernel) (fun h => by cases h) (Nat.le_of_ble_eq_true rfl) ?_
  show mc_E _ _ _ _ _ [some (.ref 8), some (.int (nI K)), none] [] _ _ _
  have e16 : Int32.ofNat (c 0).length = 160 := by rw [hl]; rfl
  refine e_iloadn (pc := 0) dJ7_copyOf_59c91_0 rfl ?_
  refine e_aloadn (pc := 1) dJ7_copyOf_59c91_1 rfl ?_
  refine e_alen (pc := 2) dJ7_copyOf_59c91_2 rfl e16 ?_
  refine e_icmp_ne (pc := 3) dJ7_copyOf_59c91_3 (t := 14) (by decide) (fun _ => ?_) (fun c_3 => absurd c_3 (fun q : nI K = 160 => absurd ((nI_eq (a := K) (b := 160) (by omega) (by decide)).mp q) (by omega)))
  refine e_iloadn (pc := 14) dJ7_copyOf_59c91_14 rfl ?_
  refine e_newa (N := K) (pc := 15) dJ7_copyOf_59c91_15 arr_int (nI_pos (by omega)) (nIc (by omega)) (by omega) (by show z.length + 46 < 1000000; omega) (Nat.le_of_ble_eq_true rfl) (by show 0 + K ≤ 160; omega) ?_
  refine e_w (w2 := (WW s a q u c h m b n d (z ++ [.inr (.inl (List.replicate K 0))]))) rfl ?_
  show mc_E _ _ _ _ _ _ [.ref (z.length + 46)] _ _ _
  refine e_asn2 (pc := 17) dJ7_copyOf_59c91_17 (Nat.le_of_ble_eq_true rfl) rfl ?_
  refine e_aloadn (pc := 18) dJ7_copyOf_59c91_18 rfl ?_
  refine e_iconst (v := 0) (pc := 19) dJ7_copyOf_59c91_19 (by decide) ?_
  refine e_aloadn (pc := 20) dJ7_copyOf_59c91_20 rfl ?_
  refine e_iconst (v := 0) (pc := 21) dJ7_copyOf_59c91_21 (by decide) ?_
  refine e_aloadn (pc := 22) dJ7_copyOf_59c91_22 rfl ?_
  refine e_alen (pc := 23) dJ7_copyOf_59c91_23 rfl rfl ?_
  refine e_iloadn (pc := 24) dJ7_copyOf_59c91_24 rfl ?_
  refine e_min (pc := 25) dJ7_copyOf_59c91_25 mJ7_304 (mc_JR_of (Nat.le_of_ble_eq_true rfl) (Nat.le_refl _) (by show 0 + K ≤ 160; omega) (Nat.le_of_ble_eq_true rfl)) ?_
  refine e_top (y := nI K) (by rw [e16]; exact xm2 hK) ?_
  refine e_copy (pc := 28) (a0 := 8) (a := z.length + 46) (xs := c 0) (ys := List.replicate K 0) (sp := 0) (dp := 0) (n := nI K) dJ7_copyOf_59c91_28 oJ7_150 nat_cpy sta_cpy ini_Sys rfl (by show (z ++ [_])[z.length]? = _; simp) (by decide) (by decide) (nI_pos (by omega)) (by rw [hl, nIc (by omega)]; show 0 + K ≤ 160; omega) (by rw [List.length_replicate, nIc (by omega)]; show 0 + K ≤ K; omega) ⟨Nat.le_of_ble_eq_true rfl, Nat.le_of_ble_eq_true rfl⟩ (Nat.le_of_ble_eq_true rfl) ?_
  refine e_w (w2 := (WW s a q u c h m b n d (z ++ [.inr (.inl ((c 0).take K))]))) (by
    rw [nIc (by omega), show (0 : Int32).toNatClampNeg = 0 from rfl, rng_take (by omega), WW_zset, set_app]) ?_
  refine e_aloadn (pc := 31) dJ7_copyOf_59c91_31 rfl ?_
  exact e_aret (pc := 32) dJ7_copyOf_59c91_32 rfl (Or.inr ⟨_, rfl⟩) (Nat.le_refl _) (by show 0 + K ≤ 160; omega) ⟨rfl, rfl⟩
end Zj_6p_x26_1
section Zj_6p_x26_2
theorem sp_x_tinit {w : mc_W} {A0 B0 : Nat} {x y : Int32} (hw : w[A0]? = some (.inl (5, [.null, .int 0, .int 0]))) : mc_S yX5_init cX5_init 4 none 2 0 0 [.ref A0, .ref B0, .int x, .int y] w (fun r w1 => r = none ∧ w1 = w.set A0 (.inl (5, [.ref B0, .int x, .int y]))) := by
  refine mc_start (own := RX5) (ini := true) rfl (by decide +kernel) (fun _ => rfl) (Nat.le_of_ble_eq_true rfl) ?_
  show mc_E _ _ _ _ _ [some (.ref A0), some (.ref B0), some (.int x), some (.int y)] [] _ _ _
  have hl : A0 < w.length := by
    rcases Nat.lt_or_ge A0 w.length with q | q
    · exact q
    · rw [List.getElem?_eq_none q] at hw; cases hw
  have g : ∀ v : mc_C, (w.set A0 v)[A0]? = some v := fun v => by rw [List.getElem?_set, if_pos rfl, if_pos hl]
  refine e_aloadn (pc := 0) dX5_init_0 rfl ?_
  refine e_objInit (pc := 1) dX5_init_1 oX5_3 obj_inst obj_code (mc_JR_of (Nat.le_of_ble_eq_true rfl) (Nat.le_of_ble_eq_true rfl) (Nat.le_of_ble_eq_true rfl) (Nat.le_of_ble_eq_true rfl)) ?_
  refine e_aloadn (pc := 4) dX5_init_4 rfl ?_
  refine e_aloadn (pc := 5) dX5_init_5 rfl ?_
  refine e_putF (pc := 6) dX5_init_6 pX5_9 rfl hw (Nat.le_of_ble_eq_true rfl) rfl ?_
  refine e_aloadn (pc := 9) dX5_init_9 rfl ?_
  refine e_iloadn (pc := 10) dX5_init_10 rfl ?_
  refine e_putF (pc := 11) dX5_init_11 pX5_15 rfl (g _) (Nat.le_of_ble_eq_true rfl) rfl ?_
  rw [List.set_set]
  refine e_aloadn (pc := 14) dX5_init_14 rfl ?_
  refine e_iloadn (pc := 15) dX5_init_15 rfl ?_
  refine e_putF (pc := 16) dX5_init_16 pX5_19 rfl (g _) (Nat.le_of_ble_eq_true rfl) rfl ?_
  rw [List.set_set]
  exact e_vret (pc := 19) dX5_init_19 rfl (Nat.le_refl _) (Nat.le_refl _) ⟨rfl, rfl⟩
theorem set_app2 {α : Type} {l : List α} {x y x2 : α} : (l ++ [x, x2]).set l.length y = l ++ [y, x2] := by
  rw [List.set_append_right _ _ (Nat.le_refl _)]; simp
end Zj_6p_x26_2
section Zj_6p_x26_3
theorem sp_x_result {s u m n : Nat → Int32} {a c b d : Nat → List Int32} {q : List (Option Nat)} {h : Nat} {z : mc_W} {K : Nat} (h3 : u 3 = nI K) (hK : K ≤ 154) (hl : (c 0).length = 160) (hz : z.length ≤ 800000) :
    mc_S yX4_result cX4_result 1 (some (.object "NoZeroWithin$Text")) 3 2 170 [.ref 6] (WW s a q u c h m b n d z) (fun r w => r = some (.ref (z.length + 46)) ∧ w = (WW s a q u c h m b n d (z ++ [.inl (5, [.ref (z.length + 47), .int (u 4), .int (u 5)]), .inr (.inl ((c 0).take K))]))) := by
  refine mc_start (own := RX4) (ini := false) rfl (by decide +kernel) (fun h => by cases h) (Nat.le_of_ble_eq_true rfl) ?_
  show mc_E _ _ _ _ _ [some (.ref 6)] [] _ _ _
  have e16 : Int32.ofNat (c 0).length = 160 := by rw [hl]; rfl
  refine e_new (pc := 0) dX4_result_0 mcf5 nX4_47 insX5 iniX5 rfl (by show z.length + 46 < 1000000; omega) (Nat.le_of_ble_eq_true rfl) (Nat.le_of_ble_eq_true rfl) ?_
  refine e_w (w2 := (WW s a q u c h m b n d (z ++ [.inl (5, [.null, .int 0, .int 0])]))) rfl ?_
  show mc_E _ _ _ _ _ _ [.ref (z.length + 46)] _ _ _
  refine e_dup (pc := 3) dX4_result_3 rfl ?_
  refine e_aloadn (pc := 4) dX4_result_4 rfl ?_
  refine e_get (pc := 5) dX4_result_5 fX4_15 rfl rfl ?_
  refine e_iconst (v := 0) (pc := 8) dX4_result_8 (by decide) ?_
  refine e_aloadn (pc := 9) dX4_result_9 rfl ?_
  refine e_get (pc := 10) dX4_result_10 fX4_25 rfl rfl ?_
  refine e_aloadn (pc := 13) dX4_result_13 rfl ?_
  refine e_get (pc := 14) dX4_result_14 fX4_15 rfl rfl ?_
  refine e_alen (pc := 17) dX4_result_17 rfl e16 ?_
  refine e_min (pc := 18) dX4_result_18 mX4_49 (mc_JR_of (Nat.le_of_ble_eq_true rfl) (Nat.le_of_ble_eq_true rfl) (Nat.le_of_ble_eq_true rfl) (Nat.le_of_ble_eq_true rfl)) ?_
  refine e_max (pc := 21) dX4_result_21 mX4_55 (mc_JR_of (Nat.le_of_ble_eq_true rfl) (Nat.le_of_ble_eq_true rfl) (Nat.le_of_ble_eq_true rfl) (Nat.le_of_ble_eq_true rfl)) ?_
  refine e_top (y := nI K) (xmm h3 hK) ?_
  have hz2 : (z ++ [.inl (5, [.null, .int 0, .int 0])] : mc_W).length ≤ 900000 := by
    rw [List.length_append]; show z.length + 1 ≤ 900000; omega
  have H := sp_x_copyOf (s := s) (a := a) (q := q) (u := u) (c := c) (h := h) (m := m) (b := b) (n := n) (d := d) (z := z ++ [.inl (5, [.null, .int 0, .int 0])]) hK hl hz2
  refine e_callS (st := [.ref (z.length + 46), .ref (z.length + 46)]) H dX4_result_24 kX4_58 rfl (mc_CR_of (Nat.le_of_ble_eq_true rfl) (Nat.le_of_ble_eq_true rfl) (Nat.le_of_ble_eq_true rfl) (Nat.le_of_ble_eq_true rfl)) rfl (Nat.le_of_ble_eq_true rfl) (fun r w1 h => ?_)
  obtain ⟨rfl, rfl⟩ := h
  refine e_w (w2 := (WW s a q u c h m b n d (z ++ [.inl (5, [.null, .int 0, .int 0]), .inr (.inl ((c 0).take K))]))) (by rw [List.append_assoc]; rfl) ?_
  simp only [List.length_append, List.length_cons, List.length_nil]
  show mc_E _ _ _ _ _ _ [.ref (z.length + 47), .ref (z.length + 46), .ref (z.length + 46)] _ _ _
  refine e_aloadn (pc := 27) dX4_result_27 rfl ?_
  refine e_get (pc := 28) dX4_result_28 fX4_35 rfl rfl ?_
  refine e_aloadn (pc := 31) dX4_result_31 rfl ?_
  refine e_get (pc := 32) dX4_result_32 fX4_38 rfl rfl ?_
  refine e_callI (sp_x_tinit (A0 := z.length + 46) (B0 := z.length + 47) (x := u 4) (y := u 5) (by show (z ++ [_, _])[z.length]? = _; simp)) dX4_result_35 kX4_64 rfl (mc_CR_of (Nat.le_of_ble_eq_true rfl) (Nat.le_of_ble_eq_true rfl) (Nat.le_of_ble_eq_true rfl) (Nat.le_of_ble_eq_true rfl)) rfl (Nat.le_of_ble_eq_true rfl) (fun r w1 h => ?_)
  obtain ⟨rfl, rfl⟩ := h
  exact e_aret (pc := 38) dX4_result_38 rfl (Or.inl ⟨_, rfl⟩) (Nat.le_of_ble_eq_true rfl) (Nat.le_of_ble_eq_true rfl) ⟨rfl, by rw [WW_zset, set_app2]⟩
end Zj_6p_x26_3
section Zj_6p_x26_4
theorem sp_x_faultPlace {s u m n : Nat → Int32} {a c b d : Nat → List Int32} {q : List (Option Nat)} {h : Nat} {z : mc_W} : mc_D yX4_faultPlace cX4_faultPlace 1 (some .int) 1 [.ref 6] (WW s a q u c h m b n d z) (some (.int (u 0))) (WW s a q u c h m b n d z) := by
  refine mc_start (own := RX4) (ini := false) rfl (by decide +kernel) (fun h => by cases h) (Nat.le_of_ble_eq_true rfl) ?_
  show mc_E _ _ _ _ _ [some (.ref 6)] [] _ _ _
  refine e_aloadn (pc := 0) dX4_faultPlace_0 rfl ?_
  refine e_get (pc := 1) dX4_faultPlace_1 fX4_44 rfl rfl ?_
  exact e_iret (pc := 4) dX4_faultPlace_4 rfl (Nat.le_refl _) (Nat.le_refl _) ⟨rfl, rfl⟩
def xtxt (T : Nat → Int32) (N t : Nat) : Int32 := if t = 6 then -4 else if (xtv T N).1 = true then nI t else -100 - nI (xtv T N).2
end Zj_6p_x26_4
section Zj_6p_x26_5
theorem sp_x_text {s u m n : Nat → Int32} {a c b d : Nat → List Int32} {q : List (Option Nat)} {h : Nat} {z : mc_W} (hL : xL a) {N : Nat} (hN : s 5 = nI N) (hN1 : N ≤ 160) {t : Nat} (h3 : s 3 = nI t) (ht : t ≤ 6) (hq : q.length = 6) (hl : (c 0).length = 160) (hz : z.length ≤ 800000) :
    mc_S yX6_text cX6_text 3 (some .int) 46 2 170 [.ref 0] (WW s a q u c h m b n d z) (fun r w => r = some (.int (xtxt (xT a) N t)) ∧ (t = 6 → w = (WW s a q u c h m b n d z)) ∧ (t ≠ 6 → ∃ u1 c1, (∀ j, 6 ≤ j → u1 j = u j) ∧ (∀ j, 1 ≤ j → c1 j = c j) ∧ (c1 0).length = 160 ∧ w = (if (xtv (xT a) N).1 = true then (WW (mc_up (mc_up s 5 0) 3 (nI (t + 1))) a (q.set t (some (z.length + 46))) u1 c1 h m b n d (z ++ [.inl (5, [.ref (z.length + 47), .int (nI (xtA (xT a) N).2.2.length), .int (nI (xtB (xT a) N).2.2.length)]), .inr (.inl (xtC (xT a) N).2.2)])) else (WW (mc_up s 5 0) a q u1 c1 h m b n d z)))) := by
  refine mc_start (own := RX6) (ini := false) rfl (by decide +kernel) (fun h => by cases h) (Nat.le_of_ble_eq_true rfl) ?_
  show mc_E _ _ _ _ _ [some (.ref 0), none, none] [] _ _ _
  have c6 : s 3 < 6 ↔ t < 6 := by rw [h3, Int32.lt_iff_toInt_lt, nI_toInt (by omega), show (6 : Int32).toInt = 6 from rfl]; omega
  refine e_aloadn (pc := 0) dX6_text_0 rfl ?_
  refine e_get (pc := 1) dX6_text_1 fX6_36 rfl rfl ?_
  refine e_bipush (v := 6) (pc := 4) dX6_text_4 (by decide) ?_
  refine e_icmp_lt (pc := 6) dX6_text_6 (t := 12) (by decide) (fun c_6 => ?_) (fun c_6 => ?_)
  · skip
    refine e_aloadn (pc := 12) dX6_text_12 rfl ?_
    refine e_get (pc := 13) dX6_text_13 fX6_42 rfl rfl ?_
    refine e_cvX (pc := 16) (sp_x_isText hL hN hN1 hl) dX6_text_16 kX6_101 rfl rfl rfl rfl rfl (mc_CR_of (Nat.le_of_ble_eq_true rfl) (Nat.le_of_ble_eq_true rfl) (Nat.le_of_ble_eq_true rfl) (Nat.le_of_ble_eq_true rfl)) (Nat.le_of_ble_eq_true rfl) (fun w1 hw1 => ?_)
    obtain ⟨u1, c1, hTL, rfl⟩ := hw1
    refine e_isn1 (pc := 19) dX6_text_19 (Nat.le_of_ble_eq_true rfl) rfl ?_
    refine e_aloadn (pc := 20) dX6_text_20 rfl ?_
    refine e_get (pc := 21) dX6_text_21 fX6_42 rfl rfl ?_
    refine e_cvU (pc := 24) (sp_x_tempty) dX6_text_24 kX6_105 rfl rfl rfl rfl rfl (mc_CR_of (Nat.le_of_ble_eq_true rfl) (Nat.le_of_ble_eq_true rfl) (Nat.le_of_ble_eq_true rfl) (Nat.le_of_ble_eq_true rfl)) (Nat.le_of_ble_eq_true rfl) ?_
    refine e_iloadn (pc := 27) dX6_text_27 rfl ?_
    refine e_if_ne (pc := 28) dX6_text_28 (t := 42) (by decide) (fun c_28 => ?_) (fun c_28 => ?_)
    · skip
      have ok : (xtv (xT a) N).1 = true := mc_b1.mp c_28
      obtain ⟨o3, o0, o4, o5⟩ := hTL.2.2.2.2 ok
      have t6 := c6.mp c_6
      have hlen := xtC_len (xT a) N hN1 ok
      refine e_aloadn (pc := 42) dX6_text_42 rfl ?_
      refine e_get (pc := 43) dX6_text_43 fX6_36 rfl rfl ?_
      refine e_isn2 (pc := 46) dX6_text_46 (Nat.le_of_ble_eq_true rfl) rfl ?_
      refine e_aloadn (pc := 47) dX6_text_47 rfl ?_
      refine e_get (pc := 48) dX6_text_48 fX6_32 rfl rfl ?_
      refine e_iloadn (pc := 51) dX6_text_51 rfl ?_
      refine e_aloadn (pc := 52) dX6_text_52 rfl ?_
      refine e_get (pc := 53) dX6_text_53 fX6_42 rfl rfl ?_
      refine e_callV (sp_x_result (K := (xtC (xT a) N).2.2.length) o3 hlen hTL.2.2.2.1 hz) dX6_text_56 kX6_111 rfl rfl rfl rfl (mc_CR_of (Nat.le_of_ble_eq_true rfl) (Nat.le_of_ble_eq_true rfl) (Nat.le_of_ble_eq_true rfl) (Nat.le_of_ble_eq_true rfl)) rfl (Nat.le_of_ble_eq_true rfl) (fun r w1 h => ?_)
      obtain ⟨rfl, rfl⟩ := h
      show mc_E _ _ _ _ _ _ [.ref (z.length + 46), .int (s 3), .ref 5] _ _ _
      refine e_aast (vs := [.ref (z.length + 47), .int (u1 4), .int (u1 5)]) (pc := 59) dX6_text_59 (Or.inl ⟨rfl, rfl⟩) rfl (by show (z ++ [_, _])[z.length]? = _; simp) (by rw [h3, hq]; exact vp_in_nI t6 (by decide)) ?_
      refine e_w (w2 := (WW (mc_up s 5 0) a (q.set t (some (z.length + 46))) u1 c1 h m b n d (z ++ [.inl (5, [.ref (z.length + 47), .int (u1 4), .int (u1 5)]), .inr (.inl ((c1 0).take (xtC (xT a) N).2.2.length))]))) (by rw [h3, nIc (by omega)]; rfl) ?_
      refine e_aloadn (pc := 60) dX6_text_60 rfl ?_
      refine e_dup (pc := 61) dX6_text_61 rfl ?_
      refine e_get (pc := 62) dX6_text_62 fX6_36 rfl rfl ?_
      refine e_iconst (v := 1) (pc := 65) dX6_text_65 (by decide) ?_
      refine e_iadd (pc := 66) dX6_text_66 ?_
      refine e_top ((show mc_up s 5 0 3 + 1 = nI (t + 1) by rw [upn (by decide), h3, nI_1])) ?_
      refine put_x_textCount (pc := 67) dX6_text_67 pX6_36 ?_
      refine e_iloadn (pc := 70) dX6_text_70 rfl ?_
      exact e_iret (pc := 71) dX6_text_71 rfl (Nat.le_of_ble_eq_true rfl) (Nat.le_of_ble_eq_true rfl) ⟨by unfold xtxt; rw [if_neg (show ¬ t = 6 by omega), if_pos ok]; show some (Value.int (s 3)) = _; rw [h3], fun q => absurd q (by omega), fun _ => ⟨u1, c1, hTL.2.1, hTL.2.2.1, hTL.2.2.2.1, by rw [if_pos ok, o4, o5, o0]; try rfl⟩⟩
    · skip
      refine e_bipush (v := -100) (pc := 31) dX6_text_31 (by decide) ?_
      refine e_aloadn (pc := 33) dX6_text_33 rfl ?_
      refine e_get (pc := 34) dX6_text_34 fX6_42 rfl rfl ?_
      refine e_cvD (pc := 37) (sp_x_faultPlace) dX6_text_37 kX6_108 rfl rfl rfl rfl rfl (mc_CR_of (Nat.le_of_ble_eq_true rfl) (Nat.le_of_ble_eq_true rfl) (Nat.le_of_ble_eq_true rfl) (Nat.le_of_ble_eq_true rfl)) (Nat.le_of_ble_eq_true rfl) ?_
      refine e_isub (pc := 40) dX6_text_40 ?_
      exact e_iret (pc := 41) dX6_text_41 rfl (Nat.le_of_ble_eq_true rfl) (Nat.le_of_ble_eq_true rfl) ⟨by unfold xtxt; rw [if_neg (show ¬ t = 6 by have := c6.mp c_6; omega), if_neg (show ¬ (xtv (xT a) N).1 = true by rw [mc_b0.mp c_28]; decide), hTL.1], fun q => absurd q (by have := c6.mp c_6; omega), fun _ => ⟨u1, c1, hTL.2.1, hTL.2.2.1, hTL.2.2.2.1, by rw [if_neg (show ¬ (xtv (xT a) N).1 = true by rw [mc_b0.mp c_28]; decide)]⟩⟩
  · skip
    refine e_bipush (v := -4) (pc := 9) dX6_text_9 (by decide) ?_
    exact e_iret (pc := 11) dX6_text_11 rfl (Nat.le_of_ble_eq_true rfl) (Nat.le_of_ble_eq_true rfl) ⟨by unfold xtxt; rw [if_pos (show t = 6 from Nat.le_antisymm ht (Nat.not_lt.mp (fun q => c_6 (c6.mpr q))))], fun _ => rfl, fun q => absurd (show t = 6 from Nat.le_antisymm ht (Nat.not_lt.mp (fun q => c_6 (c6.mpr q)))) q⟩
end Zj_6p_x26_5
section Zj_6q_x30
/-! ===== the two readings: tokens and held signs ===== -/
theorem ynk_r : ∀ k, k < 13 → ((ynk k = 2 → 3 ≤ k ∧ k < 9) ∧ (ynk k = 3 → k < 3) ∧ ynk k ≠ 1) := by decide
theorem ynv_2 : ∀ k, k < 9 → 3 ≤ k → 0 ≤ (ynv k).toInt ∧ (ynv k).toInt ≤ 5 := by decide
theorem ynv_3 : ∀ k, k < 3 → 0 ≤ (ynv k).toInt ∧ (ynv k).toInt ≤ 2 := by decide
def pw10 (k : Nat) : Int := if k = 0 then 1 else if k = 1 then 10 else if k = 2 then 100 else if k = 3 then 1000 else 10000
theorem yda_v (T : Nat → Int32) (N : Nat) : ∀ f p k v, (k ≤ 4 → 0 ≤ v.toInt ∧ v.toInt < pw10 k) → ((yda T N f p k v).2.1 ≤ 4 → 0 ≤ (yda T N f p k v).2.2.toInt ∧ (yda T N f p k v).2.2.toInt < 10000) := by
  intro f
  induction f with
  | zero =>
    intro p k v h
    simp only [yda]
    intro q
    have := h q
    refine ⟨this.1, Int.lt_of_lt_of_le this.2 ?_⟩
    unfold pw10; split <;> (try split) <;> (try split) <;> (try split) <;> decide
  | succ f ih =>
    intro p k v h
    simp only [yda]
    by_cases g : p < N ∧ mc_wi (T p) 48 57 = true
    · rw [if_pos g]
      refine ih _ _ _ (fun q => ?_)
      rw [if_pos (show k < 4 by omega)]
      have hv := h (by omega)
      have ht := mc_wi_iff.mp g.2
      rw [show (48 : Int32).toInt = 48 from rfl, show (57 : Int32).toInt = 57 from rfl] at ht
      have hp : 10 * pw10 k = pw10 (k + 1) ∧ pw10 k ≤ 1000 := by
        rcases (show k = 0 ∨ k = 1 ∨ k = 2 ∨ k = 3 by omega) with rfl | rfl | rfl | rfl <;> decide
      have e1 : (10 * v).toInt = 10 * v.toInt := by rw [Int32.toInt_mul, show (10 : Int32).toInt = 10 from rfl, Int.bmod_eq_of_le] <;> omega
      have e2 : (10 * v + T p).toInt = 10 * v.toInt + (T p).toInt := by rw [i32_add (by omega) (by omega), e1]
      rw [i32_sub (by omega) (by decide), e2, show (48 : Int32).toInt = 48 from rfl]
      omega
    · rw [if_neg g]
      intro q
      have := h q
      refine ⟨this.1, Int.lt_of_lt_of_le this.2 ?_⟩
      unfold pw10; split <;> (try split) <;> (try split) <;> (try split) <;> decide
/-- what values go with what sorts -/
def xok (R : xR) : Prop := (R.2.2.1 = 1 → 0 ≤ R.2.2.2.toInt ∧ R.2.2.2.toInt < 10000) ∧ (R.2.2.1 = 2 → 0 ≤ R.2.2.2.toInt ∧ R.2.2.2.toInt ≤ 5) ∧ (R.2.2.1 = 3 → 0 ≤ R.2.2.2.toInt ∧ R.2.2.2.toInt ≤ 2)
theorem sgn_1 {x : Int32} : ysgn x = true → x ≠ 1 ∧ x ≠ 2 ∧ x ≠ 3 := by
  intro h
  refine ⟨fun q => ?_, fun q => ?_, fun q => ?_⟩ <;> (rw [q] at h; exact absurd h (by decide))
theorem ynx_ok (T : Nat → Int32) (N A : Nat) : xok (ynx T N A) := by
  unfold ynx
  generalize yws T N (N - A) A = B
  by_cases h1 : B = N
  · rw [if_pos h1]; exact ⟨fun q => absurd (show (0 : Int32) = 1 from q) (by decide), fun q => absurd (show (0 : Int32) = 2 from q) (by decide), fun q => absurd (show (0 : Int32) = 3 from q) (by decide)⟩
  · rw [if_neg h1]
    by_cases h2 : mc_wi (T B) 97 122 = true
    · rw [if_pos h2]
      generalize ylt T N (N - B) B = E
      have hk : ywo T B E 12 0 < 13 := by have := ywo_le T B E 12 0 (by omega); omega
      generalize ywo T B E 12 0 = k at hk
      have r := ynk_r k hk
      exact ⟨fun q => absurd q r.2.2, fun q => ynv_2 k (r.1 q).2 (r.1 q).1, fun q => ynv_3 k (r.2.1 q)⟩
    · rw [if_neg h2]
      by_cases h3 : mc_wi (T B) 48 57 = true
      · rw [if_pos h3]
        have v := yda_v T N (N - B) B 0 0 (fun _ => by decide)
        refine ⟨fun q => ?_, fun q => ?_, fun q => ?_⟩
        · dsimp only at q ⊢
          by_cases g : 4 < (yda T N (N - B) B 0 0).2.1
          · rw [if_pos g] at q; exact absurd q (by decide)
          · exact v (by omega)
        · dsimp only at q; split at q <;> exact absurd q (by decide)
        · dsimp only at q; split at q <;> exact absurd q (by decide)
      · rw [if_neg h3]
        refine ⟨fun q => ?_, fun q => ?_, fun q => ?_⟩ <;>
        · dsimp only at q
          by_cases g : ysgn (T B) = true
          · rw [if_pos g] at q
            first | exact absurd q (sgn_1 g).1 | exact absurd q (sgn_1 g).2.1 | exact absurd q (sgn_1 g).2.2
          · rw [if_neg g] at q; exact absurd q (by decide)
theorem xtm_far {t v c : Int32} (h1 : t = 1 → 0 ≤ v.toInt) (h2 : t = 2 → 0 ≤ v.toInt ∧ v.toInt ≤ 5) (h3 : t = 3 → 0 ≤ v.toInt ∧ v.toInt ≤ 2) (hc : c.toInt ≤ -11 ∧ ¬ (-25 ≤ c.toInt ∧ c.toInt ≤ -23)) (h : xtm t v = c) : t ≠ 1 ∧ t ≠ 2 ∧ t ≠ 3 := by
  refine ⟨fun q => ?_, fun q => ?_, fun q => ?_⟩
  · rw [q] at h
    have h : v = c := h
    rw [← h] at hc
    have := h1 q; omega
  · have r := h2 q
    rw [q] at h
    have h : -1 - v = c := h
    have e : (-1 - v : Int32).toInt = -1 - v.toInt := i32_sub (x := -1) (by rw [show (-1 : Int32).toInt = -1 from rfl]; omega) (by omega)
    rw [h] at e; omega
  · have r := h3 q
    rw [q] at h
    have h : -23 - v = c := h
    have e : (-23 - v : Int32).toInt = -23 - v.toInt := i32_sub (x := -23) (by rw [show (-23 : Int32).toInt = -23 from rfl]; omega) (by omega)
    rw [h] at e; omega
theorem xtm_inv {t v : Int32} (n : t ≠ 1 ∧ t ≠ 2 ∧ t ≠ 3) : (xtm t v = -26 → t = 0) ∧ (xtm t v = -11 → t = 4) ∧ (xtm t v = -12 → t = 5) ∧ (xtm t v = -13 → t = 6) ∧ (xtm t v = -20 → t = 40) ∧ (xtm t v = -21 → t = 41) ∧ (xtm t v = -22 → t = 59) ∧ (xtm t v = -16 → t = 43) ∧ (xtm t v = -17 → t = 45) ∧ (xtm t v = -18 → t = 42) ∧ (xtm t v = -14 → t = 60) ∧ (xtm t v = -15 → t = 61) ∧ xtm t v < -6 := by
  unfold xtm
  rw [if_neg n.1, if_neg n.2.1, if_neg n.2.2]
  by_cases h0 : t = 0; · rw [if_pos h0]; refine ⟨fun _ => h0, ?_, ?_, ?_, ?_, ?_, ?_, ?_, ?_, ?_, ?_, ?_, by decide⟩ <;> exact fun q => absurd q (by decide)
  rw [if_neg h0]
  by_cases h4 : t = 4; · rw [if_pos h4]; refine ⟨?_, fun _ => h4, ?_, ?_, ?_, ?_, ?_, ?_, ?_, ?_, ?_, ?_, by decide⟩ <;> exact fun q => absurd q (by decide)
  rw [if_neg h4]
  by_cases h5 : t = 5; · rw [if_pos h5]; refine ⟨?_, ?_, fun _ => h5, ?_, ?_, ?_, ?_, ?_, ?_, ?_, ?_, ?_, by decide⟩ <;> exact fun q => absurd q (by decide)
  rw [if_neg h5]
  by_cases h6 : t = 6; · rw [if_pos h6]; refine ⟨?_, ?_, ?_, fun _ => h6, ?_, ?_, ?_, ?_, ?_, ?_, ?_, ?_, by decide⟩ <;> exact fun q => absurd q (by decide)
  rw [if_neg h6]
  by_cases h7 : t = 40; · rw [if_pos h7]; refine ⟨?_, ?_, ?_, ?_, fun _ => h7, ?_, ?_, ?_, ?_, ?_, ?_, ?_, by decide⟩ <;> exact fun q => absurd q (by decide)
  rw [if_neg h7]
  by_cases h8 : t = 41; · rw [if_pos h8]; refine ⟨?_, ?_, ?_, ?_, ?_, fun _ => h8, ?_, ?_, ?_, ?_, ?_, ?_, by decide⟩ <;> exact fun q => absurd q (by decide)
  rw [if_neg h8]
  by_cases h9 : t = 59; · rw [if_pos h9]; refine ⟨?_, ?_, ?_, ?_, ?_, ?_, fun _ => h9, ?_, ?_, ?_, ?_, ?_, by decide⟩ <;> exact fun q => absurd q (by decide)
  rw [if_neg h9]
  by_cases g1 : t = 43; · rw [if_pos g1]; refine ⟨?_, ?_, ?_, ?_, ?_, ?_, ?_, fun _ => g1, ?_, ?_, ?_, ?_, by decide⟩ <;> exact fun q => absurd q (by decide)
  rw [if_neg g1]
  by_cases g2 : t = 45; · rw [if_pos g2]; refine ⟨?_, ?_, ?_, ?_, ?_, ?_, ?_, ?_, fun _ => g2, ?_, ?_, ?_, by decide⟩ <;> exact fun q => absurd q (by decide)
  rw [if_neg g2]
  by_cases g3 : t = 42; · rw [if_pos g3]; refine ⟨?_, ?_, ?_, ?_, ?_, ?_, ?_, ?_, ?_, fun _ => g3, ?_, ?_, by decide⟩ <;> exact fun q => absurd q (by decide)
  rw [if_neg g3]
  by_cases g4 : t = 60; · rw [if_pos g4]; refine ⟨?_, ?_, ?_, ?_, ?_, ?_, ?_, ?_, ?_, ?_, fun _ => g4, ?_, by decide⟩ <;> exact fun q => absurd q (by decide)
  rw [if_neg g4]
  by_cases g5 : t = 61; · rw [if_pos g5]; refine ⟨?_, ?_, ?_, ?_, ?_, ?_, ?_, ?_, ?_, ?_, ?_, fun _ => g5, by decide⟩ <;> exact fun q => absurd q (by decide)
  rw [if_neg g5]
  refine ⟨?_, ?_, ?_, ?_, ?_, ?_, ?_, ?_, ?_, ?_, ?_, ?_, by decide⟩ <;> exact fun q => absurd q (by decide)
/-- the sort of a token whose number is known -/
theorem xtk_inv {R : xR} (h : xok R) : (xtk1 R = -26 → R.2.2.1 = 0) ∧ (xtk1 R = -11 → R.2.2.1 = 4) ∧ (xtk1 R = -12 → R.2.2.1 = 5) ∧ (xtk1 R = -13 → R.2.2.1 = 6) ∧ (xtk1 R = -20 → R.2.2.1 = 40) ∧ (xtk1 R = -21 → R.2.2.1 = 41) ∧ (xtk1 R = -22 → R.2.2.1 = 59) ∧ (xtk1 R = -16 → R.2.2.1 = 43) ∧ (xtk1 R = -17 → R.2.2.1 = 45) ∧ (xtk1 R = -18 → R.2.2.1 = 42) ∧ (xtk1 R = -14 → R.2.2.1 = 60) ∧ (xtk1 R = -15 → R.2.2.1 = 61) := by
  have F := fun (c : Int32) (hc : c.toInt ≤ -11 ∧ ¬ (-25 ≤ c.toInt ∧ c.toInt ≤ -23)) (e : xtk1 R = c) => xtm_inv (v := R.2.2.2) (xtm_far (fun q => (h.1 q).1) h.2.1 h.2.2 hc e)
  exact ⟨fun q => (F _ (by decide) q).1 q, fun q => (F _ (by decide) q).2.1 q, fun q => (F _ (by decide) q).2.2.1 q, fun q => (F _ (by decide) q).2.2.2.1 q, fun q => (F _ (by decide) q).2.2.2.2.1 q, fun q => (F _ (by decide) q).2.2.2.2.2.1 q, fun q => (F _ (by decide) q).2.2.2.2.2.2.1 q, fun q => (F _ (by decide) q).2.2.2.2.2.2.2.1 q, fun q => (F _ (by decide) q).2.2.2.2.2.2.2.2.1 q, fun q => (F _ (by decide) q).2.2.2.2.2.2.2.2.2.1 q, fun q => (F _ (by decide) q).2.2.2.2.2.2.2.2.2.2.1 q, fun q => (F _ (by decide) q).2.2.2.2.2.2.2.2.2.2.2.1 q⟩
theorem xtk_val {R : xR} (h : xok R) : -6 ≤ xtk1 R ↔ R.2.2.1 = 1 ∨ R.2.2.1 = 2 := by
  unfold xtk1
  constructor
  · intro g
    by_cases n1 : R.2.2.1 = 1; · exact Or.inl n1
    by_cases n2 : R.2.2.1 = 2; · exact Or.inr n2
    by_cases n3 : R.2.2.1 = 3
    · have r := h.2.2 n3
      rw [n3] at g
      have g : -6 ≤ -23 - R.2.2.2 := g
      have e : (-23 - R.2.2.2 : Int32).toInt = -23 - R.2.2.2.toInt := i32_sub (x := -23) (by rw [show (-23 : Int32).toInt = -23 from rfl]; omega) (by omega)
      rw [Int32.le_iff_toInt_le, e, show (-6 : Int32).toInt = -6 from rfl] at g
      omega
    · exact absurd (xtm_inv (v := R.2.2.2) ⟨n1, n2, n3⟩).2.2.2.2.2.2.2.2.2.2.2.2 (Int32.not_lt.mpr g)
  · rintro (q | q)
    · have r := h.1 q
      rw [q]
      show -6 ≤ R.2.2.2
      rw [Int32.le_iff_toInt_le, show (-6 : Int32).toInt = -6 from rfl]; omega
    · have r := h.2.1 q
      rw [q]
      show -6 ≤ -1 - R.2.2.2
      have e : (-1 - R.2.2.2 : Int32).toInt = -1 - R.2.2.2.toInt := i32_sub (x := -1) (by rw [show (-1 : Int32).toInt = -1 from rfl]; omega) (by omega)
      rw [Int32.le_iff_toInt_le, e, show (-6 : Int32).toInt = -6 from rfl]; omega
/-- held signs let go in two turns -/
theorem yuw_two {le r : Int32} (h : le ≤ r) : ∀ st o op, yuw le (yuw r st o op).1 (yuw r st o op).2.1 (yuw r st o op).2.2 = yuw le st o op := by
  intro st
  induction st with
  | nil => intro o op; rfl
  | cons x l ih =>
    intro o op
    simp only [yuw]
    by_cases g : yy_rk x < r
    · rw [if_pos g]
      rfl
    · rw [if_neg g]
      have g2 : ¬ yy_rk x < le := fun q => g (by rw [Int32.lt_iff_toInt_lt] at q ⊢; rw [Int32.le_iff_toInt_le] at h; omega)
      rw [if_neg g2]
      exact ih _ _
/-- a sign held below stops -/
def yst (r : Int32) (st : List Int32) : Prop := ∀ x l, st = x :: l → yy_rk x < r
theorem yuw_st {r : Int32} {st o : List Int32} {op : Int32} (h : yst r st) : yuw r st o op = (st, o, op) := by
  cases st with
  | nil => rfl
  | cons x l => simp only [yuw]; rw [if_pos (h x l rfl)]
end Zj_6q_x30
section Zj_6r_x31
/-! ===== the two readings go together ===== -/
/-- what cannot stand next behind a reader of rank r -/
def xFo (r : Int32) (R : xR) (S O : List Int32) (P : Int32) : Prop :=
  (r ≤ 6 → xtk1 R ≠ -18) ∧ (r ≤ 5 → xtk1 R ≠ -16 ∧ xtk1 R ≠ -17) ∧ (r ≤ 4 → (xtk1 R = -14 → (ybt 14 S O P).1 = false) ∧ (xtk1 R = -15 → (ybt 15 S O P).1 = false)) ∧ (r ≤ 2 → xtk1 R ≠ -12) ∧ (r ≤ 1 → xtk1 R ≠ -11)
/-- from X, what the class says and what the other side comes to -/
def xgo (T : Nat → Int32) (N A : Nat) (r : Int32) (Q : List Int32 → List Int32 × List Int32 × Int32) (X : Bool × Nat × Nat × List Int32 × List Int32 × Int32) (res : Bool × xR × List Int32) : Prop :=
  (res.1 = true → ∃ f A1 my S O P oy, X = yer T N f A1 false my S O P ∧ res.2.1 = ynx T N A1 ∧ A ≤ A1 ∧ A1 ≤ N ∧ N + 1 ≤ f + A1 ∧ yuw r S O P = Q oy ∧ res.2.2 = oy.map cm ∧ xFo r res.2.1 S O P) ∧
  (res.1 = false → X.1 = false ∧ X.2.2.1 = res.2.1.1)
def xsim (T : Nat → Int32) (N : Nat) (r top : Int32) (nt : Bool) (op : Int32) (p : xP) : Prop :=
  ∀ f A my st oy, A ≤ N → N + 1 ≤ f + A → yst top st → (nt = true → my = true) → (nt = false → my = true → xtk1 (ynx T N A) ≠ -13) → oy.length + 1 ≤ (ynx T N A).1 →
    xgo T N A r (fun o => yuw r st o op) (yer T N f A true my st oy op) (p (ynx T N A) (oy.map cm))
theorem yst_le {r r2 : Int32} {st : List Int32} (h : yst r st) (hr : r ≤ r2) : yst r2 st := fun x l e => by
  have := h x l e
  rw [Int32.lt_iff_toInt_lt] at this ⊢
  rw [Int32.le_iff_toInt_le] at hr
  omega
theorem ynx_end {T : Nat → Int32} {N A : Nat} (h : A ≤ N) (h2 : N ≤ (ynx T N A).1) : xtk1 (ynx T N A) = -26 := by
  have b := ynx_b T N A h
  have l := ynx_lt T N A h
  by_cases t0 : (ynx T N A).2.2.1 = 0
  · unfold xtk1 xtm; rw [if_pos t0]
  · have := b.2.2 t0
    omega
/-- the step of the other side at a sign -/
theorem yer_sg {T : Nat → Int32} {N f A : Nat} {my : Bool} {S O : List Int32} {P sg : Int32} (h59 : (ynx T N A).2.2.1 ≠ 59) (h41 : (ynx T N A).2.2.1 ≠ 41) (hs : ysg (ynx T N A).2.2.1 = sg) (h1 : sg ≠ -1) (hb : (ybt sg S O P).1 = true) :
    yer T N (f + 1) A false my S O P = yer T N f (ynx T N A).2.1 true (decide (sg ≤ 12)) (ybt sg S O P).2.1 (ybt sg S O P).2.2.1 (ybt sg S O P).2.2.2 := by
  subst hs
  simp only [yer]
  rw [if_neg h59, if_neg h41, if_neg h1, if_neg (show ¬ (ybt (ysg (ynx T N A).2.2.1) S O P).1 = false by rw [hb]; decide)]
theorem ybt_ok {sg : Int32} {S O st oy : List Int32} {P op r : Int32} (hr : yy_rk sg = r) (h4 : r ≠ 4) (h : yuw r S O P = (st, oy, op)) : ybt sg S O P = (true, sg :: st, oy, op) := by
  subst hr
  unfold ybt
  rw [if_neg h4, h]
  cases st with
  | nil => rfl
  | cons x l =>
    show ybt2 sg oy op (x :: l) = _
    simp only [ybt2]
    rw [if_neg (fun q => h4 q.1)]
theorem xlp_go {T : Nat → Int32} {N : Nat} {r rp tp op : Int32} {nt : Bool} {p : xP} {M : Int32 → Bool} (hN : N ≤ 160) (hp : xsim T N rp tp nt op p) (hg : xgd T N p) (h4 : r ≠ 4) (hrp : r < rp) (htp : r < tp) (hM26 : M (-26) = false)
    (hM : ∀ R, xok R → M (xtk1 R) = true → ∃ sg, ysg R.2.2.1 = sg ∧ sg ≠ -1 ∧ R.2.2.1 ≠ 59 ∧ R.2.2.1 ≠ 41 ∧ R.2.2.1 ≠ 0 ∧ yy_rk sg = r ∧ cm sg = xtk1 R ∧ ¬ (sg = 13 ∨ sg = 19) ∧ (nt = true → sg ≤ 12) ∧ (nt = false → ¬ sg ≤ 12))
    (hF : ∀ R S O P, xFo rp R S O P → M (xtk1 R) = false → xFo r R S O P) {st : List Int32} (hst : yst r st) :
    ∀ i f A my S O P oy, A ≤ N → N + 1 ≤ f + A → yuw r S O P = (st, oy, op) → xFo rp (ynx T N A) S O P → oy.length + 1 ≤ (ynx T N A).1 → 160 ≤ i + (ynx T N A).1 →
      xgo T N A r (fun o => (st, o, op)) (yer T N f A false my S O P) (xlp T N p M i (ynx T N A) (oy.map cm)) := by
  intro i
  induction i with
  | zero =>
    intro f A my S O P oy hA hf hy hFo hl hi
    have e := ynx_end (T := T) hA (by omega)
    refine ⟨fun _ => ⟨f, A, my, S, O, P, oy, rfl, rfl, Nat.le_refl _, hA, hf, hy, rfl, hF _ _ _ _ hFo (by show M (xtk1 (ynx T N A)) = false; rw [e]; exact hM26)⟩, fun q => by cases (show true = false from q)⟩
  | succ i ih =>
    intro f A my S O P oy hA hf hy hFo hl hi
    simp only [xlp]
    by_cases hm : M (xtk1 (ynx T N A)) = true
    · rw [if_pos hm]
      obtain ⟨sg, s1, s2, s3, s4, s0, s5, s6, s7, s8, s9⟩ := hM _ (ynx_ok T N A) hm
      have nl := ynx_lt T N A hA
      have nb := ynx_b T N A hA
      have n0 := nl.2.2 s0
      have b0 := nb.2.2 s0
      obtain ⟨f0, rfl⟩ : ∃ f0, f = f0 + 1 := ⟨f - 1, by omega⟩
      have eb := ybt_ok s5 h4 hy
      have ey := yer_sg (f := f0) (my := my) s3 s4 s1 s2 (by rw [eb])
      rw [eb] at ey
      dsimp only at ey
      have nb2 := ynx_b T N _ nl.2.1
      have hs := hp f0 (ynx T N A).2.1 (decide (sg ≤ 12)) (sg :: st) oy nl.2.1 (by omega) (fun x l e => by cases e; rw [s5]; exact htp) (fun q => decide_eq_true (s8 q)) (fun q q2 => absurd (of_decide_eq_true q2) (s9 q)) (by omega)
      have gg := hg (ynx T N (ynx T N A).2.1) (oy.map cm) 2 ⟨_, nl.2.1, rfl⟩ (by rw [List.length_map]; omega)
      rw [← ey] at hs
      generalize p (ynx T N (ynx T N A).2.1) (oy.map cm) = res at hs gg ⊢
      by_cases h2 : res.1 = true
      · rw [if_pos h2]
        obtain ⟨f2, A2, my2, S2, O2, P2, oy2, e1, e2, e3, e4, e5, e6, e7, e8⟩ := hs.1 h2
        have e6 : yuw rp S2 O2 P2 = (sg :: st, oy2, op) := e6.trans (yuw_st (fun x l e => by cases e; rw [s5]; exact hrp))
        have er : yuw r S2 O2 P2 = (st, oy2 ++ [sg], op) := by
          rw [← yuw_two (le := r) (r := rp) (by rw [Int32.le_iff_toInt_le]; rw [Int32.lt_iff_toInt_lt] at hrp; omega) S2 O2 P2, e6]
          show yuw r (sg :: st) oy2 op = _
          simp only [yuw]
          rw [if_neg (show ¬ yy_rk sg < r by rw [s5]; exact Int32.lt_irrefl), if_neg s7, Int32.sub_zero]
          exact yuw_st hst
        have gl := gg.2
        rw [e7, e2, List.length_map] at gl
        have nb3 := ynx_b T N A2 e4
        have ep : xput res.2.2 (xtk1 (ynx T N A)) = (oy2 ++ [sg]).map cm := by
          unfold xput
          rw [e7, if_pos (by rw [List.length_map]; omega), List.map_append, ← s6]
          rfl
        rw [ep, e2, e1]
        rw [e2] at e8
        have K := ih f2 A2 my2 S2 O2 P2 (oy2 ++ [sg]) e4 e5 er e8 (by rw [List.length_append]; show oy2.length + 1 + 1 ≤ _; omega) (by omega)
        refine ⟨fun q => ?_, K.2⟩
        obtain ⟨f3, A3, my3, S3, O3, P3, oy3, k1, k2, k3, k4⟩ := K.1 q
        exact ⟨f3, A3, my3, S3, O3, P3, oy3, k1, k2, by omega, k4⟩
      · rw [if_neg h2]
        have h2f : res.1 = false := by rwa [Bool.not_eq_true] at h2
        exact ⟨(fun q => by cases (show false = true from q)), fun _ => hs.2 h2f⟩
    · rw [if_neg hm]
      rw [Bool.not_eq_true] at hm
      exact ⟨fun _ => ⟨f, A, my, S, O, P, oy, rfl, rfl, Nat.le_refl _, hA, hf, hy, rfl, hF _ _ _ _ hFo hm⟩, fun q => by cases (show true = false from q)⟩
theorem xrow_go {T : Nat → Int32} {N : Nat} {r rp tp op : Int32} {nt : Bool} {p : xP} {M : Int32 → Bool} (hN : N ≤ 160) (hp : xsim T N rp tp nt op p) (hg : xgd T N p) (h4 : r ≠ 4) (hrp : r < rp) (htp : r < tp) (hM26 : M (-26) = false)
    (hM : ∀ R, xok R → M (xtk1 R) = true → ∃ sg, ysg R.2.2.1 = sg ∧ sg ≠ -1 ∧ R.2.2.1 ≠ 59 ∧ R.2.2.1 ≠ 41 ∧ R.2.2.1 ≠ 0 ∧ yy_rk sg = r ∧ cm sg = xtk1 R ∧ ¬ (sg = 13 ∨ sg = 19) ∧ (nt = true → sg ≤ 12) ∧ (nt = false → ¬ sg ≤ 12))
    (hF : ∀ R S O P, xFo rp R S O P → M (xtk1 R) = false → xFo r R S O P) : xsim T N r r nt op (xrow1 T N p M) := by
  intro f A my st oy hA hf hst hmy hmn hl
  have le1 : r ≤ rp := by rw [Int32.le_iff_toInt_le]; rw [Int32.lt_iff_toInt_lt] at hrp; omega
  have le2 : r ≤ tp := by rw [Int32.le_iff_toInt_le]; rw [Int32.lt_iff_toInt_lt] at htp; omega
  have hs := hp f A my st oy hA hf (yst_le hst le2) hmy hmn hl
  have gg := hg (ynx T N A) (oy.map cm) 1 ⟨A, hA, rfl⟩ (by rw [List.length_map]; omega)
  unfold xrow1
  generalize p (ynx T N A) (oy.map cm) = res at hs gg ⊢
  by_cases h2 : res.1 = true
  · rw [if_pos h2]
    obtain ⟨f2, A2, my2, S2, O2, P2, oy2, e1, e2, e3, e4, e5, e6, e7, e8⟩ := hs.1 h2
    have e6 : yuw rp S2 O2 P2 = (st, oy2, op) := e6.trans (yuw_st (yst_le hst le1))
    have er : yuw r S2 O2 P2 = (st, oy2, op) := by
      rw [← yuw_two (le := r) (r := rp) le1 S2 O2 P2, e6]
      exact yuw_st hst
    have gl := gg.2
    rw [e7, e2, List.length_map] at gl
    have nb3 := ynx_b T N A2 e4
    rw [e7, e2, e1]
    rw [e2] at e8
    have K := xlp_go (my := my2) hN hp hg h4 hrp htp hM26 hM hF hst 160 f2 A2 S2 O2 P2 oy2 e4 e5 er e8 gl (by omega)
    refine ⟨fun q => ?_, K.2⟩
    obtain ⟨f3, A3, my3, S3, O3, P3, oy3, k1, k2, k3, k4, k5, k6, k7⟩ := K.1 q
    exact ⟨f3, A3, my3, S3, O3, P3, oy3, k1, k2, by omega, k4, k5, k6.trans (yuw_st hst).symm, k7⟩
  · rw [if_neg h2]
    have h2f : res.1 = false := by rwa [Bool.not_eq_true] at h2
    exact ⟨(fun q => by cases (show false = true from q)), fun _ => hs.2 h2f⟩
end Zj_6r_x31
section Zj_6s_x32
/-! ===== one, not, and the rows over them ===== -/
theorem cm_num {v : Int32} (h : 0 ≤ v.toInt ∧ v.toInt < 10000) : cm (100000 + v) = v := by
  have e : (100000 + v : Int32).toInt = 100000 + v.toInt := i32_add (x := 100000) (by rw [show (100000 : Int32).toInt = 100000 from rfl]; omega) (by omega)
  unfold cm
  rw [if_pos (by rw [Int32.le_iff_toInt_le, e, show (100000 : Int32).toInt = 100000 from rfl]; omega)]
  apply Int32.toInt_inj.mp
  rw [i32_sub (by rw [e]; omega) (by decide), e, show (100000 : Int32).toInt = 100000 from rfl]
  omega
theorem cm_nam {v : Int32} (h : 0 ≤ v.toInt ∧ v.toInt ≤ 5) : cm v = -1 - v := by
  unfold cm
  rw [if_neg (by rw [Int32.le_iff_toInt_le, show (100000 : Int32).toInt = 100000 from rfl]; omega), if_pos (by rw [Int32.lt_iff_toInt_lt, show (11 : Int32).toInt = 11 from rfl]; omega)]
/-- a value or a name, and what stands for it -/
def xvl (R : xR) : Int32 := if R.2.2.1 = 1 then 100000 + R.2.2.2 else R.2.2.2
theorem xvl_cm {R : xR} (h : xok R) (hv : R.2.2.1 = 1 ∨ R.2.2.1 = 2) : cm (xvl R) = xtk1 R := by
  unfold xvl xtk1
  by_cases h1 : R.2.2.1 = 1
  · rw [if_pos h1, cm_num (h.1 h1), h1]; rfl
  · have h2 : R.2.2.1 = 2 := hv.resolve_left h1
    rw [if_neg h1, cm_nam (h.2.1 h2), h2]; rfl
theorem xput_map {oy : List Int32} {x : Int32} (h : oy.length < 160) : xput (oy.map cm) (cm x) = (oy ++ [x]).map cm := by
  unfold xput; rw [if_pos (by rw [List.length_map]; exact h), List.map_append]; rfl
theorem xFo7 (R : xR) (S O : List Int32) (P : Int32) : xFo 7 R S O P := ⟨fun q => absurd q (by decide), fun q => absurd q (by decide), fun q => absurd q (by decide), fun q => absurd q (by decide), fun q => absurd q (by decide)⟩
theorem addsub1 {x : Int32} : x + 1 - 1 = x := by
  rw [Int32.sub_eq_add_neg, Int32.add_assoc]; simp
theorem yrk_100 (x : Int32) : yy_rk x < 100 := by
  unfold yy_rk
  split; · decide
  split; · decide
  split; · decide
  split; · decide
  split
  · split
    · split <;> decide
    · decide
  · decide
theorem one_go {T : Nat → Int32} {N : Nat} {op : Int32} {eb : Option (xP × xP)} (hN : N ≤ 160) (h0 : eb = none → op = 5)
    (h1 : ∀ e b, eb = some (e, b) → op ≠ 5 ∧ xsim T N 1 1 true (op + 1) e ∧ xsim T N 7 100 false (op + 1) b ∧ xgd T N e ∧ xgd T N b) : xsim T N 7 100 false op (xone T N eb) := by
  intro f A my st oy hA hf hst hmy hmn hl
  have ok := ynx_ok T N A
  have nl := ynx_lt T N A hA
  have nb := ynx_b T N A hA
  obtain ⟨f0, rfl⟩ : ∃ f0, f = f0 + 1 := ⟨f - 1, by omega⟩
  have hv := xtk_val ok
  unfold xone
  by_cases hc : -6 ≤ xtk1 (ynx T N A)
  · rw [if_pos hc]
    have ht := hv.mp hc
    have n0 := nl.2.2 (by rcases ht with q | q <;> (rw [q]; decide))
    refine ⟨fun _ => ⟨f0, (ynx T N A).2.1, my, _, _, _, oy ++ [xvl (ynx T N A)], ?_, rfl, by omega, nl.2.1, by omega, yuw_two (Int32.le_refl _) _ _ _, ?_, xFo7 _ _ _ _⟩, fun q => by cases (show true = false from q)⟩
    · simp only [yer]; rw [if_pos ht]; rfl
    · rw [← xvl_cm ok ht]; exact xput_map (by omega)
  · rw [if_neg hc]
    have ht : ¬ ((ynx T N A).2.2.1 = 1 ∨ (ynx T N A).2.2.1 = 2) := fun q => hc (hv.mpr q)
    have h6 : ¬ ((ynx T N A).2.2.1 = 6 ∧ my = true) := fun q => hmn rfl q.2 (by unfold xtk1; rw [q.1]; rfl)
    cases eb with
    | none =>
      have h5 := h0 rfl
      subst h5
      refine ⟨(fun q => by cases (show false = true from q)), fun _ => ?_⟩
      simp only [yer]
      rw [if_neg ht, if_neg h6]
      by_cases a1 : (ynx T N A).2.2.1 = 45
      · rw [if_pos a1, if_pos trivial]; exact ⟨rfl, rfl⟩
      · rw [if_neg a1]
        by_cases a2 : (ynx T N A).2.2.1 = 40
        · rw [if_pos a2, if_pos trivial]; exact ⟨rfl, rfl⟩
        · rw [if_neg a2]; exact ⟨rfl, rfl⟩
    | some p =>
      obtain ⟨e, b⟩ := p
      obtain ⟨h5, he, hb, ge, gb⟩ := h1 e b rfl
      dsimp only
      have inv := xtk_inv ok
      by_cases c20 : xtk1 (ynx T N A) = -20
      · rw [if_pos c20]
        have t40 := inv.2.2.2.2.1 c20
        have n0 := nl.2.2 (by rw [t40]; decide)
        have b0 := nb.2.2 (by rw [t40]; decide)
        have nb2 := ynx_b T N _ nl.2.1
        have ey : yer T N (f0 + 1) A true my st oy op = yer T N f0 (ynx T N A).2.1 true true (0 :: st) oy (op + 1) := by
          simp only [yer]
          rw [if_neg ht, if_neg h6, if_neg (show ¬ (ynx T N A).2.2.1 = 45 by rw [t40]; decide), if_pos t40, if_neg h5]
        have hs := he f0 (ynx T N A).2.1 true (0 :: st) oy nl.2.1 (by omega) (fun x l q => by cases q; decide) (fun _ => rfl) (fun q => by cases q) (by omega)
        have gg := ge (ynx T N (ynx T N A).2.1) (oy.map cm) 2 ⟨_, nl.2.1, rfl⟩ (by rw [List.length_map]; omega)
        rw [← ey] at hs
        generalize e (ynx T N (ynx T N A).2.1) (oy.map cm) = res at hs gg ⊢
        by_cases h2 : res.1 = true
        · rw [if_pos h2]
          obtain ⟨f2, A2, my2, S2, O2, P2, oy2, e1, e2, e3, e4, e5, e6, e7, e8⟩ := hs.1 h2
          have e6 : yuw 1 S2 O2 P2 = (0 :: st, oy2, op + 1) := e6.trans (yuw_st (fun x l q => by cases q; decide))
          have ok2 := ynx_ok T N A2
          have nl2 := ynx_lt T N A2 e4
          obtain ⟨f3, rfl⟩ : ∃ f3, f2 = f3 + 1 := ⟨f2 - 1, by omega⟩
          rw [e2] at e8 ⊢
          by_cases c21 : xtk1 (ynx T N A2) = -21
          · rw [if_pos c21]
            have t41 := (xtk_inv ok2).2.2.2.2.2.1 c21
            have n2 := nl2.2.2 (by rw [t41]; decide)
            refine ⟨fun _ => ⟨f3, (ynx T N A2).2.1, my2, _, _, _, oy2, ?_, rfl, by omega, nl2.2.1, by omega, yuw_two (st := st) (o := oy2) (op := op) (Int32.le_refl 7), e7, xFo7 _ _ _ _⟩, fun q => by cases (show true = false from q)⟩
            rw [e1]
            simp only [yer]
            rw [if_neg (show ¬ (ynx T N A2).2.2.1 = 59 by rw [t41]; decide), if_pos t41, e6]
            dsimp only
            rw [if_neg (show ¬ (0 :: st).isEmpty = true from fun q => by cases q), addsub1]
            rfl
          · rw [if_neg c21]
            refine ⟨(fun q => by cases (show false = true from q)), fun _ => ?_⟩
            rw [e1, e2]
            have t41 : ¬ (ynx T N A2).2.2.1 = 41 := fun q => c21 (by unfold xtk1; rw [q]; rfl)
            simp only [yer]
            by_cases t59 : (ynx T N A2).2.2.1 = 59
            · rw [if_pos t59, e6]; exact ⟨rfl, rfl⟩
            · rw [if_neg t59, if_neg t41]
              by_cases sg : ysg (ynx T N A2).2.2.1 = -1
              · rw [if_pos sg]; exact ⟨rfl, rfl⟩
              · rw [if_neg sg]
                have hb2 : (ybt (ysg (ynx T N A2).2.2.1) S2 O2 P2).1 = false := by
                  have F := e8
                  by_cases q4 : (ynx T N A2).2.2.1 = 4; · exact absurd (show xtk1 (ynx T N A2) = -11 by unfold xtk1; rw [q4]; rfl) (F.2.2.2.2 (by decide))
                  by_cases q5 : (ynx T N A2).2.2.1 = 5; · exact absurd (show xtk1 (ynx T N A2) = -12 by unfold xtk1; rw [q5]; rfl) (F.2.2.2.1 (by decide))
                  by_cases q6 : (ynx T N A2).2.2.1 = 60; · rw [q6]; exact (F.2.2.1 (by decide)).1 (by unfold xtk1; rw [q6]; rfl)
                  by_cases q7 : (ynx T N A2).2.2.1 = 61; · rw [q7]; exact (F.2.2.1 (by decide)).2 (by unfold xtk1; rw [q7]; rfl)
                  by_cases q8 : (ynx T N A2).2.2.1 = 43; · exact absurd (show xtk1 (ynx T N A2) = -16 by unfold xtk1; rw [q8]; rfl) (F.2.1 (by decide)).1
                  by_cases q9 : (ynx T N A2).2.2.1 = 45; · exact absurd (show xtk1 (ynx T N A2) = -17 by unfold xtk1; rw [q9]; rfl) (F.2.1 (by decide)).2
                  by_cases q1 : (ynx T N A2).2.2.1 = 42; · exact absurd (show xtk1 (ynx T N A2) = -18 by unfold xtk1; rw [q1]; rfl) (F.1 (by decide))
                  exact absurd (by unfold ysg; rw [if_neg q4, if_neg q5, if_neg q6, if_neg q7, if_neg q8, if_neg q9, if_neg q1]) sg
                rw [if_pos hb2]; exact ⟨rfl, rfl⟩
        · rw [if_neg h2]
          have h2f : res.1 = false := by rwa [Bool.not_eq_true] at h2
          exact ⟨(fun q => by cases (show false = true from q)), fun _ => hs.2 h2f⟩
      · rw [if_neg c20]
        by_cases c17 : xtk1 (ynx T N A) = -17
        · rw [if_pos c17]
          have t45 := inv.2.2.2.2.2.2.2.2.1 c17
          have n0 := nl.2.2 (by rw [t45]; decide)
          have b0 := nb.2.2 (by rw [t45]; decide)
          have nb2 := ynx_b T N _ nl.2.1
          have ey : yer T N (f0 + 1) A true my st oy op = yer T N f0 (ynx T N A).2.1 true false (19 :: st) oy (op + 1) := by
            simp only [yer]
            rw [if_neg ht, if_neg h6, if_pos t45, if_neg h5]
          have hs := hb f0 (ynx T N A).2.1 false (19 :: st) oy nl.2.1 (by omega) (fun x l q => yrk_100 x) (fun q => by cases q) (fun _ q => by cases q) (by omega)
          have gg := gb (ynx T N (ynx T N A).2.1) (oy.map cm) 2 ⟨_, nl.2.1, rfl⟩ (by rw [List.length_map]; omega)
          rw [← ey] at hs
          generalize b (ynx T N (ynx T N A).2.1) (oy.map cm) = res at hs gg ⊢
          by_cases h2 : res.1 = true
          · rw [if_pos h2]
            obtain ⟨f2, A2, my2, S2, O2, P2, oy2, e1, e2, e3, e4, e5, e6, e7, e8⟩ := hs.1 h2
            have gl := gg.2
            rw [e7, e2, List.length_map] at gl
            have nb3 := ynx_b T N A2 e4
            refine ⟨fun _ => ⟨f2, A2, my2, S2, O2, P2, oy2 ++ [19], e1, e2, by omega, e4, e5, ?_, ?_, xFo7 _ _ _ _⟩, fun q => by cases (show true = false from q)⟩
            · refine e6.trans ?_
              show yuw 7 (19 :: st) oy2 (op + 1) = _
              rw [yuw, if_neg (show ¬ yy_rk 19 < 7 by decide), if_pos (Or.inr rfl), addsub1]
            · rw [e7]; exact xput_map (x := 19) (by omega)
          · rw [if_neg h2]
            have h2f : res.1 = false := by rwa [Bool.not_eq_true] at h2
            exact ⟨(fun q => by cases (show false = true from q)), fun _ => hs.2 h2f⟩
        · rw [if_neg c17]
          refine ⟨(fun q => by cases (show false = true from q)), fun _ => ?_⟩
          simp only [yer]
          rw [if_neg ht, if_neg h6, if_neg (show ¬ (ynx T N A).2.2.1 = 45 from fun q => c17 (by unfold xtk1; rw [q]; rfl)), if_neg (show ¬ (ynx T N A).2.2.1 = 40 from fun q => c20 (by unfold xtk1; rw [q]; rfl))]
          exact ⟨rfl, rfl⟩
theorem not_go {T : Nat → Int32} {N : Nat} {op : Int32} {nb : Option xP} {sm : xP} (hN : N ≤ 160) (h0 : nb = none → op = 5)
    (h1 : ∀ p, nb = some p → op ≠ 5 ∧ xsim T N 3 4 true (op + 1) p ∧ xgd T N p) (hs : xsim T N 5 5 false op sm) (hg : xgd T N sm) : xsim T N 3 4 true op (xnot T N nb sm) := by
  intro f A my st oy hA hf hst hmy hmn hl
  have ok := ynx_ok T N A
  have nl := ynx_lt T N A hA
  have nbb := ynx_b T N A hA
  have inv := xtk_inv ok
  have m1 := hmy rfl
  subst m1
  unfold xnot
  by_cases c13 : xtk1 (ynx T N A) = -13
  · rw [if_pos c13]
    have t6 := inv.2.2.2.1 c13
    have n0 := nl.2.2 (by rw [t6]; decide)
    have b0 := nbb.2.2 (by rw [t6]; decide)
    have nb2 := ynx_b T N _ nl.2.1
    obtain ⟨f0, rfl⟩ : ∃ f0, f = f0 + 1 := ⟨f - 1, by omega⟩
    have ht : ¬ ((ynx T N A).2.2.1 = 1 ∨ (ynx T N A).2.2.1 = 2) := fun q => by rw [t6] at q; exact absurd q (by decide)
    cases nb with
    | none =>
      have h5 := h0 rfl
      subst h5
      refine ⟨(fun q => by cases (show false = true from q)), fun _ => ?_⟩
      simp only [yer]
      rw [if_neg ht, if_pos ⟨t6, trivial⟩, if_pos trivial]
      exact ⟨rfl, rfl⟩
    | some p =>
      obtain ⟨h5, hp, gp⟩ := h1 p rfl
      dsimp only
      have ey : yer T N (f0 + 1) A true true st oy op = yer T N f0 (ynx T N A).2.1 true true (13 :: st) oy (op + 1) := by
        simp only [yer]
        rw [if_neg ht, if_pos ⟨t6, trivial⟩, if_neg h5]
      have hh := hp f0 (ynx T N A).2.1 true (13 :: st) oy nl.2.1 (by omega) (fun x l q => by cases q; decide) (fun _ => rfl) (fun q => by cases q) (by omega)
      have gg := gp (ynx T N (ynx T N A).2.1) (oy.map cm) 2 ⟨_, nl.2.1, rfl⟩ (by rw [List.length_map]; omega)
      rw [← ey] at hh
      generalize p (ynx T N (ynx T N A).2.1) (oy.map cm) = res at hh gg ⊢
      by_cases h2 : res.1 = true
      · rw [if_pos h2]
        obtain ⟨f2, A2, my2, S2, O2, P2, oy2, e1, e2, e3, e4, e5, e6, e7, e8⟩ := hh.1 h2
        have gl := gg.2
        rw [e7, e2, List.length_map] at gl
        have nb3 := ynx_b T N A2 e4
        refine ⟨fun _ => ⟨f2, A2, my2, S2, O2, P2, oy2 ++ [13], e1, e2, by omega, e4, e5, ?_, ?_, e8⟩, fun q => by cases (show true = false from q)⟩
        · refine e6.trans ?_
          show yuw 3 (13 :: st) oy2 (op + 1) = _
          rw [yuw, if_neg (show ¬ yy_rk 13 < 3 by decide), if_pos (Or.inl rfl), addsub1]
        · rw [e7]; exact xput_map (x := 13) (by omega)
      · rw [if_neg h2]
        have h2f : res.1 = false := by rwa [Bool.not_eq_true] at h2
        exact ⟨(fun q => by cases (show false = true from q)), fun _ => hh.2 h2f⟩
  · rw [if_neg c13]
    have hh := hs f A true st oy hA hf (yst_le hst (by decide)) (fun q => by cases q) (fun _ _ => c13) hl
    have gg := hg (ynx T N A) (oy.map cm) 1 ⟨_, hA, rfl⟩ (by rw [List.length_map]; omega)
    generalize sm (ynx T N A) (oy.map cm) = res at hh gg ⊢
    by_cases h2 : res.1 = true
    · rw [if_pos h2]
      obtain ⟨f2, A2, my2, S2, O2, P2, oy2, e1, e2, e3, e4, e5, e6, e7, e8⟩ := hh.1 h2
      have e6 : yuw 5 S2 O2 P2 = (st, oy2, op) := e6.trans (yuw_st (yst_le hst (by decide)))
      have gl := gg.2
      rw [e7, e2, List.length_map] at gl
      rw [e2, e7]
      have ok2 := ynx_ok T N A2
      have nl2 := ynx_lt T N A2 e4
      have nb3 := ynx_b T N A2 e4
      have inv2 := xtk_inv ok2
      by_cases c14 : xM14 (xtk1 (ynx T N A2)) = true
      · rw [if_pos c14]
        obtain ⟨sg, s1, s2, s3, s4, s5, s6, s0⟩ : ∃ sg, ysg (ynx T N A2).2.2.1 = sg ∧ (sg = 14 ∨ sg = 15) ∧ (ynx T N A2).2.2.1 ≠ 59 ∧ (ynx T N A2).2.2.1 ≠ 41 ∧ yy_rk sg = 4 ∧ cm sg = xtk1 (ynx T N A2) ∧ (ynx T N A2).2.2.1 ≠ 0 := by
          unfold xM14 at c14
          rw [Bool.or_eq_true, beq_iff_eq, beq_iff_eq] at c14
          rcases c14 with q | q
          · have t := inv2.2.2.2.2.2.2.2.2.2.2.1 q
            exact ⟨14, by rw [t]; rfl, Or.inl rfl, by rw [t]; decide, by rw [t]; decide, by decide, by rw [q]; decide, by rw [t]; decide⟩
          · have t := inv2.2.2.2.2.2.2.2.2.2.2.2 q
            exact ⟨15, by rw [t]; rfl, Or.inr rfl, by rw [t]; decide, by rw [t]; decide, by decide, by rw [q]; decide, by rw [t]; decide⟩
        have n2 := nl2.2.2 s0
        have b2 := nb3.2.2 s0
        have nb4 := ynx_b T N _ nl2.2.1
        obtain ⟨f3, rfl⟩ : ∃ f3, f2 = f3 + 1 := ⟨f2 - 1, by omega⟩
        have eb : ybt sg S2 O2 P2 = (true, sg :: st, oy2, op) := by
          unfold ybt
          rw [if_pos s5, e6]
          dsimp only
          cases st with
          | nil => rfl
          | cons x l =>
            simp only [ybt2]
            rw [if_neg (fun q => by have := hst x l rfl; rw [q.2] at this; exact absurd this (by decide))]
        have ey := yer_sg (f := f3) (my := my2) s3 s4 s1 (by rcases s2 with q | q <;> (rw [q]; decide)) (by rw [eb])
        rw [eb] at ey
        dsimp only at ey
        have d12 : decide (sg ≤ 12) = false := by rcases s2 with q | q <;> (rw [q]; decide)
        have hk := hs f3 (ynx T N A2).2.1 (decide (sg ≤ 12)) (sg :: st) oy2 nl2.2.1 (by omega) (fun x l q => by cases q; rw [s5]; decide) (fun q => by cases q) (fun _ q => by rw [d12] at q; cases q) (by omega)
        have g2 := hg (ynx T N (ynx T N A2).2.1) (oy2.map cm) 2 ⟨_, nl2.2.1, rfl⟩ (by rw [List.length_map]; omega)
        rw [← ey, ← e1] at hk
        generalize sm (ynx T N (ynx T N A2).2.1) (oy2.map cm) = rs2 at hk g2 ⊢
        by_cases h3 : rs2.1 = true
        · rw [if_pos h3]
          obtain ⟨f4, A4, my4, S4, O4, P4, oy4, k1, k2, k3, k4, k5, k6, k7, k8⟩ := hk.1 h3
          have k6 : yuw 5 S4 O4 P4 = (sg :: st, oy4, op) := k6.trans (yuw_st (fun x l q => by cases q; rw [s5]; decide))
          have gl2 := g2.2
          rw [k7, k2, List.length_map] at gl2
          have nb5 := ynx_b T N A4 k4
          have nf : ∀ y, yy_rk y = 4 → (ybt y S4 O4 P4).1 = false := fun y hy => by
            unfold ybt
            rw [if_pos hy, k6]
            simp only [ybt2]
            rw [if_pos ⟨hy, s5⟩]
          refine ⟨fun _ => ⟨f4, A4, my4, S4, O4, P4, oy4 ++ [sg], k1, k2, by omega, k4, k5, ?_, ?_, ?_⟩, fun q => by cases (show true = false from q)⟩
          · rw [← yuw_two (le := 3) (r := 5) (by decide) S4 O4 P4, k6]
            show yuw 3 (sg :: st) oy4 op = _
            simp only [yuw]
            rw [if_neg (show ¬ yy_rk sg < 3 by rw [s5]; decide), if_neg (show ¬ (sg = 13 ∨ sg = 19) by rcases s2 with q | q <;> (rw [q]; decide)), Int32.sub_zero]
          · rw [k7, ← s6]; exact xput_map (by omega)
          · exact ⟨fun _ => k8.1 (by decide), fun _ => k8.2.1 (by decide), fun _ => ⟨fun _ => nf 14 (by decide), fun _ => nf 15 (by decide)⟩, fun q => absurd q (by decide), fun q => absurd q (by decide)⟩
        · rw [if_neg h3]
          have h3f : rs2.1 = false := by rwa [Bool.not_eq_true] at h3
          exact ⟨(fun q => by cases (show false = true from q)), fun _ => hk.2 h3f⟩
      · rw [if_neg c14]
        refine ⟨fun _ => ⟨f2, A2, my2, S2, O2, P2, oy2, e1, e2, e3, e4, e5, ?_, e7, ?_⟩, fun q => by cases (show true = false from q)⟩
        · rw [← yuw_two (le := 3) (r := 5) (by decide) S2 O2 P2, e6]
        · rw [e2] at e8 ⊢
          exact ⟨fun _ => e8.1 (by decide), fun _ => e8.2.1 (by decide), fun _ => ⟨fun q => absurd (by rw [q]; decide) c14, fun q => absurd (by rw [q]; decide) c14⟩, fun q => absurd q (by decide), fun q => absurd q (by decide)⟩
    · rw [if_neg h2]
      have h2f : res.1 = false := by rwa [Bool.not_eq_true] at h2
      exact ⟨(fun q => by cases (show false = true from q)), fun _ => hh.2 h2f⟩
end Zj_6s_x32
section Zj_6t_x33
/-! ===== the two readings of a whole text ===== -/
theorem sim_term {T : Nat → Int32} {N : Nat} {op : Int32} {p : xP} (hN : N ≤ 160) (h : xsim T N 7 100 false op p) (hg : xgd T N p) : xsim T N 6 6 false op (xterm T N p) :=
  xrow_go hN h hg (by decide) (by decide) (by decide) (by decide) (fun R ok hm => by
    unfold xM18 at hm
    rw [beq_iff_eq] at hm
    have t := (xtk_inv ok).2.2.2.2.2.2.2.2.2.1 hm
    exact ⟨18, by rw [t]; rfl, by decide, by rw [t]; decide, by rw [t]; decide, by rw [t]; decide, by decide, by rw [hm]; decide, by decide, (fun q => by cases q), fun _ => by decide⟩)
    (fun R S O P F hm => by
      unfold xM18 at hm
      rw [beq_eq_false_iff_ne] at hm
      exact ⟨fun _ => hm, fun q => absurd q (by decide), fun q => absurd q (by decide), fun q => absurd q (by decide), fun q => absurd q (by decide)⟩)
theorem sim_sum {T : Nat → Int32} {N : Nat} {op : Int32} {p : xP} (hN : N ≤ 160) (h : xsim T N 7 100 false op p) (hg : xgd T N p) : xsim T N 5 5 false op (xsum T N p) :=
  xrow_go hN (sim_term hN h hg) (xgd_row hg M_no.1) (by decide) (by decide) (by decide) (by decide) (fun R ok hm => by
    unfold xM16 at hm
    rw [Bool.or_eq_true, beq_iff_eq, beq_iff_eq] at hm
    rcases hm with hm | hm
    · have t := (xtk_inv ok).2.2.2.2.2.2.2.1 hm
      exact ⟨16, by rw [t]; rfl, by decide, by rw [t]; decide, by rw [t]; decide, by rw [t]; decide, by decide, by rw [hm]; decide, by decide, (fun q => by cases q), fun _ => by decide⟩
    · have t := (xtk_inv ok).2.2.2.2.2.2.2.2.1 hm
      exact ⟨17, by rw [t]; rfl, by decide, by rw [t]; decide, by rw [t]; decide, by rw [t]; decide, by decide, by rw [hm]; decide, by decide, (fun q => by cases q), fun _ => by decide⟩)
    (fun R S O P F hm => by
      unfold xM16 at hm
      rw [Bool.or_eq_false_iff, beq_eq_false_iff_ne, beq_eq_false_iff_ne] at hm
      exact ⟨fun _ => F.1 (by decide), fun _ => hm, fun q => absurd q (by decide), fun q => absurd q (by decide), fun q => absurd q (by decide)⟩)
theorem sim_and {T : Nat → Int32} {N : Nat} {op : Int32} {p : xP} (hN : N ≤ 160) (h : xsim T N 3 4 true op p) (hg : xgd T N p) : xsim T N 2 2 true op (xand T N p) :=
  xrow_go hN h hg (by decide) (by decide) (by decide) (by decide) (fun R ok hm => by
    unfold xM12 at hm
    rw [beq_iff_eq] at hm
    have t := (xtk_inv ok).2.2.1 hm
    exact ⟨12, by rw [t]; rfl, by decide, by rw [t]; decide, by rw [t]; decide, by rw [t]; decide, by decide, by rw [hm]; decide, by decide, fun _ => by decide, fun q => by cases q⟩)
    (fun R S O P F hm => by
      unfold xM12 at hm
      rw [beq_eq_false_iff_ne] at hm
      exact ⟨fun _ => F.1 (by decide), fun _ => F.2.1 (by decide), fun _ => F.2.2.1 (by decide), fun _ => hm, fun q => absurd q (by decide)⟩)
theorem sim_E {T : Nat → Int32} {N : Nat} {op : Int32} {p : xP} (hN : N ≤ 160) (h : xsim T N 3 4 true op p) (hg : xgd T N p) : xsim T N 1 1 true op (xE T N p) :=
  xrow_go hN (sim_and hN h hg) (xgd_row hg M_no.2.2.1) (by decide) (by decide) (by decide) (by decide) (fun R ok hm => by
    unfold xM11 at hm
    rw [beq_iff_eq] at hm
    have t := (xtk_inv ok).2.1 hm
    exact ⟨11, by rw [t]; rfl, by decide, by rw [t]; decide, by rw [t]; decide, by rw [t]; decide, by decide, by rw [hm]; decide, by decide, fun _ => by decide, fun q => by cases q⟩)
    (fun R S O P F hm => by
      unfold xM11 at hm
      rw [beq_eq_false_iff_ne] at hm
      exact ⟨fun _ => F.1 (by decide), fun _ => F.2.1 (by decide), fun _ => F.2.2.1 (by decide), fun _ => F.2.2.2.1 (by decide), fun _ => hm⟩)
theorem sim_lv {T : Nat → Int32} {N : Nat} (hN : N ≤ 160) : ∀ g, g ≤ 5 → xsim T N 7 100 false (nI (5 - g)) (xlv T N g).1 ∧ xsim T N 3 4 true (nI (5 - g)) (xlv T N g).2 := by
  intro g
  induction g with
  | zero =>
    intro _
    have h1 : xsim T N 7 100 false (nI 5) (xlv T N 0).1 := by rw [xlv_o0]; exact one_go hN (fun _ => rfl) (fun e b q => by cases q)
    refine ⟨h1, ?_⟩
    rw [xlv_n0]
    exact not_go hN (fun _ => rfl) (fun p q => by cases q) (sim_sum hN h1 (xgd_lv T N 0).1) (xgd_sum (xgd_lv T N 0).1)
  | succ g ih =>
    intro hg
    obtain ⟨i1, i2⟩ := ih (by omega)
    have e1 : nI (5 - (g + 1)) + 1 = nI (5 - g) := by rw [nI_1]; congr 1; omega
    have n5 : nI (5 - (g + 1)) ≠ 5 := fun q => absurd ((nI_eq (a := 5 - (g + 1)) (b := 5) (by omega) (by decide)).mp q) (by omega)
    have gl := xgd_lv T N g
    have h1 : xsim T N 7 100 false (nI (5 - (g + 1))) (xlv T N (g + 1)).1 := by
      rw [xlv_oS]
      refine one_go hN (fun q => by cases q) (fun e b q => ?_)
      cases q
      rw [e1]
      exact ⟨n5, sim_E hN i2 gl.2, i1, xgd_E gl.2, gl.1⟩
    refine ⟨h1, ?_⟩
    rw [xlv_nS]
    refine not_go hN (fun q => by cases q) (fun p q => ?_) (sim_sum hN h1 (xgd_lv T N (g + 1)).1) (xgd_sum (xgd_lv T N (g + 1)).1)
    cases q
    rw [e1]
    exact ⟨n5, i2, gl.2⟩
theorem fol_ybt {R : xR} {S O : List Int32} {P : Int32} (F : xFo 1 R S O P) (sg : ¬ ysg R.2.2.1 = -1) : (ybt (ysg R.2.2.1) S O P).1 = false := by
  by_cases q4 : R.2.2.1 = 4; · exact absurd (show xtk1 R = -11 by unfold xtk1; rw [q4]; rfl) (F.2.2.2.2 (by decide))
  by_cases q5 : R.2.2.1 = 5; · exact absurd (show xtk1 R = -12 by unfold xtk1; rw [q5]; rfl) (F.2.2.2.1 (by decide))
  by_cases q6 : R.2.2.1 = 60; · rw [q6]; exact (F.2.2.1 (by decide)).1 (by unfold xtk1; rw [q6]; rfl)
  by_cases q7 : R.2.2.1 = 61; · rw [q7]; exact (F.2.2.1 (by decide)).2 (by unfold xtk1; rw [q7]; rfl)
  by_cases q8 : R.2.2.1 = 43; · exact absurd (show xtk1 R = -16 by unfold xtk1; rw [q8]; rfl) (F.2.1 (by decide)).1
  by_cases q9 : R.2.2.1 = 45; · exact absurd (show xtk1 R = -17 by unfold xtk1; rw [q9]; rfl) (F.2.1 (by decide)).2
  by_cases q1 : R.2.2.1 = 42; · exact absurd (show xtk1 R = -18 by unfold xtk1; rw [q1]; rfl) (F.1 (by decide))
  exact absurd (by unfold ysg; rw [if_neg q4, if_neg q5, if_neg q6, if_neg q7, if_neg q8, if_neg q9, if_neg q1]) sg
/-- the name of part p -/
theorem key_inv {R : xR} (h : xok R) {p : Nat} (hp : p < 3) : xtk1 R = -23 - nI p ↔ R.2.2.1 = 3 ∧ R.2.2.2 = nI p := by
  have tp := nI_toInt (n := p) (by omega)
  have ek : (-23 - nI p : Int32).toInt = -23 - (p : Int) := by rw [i32_sub (x := -23) (by rw [show (-23 : Int32).toInt = -23 from rfl]; omega) (by omega), tp]; rfl
  constructor
  · intro q
    by_cases n1 : R.2.2.1 = 1
    · have r := h.1 n1
      unfold xtk1 at q
      rw [n1] at q
      have q : R.2.2.2 = -23 - nI p := q
      rw [q, ek] at r; omega
    · by_cases n2 : R.2.2.1 = 2
      · have r := h.2.1 n2
        unfold xtk1 at q
        rw [n2] at q
        have q : -1 - R.2.2.2 = -23 - nI p := q
        have e : (-1 - R.2.2.2 : Int32).toInt = -1 - R.2.2.2.toInt := i32_sub (x := -1) (by rw [show (-1 : Int32).toInt = -1 from rfl]; omega) (by omega)
        rw [q, ek] at e; omega
      · by_cases n3 : R.2.2.1 = 3
        · have r := h.2.2 n3
          refine ⟨n3, ?_⟩
          unfold xtk1 at q
          rw [n3] at q
          have q : -23 - R.2.2.2 = -23 - nI p := q
          have e : (-23 - R.2.2.2 : Int32).toInt = -23 - R.2.2.2.toInt := i32_sub (x := -23) (by rw [show (-23 : Int32).toInt = -23 from rfl]; omega) (by omega)
          rw [q, ek] at e
          apply Int32.toInt_inj.mp
          rw [tp]; omega
        · exfalso
          unfold xtk1 xtm at q
          rw [if_neg n1, if_neg n2, if_neg n3] at q
          rcases (show p = 0 ∨ p = 1 ∨ p = 2 by omega) with rfl | rfl | rfl <;>
          · by_cases a0 : R.2.2.1 = 0; · rw [if_pos a0] at q; exact absurd q (by decide)
            by_cases a1 : R.2.2.1 = 4; · rw [if_neg a0, if_pos a1] at q; exact absurd q (by decide)
            by_cases a2 : R.2.2.1 = 5; · rw [if_neg a0, if_neg a1, if_pos a2] at q; exact absurd q (by decide)
            by_cases a3 : R.2.2.1 = 6; · rw [if_neg a0, if_neg a1, if_neg a2, if_pos a3] at q; exact absurd q (by decide)
            by_cases a4 : R.2.2.1 = 40; · rw [if_neg a0, if_neg a1, if_neg a2, if_neg a3, if_pos a4] at q; exact absurd q (by decide)
            by_cases a5 : R.2.2.1 = 41; · rw [if_neg a0, if_neg a1, if_neg a2, if_neg a3, if_neg a4, if_pos a5] at q; exact absurd q (by decide)
            by_cases a6 : R.2.2.1 = 59; · rw [if_neg a0, if_neg a1, if_neg a2, if_neg a3, if_neg a4, if_neg a5, if_pos a6] at q; exact absurd q (by decide)
            by_cases a7 : R.2.2.1 = 43; · rw [if_neg a0, if_neg a1, if_neg a2, if_neg a3, if_neg a4, if_neg a5, if_neg a6, if_pos a7] at q; exact absurd q (by decide)
            by_cases a8 : R.2.2.1 = 45; · rw [if_neg a0, if_neg a1, if_neg a2, if_neg a3, if_neg a4, if_neg a5, if_neg a6, if_neg a7, if_pos a8] at q; exact absurd q (by decide)
            by_cases a9 : R.2.2.1 = 42; · rw [if_neg a0, if_neg a1, if_neg a2, if_neg a3, if_neg a4, if_neg a5, if_neg a6, if_neg a7, if_neg a8, if_pos a9] at q; exact absurd q (by decide)
            by_cases b1 : R.2.2.1 = 60; · rw [if_neg a0, if_neg a1, if_neg a2, if_neg a3, if_neg a4, if_neg a5, if_neg a6, if_neg a7, if_neg a8, if_neg a9, if_pos b1] at q; exact absurd q (by decide)
            by_cases b2 : R.2.2.1 = 61; · rw [if_neg a0, if_neg a1, if_neg a2, if_neg a3, if_neg a4, if_neg a5, if_neg a6, if_neg a7, if_neg a8, if_neg a9, if_neg b1, if_pos b2] at q; exact absurd q (by decide)
            rw [if_neg a0, if_neg a1, if_neg a2, if_neg a3, if_neg a4, if_neg a5, if_neg a6, if_neg a7, if_neg a8, if_neg a9, if_neg b1, if_neg b2] at q
            exact absurd q (by decide)
  · rintro ⟨q1, q2⟩
    unfold xtk1
    rw [q1, q2]; rfl
/-- a part, on both sides -/
theorem part_go {T : Nat → Int32} {N A p : Nat} {oy : List Int32} (hN : N ≤ 160) (hp : p < 3) (hA : A ≤ N) (hl : oy.length ≤ (ynx T N A).1) :
    ((xpart T N (xE T N (xlv T N 5).2) (-23 - nI p) (ynx T N A) (oy.map cm)).1 = true →
      ((ynx T N A).2.2.1 = 3 ∧ (ynx T N A).2.2.2 = nI p) ∧ (yer T N (N + 1) (ynx T N A).2.1 true true [] oy 0).1 = true ∧
      (xpart T N (xE T N (xlv T N 5).2) (-23 - nI p) (ynx T N A) (oy.map cm)).2.1 = ynx T N (yer T N (N + 1) (ynx T N A).2.1 true true [] oy 0).2.1 ∧
      (xpart T N (xE T N (xlv T N 5).2) (-23 - nI p) (ynx T N A) (oy.map cm)).2.2 = (yer T N (N + 1) (ynx T N A).2.1 true true [] oy 0).2.2.2.2.1.map cm ∧
      (yer T N (N + 1) (ynx T N A).2.1 true true [] oy 0).2.1 ≤ N) ∧
    ((xpart T N (xE T N (xlv T N 5).2) (-23 - nI p) (ynx T N A) (oy.map cm)).1 = false →
      (¬ ((ynx T N A).2.2.1 = 3 ∧ (ynx T N A).2.2.2 = nI p) ∧ (xpart T N (xE T N (xlv T N 5).2) (-23 - nI p) (ynx T N A) (oy.map cm)).2.1.1 = (ynx T N A).1) ∨
      (((ynx T N A).2.2.1 = 3 ∧ (ynx T N A).2.2.2 = nI p) ∧ (yer T N (N + 1) (ynx T N A).2.1 true true [] oy 0).1 = false ∧
        (xpart T N (xE T N (xlv T N 5).2) (-23 - nI p) (ynx T N A) (oy.map cm)).2.1.1 = (yer T N (N + 1) (ynx T N A).2.1 true true [] oy 0).2.2.1)) := by
  have ok := ynx_ok T N A
  have nl := ynx_lt T N A hA
  have nb := ynx_b T N A hA
  have ki := key_inv ok hp
  unfold xpart
  by_cases hk : xtk1 (ynx T N A) = -23 - nI p
  · rw [if_pos hk]
    have kt := ki.mp hk
    have b0 := nb.2.2 (by rw [kt.1]; decide)
    have nb2 := ynx_b T N _ nl.2.1
    have E := sim_E hN (sim_lv (T := T) hN 5 (Nat.le_refl _)).2 (xgd_lv T N 5).2
    have hs := E (N + 1) (ynx T N A).2.1 true [] oy nl.2.1 (by omega) (fun x l q => by cases q) (fun _ => rfl) (fun q => by cases q) (by omega)
    rw [show nI (5 - 5) = 0 from rfl] at hs
    generalize xE T N (xlv T N 5).2 (ynx T N (ynx T N A).2.1) (oy.map cm) = res at hs ⊢
    generalize yer T N (N + 1) (ynx T N A).2.1 true true [] oy 0 = X at hs ⊢
    by_cases h2 : res.1 = true
    · rw [if_pos h2]
      obtain ⟨f2, A2, my2, S2, O2, P2, oy2, e1, e2, e3, e4, e5, e6, e7, e8⟩ := hs.1 h2
      have e6 : yuw 1 S2 O2 P2 = ([], oy2, 0) := e6
      have ok2 := ynx_ok T N A2
      have nl2 := ynx_lt T N A2 e4
      obtain ⟨f3, rfl⟩ : ∃ f3, f2 = f3 + 1 := ⟨f2 - 1, by omega⟩
      rw [e2] at e8 ⊢
      by_cases c22 : xtk1 (ynx T N A2) = -22
      · rw [if_pos c22]
        have t59 := (xtk_inv ok2).2.2.2.2.2.2.1 c22
        have ex : X = (true, (ynx T N A2).2.1, (ynx T N A2).1, [], oy2, 0) := by
          rw [e1]
          simp only [yer]
          rw [if_pos t59, e6]
          rfl
        rw [ex]
        exact ⟨fun _ => ⟨kt, rfl, rfl, e7, nl2.2.1⟩, fun q => by cases (show true = false from q)⟩
      · rw [if_neg c22]
        refine ⟨(fun q => by cases (show false = true from q)), fun _ => Or.inr ⟨kt, ?_⟩⟩
        dsimp only
        rw [e1, e2]
        have t59 : ¬ (ynx T N A2).2.2.1 = 59 := fun q => c22 (by unfold xtk1; rw [q]; rfl)
        simp only [yer]
        rw [if_neg t59]
        by_cases t41 : (ynx T N A2).2.2.1 = 41
        · rw [if_pos t41, e6]; exact ⟨rfl, rfl⟩
        · rw [if_neg t41]
          by_cases sg : ysg (ynx T N A2).2.2.1 = -1
          · rw [if_pos sg]; exact ⟨rfl, rfl⟩
          · rw [if_neg sg, if_pos (fol_ybt e8 sg)]; exact ⟨rfl, rfl⟩
    · rw [if_neg h2]
      have h2f : res.1 = false := by rwa [Bool.not_eq_true] at h2
      exact ⟨(fun q => by cases (show false = true from q)), fun _ => Or.inr ⟨kt, (hs.2 h2f).1, (hs.2 h2f).2.symm⟩⟩
  · rw [if_neg hk]
    exact ⟨(fun q => by cases (show false = true from q)), fun _ => Or.inl ⟨fun q => hk (ki.mpr q), rfl⟩⟩
end Zj_6t_x33
section Zj_6u_x34
/-! ===== the whole text, on both sides ===== -/
theorem ytp_ok {T : Nat → Int32} {N g p A bg : Nat} {o : List Int32} {S : List Nat} {Y : Bool × Nat × Nat × List Int32 × List Int32 × Int32} (hY : yer T N (N + 1) (ynx T N A).2.1 true true [] o 0 = Y) (c : (ynx T N A).2.2.1 = 3 ∧ (ynx T N A).2.2.2 = nI p) (y : Y.1 = true) : ytp T N (g + 1) p A bg o S = ytp T N g (p + 1) Y.2.1 Y.2.2.1 Y.2.2.2.2.1 (S ++ [o.length]) := by
  subst hY
  rw [ytp, if_pos c, if_pos y]
theorem ytp_no {T : Nat → Int32} {N g p A bg : Nat} {o : List Int32} {S : List Nat} (c : ¬ ((ynx T N A).2.2.1 = 3 ∧ (ynx T N A).2.2.2 = nI p)) : ytp T N (g + 1) p A bg o S = (false, (ynx T N A).2.1, (ynx T N A).1, o, S ++ [o.length]) := by
  rw [ytp, if_neg c]
theorem ytp_bad {T : Nat → Int32} {N g p A bg : Nat} {o : List Int32} {S : List Nat} {Y : Bool × Nat × Nat × List Int32 × List Int32 × Int32} (hY : yer T N (N + 1) (ynx T N A).2.1 true true [] o 0 = Y) (c : (ynx T N A).2.2.1 = 3 ∧ (ynx T N A).2.2.2 = nI p) (y : Y.1 = false) : ytp T N (g + 1) p A bg o S = (false, Y.2.1, Y.2.2.1, Y.2.2.2.2.1, S ++ [o.length]) := by
  subst hY
  rw [ytp, if_pos c, if_neg (by rw [y]; decide)]
theorem ytxV_ok {T : Nat → Int32} {N A bg : Nat} {o : List Int32} {S : List Nat} (h : ytp T N 3 0 0 0 [] [] = (true, A, bg, o, S)) : ytxV T N = (decide ((ynx T N A).2.2.1 = 0), (ynx T N A).1, o, S) := by
  unfold ytxV; rw [h]; rfl
theorem ytxV_no {T : Nat → Int32} {N A bg : Nat} {o : List Int32} {S : List Nat} (h : ytp T N 3 0 0 0 [] [] = (false, A, bg, o, S)) : ytxV T N = (false, bg, o, S) := by
  unfold ytxV; rw [h]; rfl
theorem text_go {T : Nat → Int32} {N : Nat} (hN : N ≤ 160) : xtv T N = ((ytxV T N).1, (ytxV T N).2.1) ∧ ((ytxV T N).1 = true → (xtC T N).2.2 = (ytxV T N).2.2.1.map cm ∧ (ytxV T N).2.2.2 = [0, (xtA T N).2.2.length, (xtB T N).2.2.length]) := by
  have E := xgd_E (xgd_lv T N 5).2
  have b0 := ynx_b T N 0 (Nat.zero_le _)
  have g1 := xgd_part (key := -23) (R := ynx T N 0) (o := []) (k := 0) E (by decide) ⟨0, Nat.zero_le _, rfl⟩ (by show 0 + 0 ≤ _; omega)
  have p0 := part_go (T := T) (N := N) (A := 0) (p := 0) (oy := []) hN (by decide) (Nat.zero_le _) (Nat.zero_le _)
  rw [show (-23 - nI 0 : Int32) = -23 from rfl, show ([] : List Int32).map cm = [] from rfl] at p0
  rw [foldA] at g1 p0
  obtain ⟨Y0, hY0⟩ : ∃ Y, yer T N (N + 1) (ynx T N 0).2.1 true true [] [] 0 = Y := ⟨_, rfl⟩
  rw [hY0] at p0
  unfold xtv
  by_cases a1 : (xtA T N).1 = true
  · obtain ⟨c0, y0, r0, o0, l0⟩ := p0.1 a1
    rw [if_pos a1]
    have t0 := ytp_ok (g := 2) (bg := 0) (S := []) hY0 c0 y0
    have g2 := xgd_part (key := -24) (R := (xtA T N).2.1) (o := (xtA T N).2.2) (k := 0) E (by decide) g1.1 g1.2.1
    have k1 := g1.2.1
    rw [r0, o0, List.length_map] at k1
    have p1 := part_go (T := T) (N := N) (A := Y0.2.1) (p := 1) (oy := Y0.2.2.2.2.1) hN (by decide) l0 (by omega)
    rw [show (-23 - nI 1 : Int32) = -24 from rfl, ← o0] at p1
    obtain ⟨Y1, hY1⟩ : ∃ Y, yer T N (N + 1) (ynx T N Y0.2.1).2.1 true true [] Y0.2.2.2.2.1 0 = Y := ⟨_, rfl⟩
    rw [hY1] at p1
    have fB : xpart T N (xE T N (xlv T N 5).2) (-24) (ynx T N Y0.2.1) (xtA T N).2.2 = xtB T N := by rw [← r0, foldB]
    rw [foldB] at g2
    rw [fB] at p1
    by_cases a2 : (xtB T N).1 = true
    · obtain ⟨c1, y1, r1, o1, l1⟩ := p1.1 a2
      rw [if_pos a2]
      have t1 := ytp_ok (g := 1) (bg := Y0.2.2.1) (S := [] ++ [([] : List Int32).length]) hY1 c1 y1
      have g3 := xgd_part (key := -25) (R := (xtB T N).2.1) (o := (xtB T N).2.2) (k := 0) E (by decide) g2.1 g2.2.1
      have k2 := g2.2.1
      rw [r1, o1, List.length_map] at k2
      have p2 := part_go (T := T) (N := N) (A := Y1.2.1) (p := 2) (oy := Y1.2.2.2.2.1) hN (by decide) l1 (by omega)
      rw [show (-23 - nI 2 : Int32) = -25 from rfl, ← o1] at p2
      obtain ⟨Y2, hY2⟩ : ∃ Y, yer T N (N + 1) (ynx T N Y1.2.1).2.1 true true [] Y1.2.2.2.2.1 0 = Y := ⟨_, rfl⟩
      rw [hY2] at p2
      have fC : xpart T N (xE T N (xlv T N 5).2) (-25) (ynx T N Y1.2.1) (xtB T N).2.2 = xtC T N := by rw [← r1, foldC]
      rw [fC] at p2
      by_cases a3 : (xtC T N).1 = true
      · obtain ⟨c2, y2, r2, o2, l2⟩ := p2.1 a3
        rw [if_pos a3]
        have t2 := ytp_ok (g := 0) (bg := Y1.2.2.1) (S := ([] ++ [([] : List Int32).length]) ++ [Y0.2.2.2.2.1.length]) hY2 c2 y2
        have tt := ytxV_ok ((t0.trans (t1.trans t2)).trans (by rw [ytp]))
        rw [tt]
        have ok := ynx_ok T N Y2.2.1
        have et : (xtk1 (ynx T N Y2.2.1) == -26) = decide ((ynx T N Y2.2.1).2.2.1 = 0) := by
          by_cases t0 : (ynx T N Y2.2.1).2.2.1 = 0
          · rw [decide_eq_true t0, beq_iff_eq]; unfold xtk1; rw [t0]; rfl
          · rw [decide_eq_false t0, beq_eq_false_iff_ne]; exact fun q => t0 ((xtk_inv ok).1 q)
        refine ⟨by rw [r2, et], fun _ => ⟨o2, ?_⟩⟩
        rw [o0, o1, List.length_map, List.length_map]
        rfl
      · have a3f : (xtC T N).1 = false := by rwa [Bool.not_eq_true] at a3
        rw [if_neg a3]
        rcases p2.2 a3f with ⟨c2, q2⟩ | ⟨c2, y2, q2⟩
        · rw [ytxV_no (t0.trans (t1.trans (ytp_no c2))), q2]
          exact ⟨rfl, fun q => by cases (show false = true from q)⟩
        · rw [ytxV_no (t0.trans (t1.trans (ytp_bad hY2 c2 y2))), q2]
          exact ⟨rfl, fun q => by cases (show false = true from q)⟩
    · have a2f : (xtB T N).1 = false := by rwa [Bool.not_eq_true] at a2
      rw [if_neg a2]
      rcases p1.2 a2f with ⟨c1, q1⟩ | ⟨c1, y1, q1⟩
      · rw [ytxV_no (t0.trans (ytp_no c1)), q1]
        exact ⟨rfl, fun q => by cases (show false = true from q)⟩
      · rw [ytxV_no (t0.trans (ytp_bad hY1 c1 y1)), q1]
        exact ⟨rfl, fun q => by cases (show false = true from q)⟩
  · have a1f : (xtA T N).1 = false := by rwa [Bool.not_eq_true] at a1
    rw [if_neg a1]
    rcases p0.2 a1f with ⟨c0, q0⟩ | ⟨c0, y0, q0⟩
    · rw [ytxV_no (ytp_no c0), q0]
      exact ⟨rfl, fun q => by cases (show false = true from q)⟩
    · rw [ytxV_no (ytp_bad hY0 c0 y0), q0]
      exact ⟨rfl, fun q => by cases (show false = true from q)⟩
/-! where the tape is equal so far as it is written, the words are -/
theorem yws_cg {T U : Nat → Int32} {N : Nat} (h : ∀ p, p < N → T p = U p) : ∀ f p, yws T N f p = yws U N f p := by
  intro f
  induction f with
  | zero => intro p; rfl
  | succ f ih =>
    intro p
    simp only [yws]
    by_cases q : p < N
    · rw [h p q, ih]
    · rw [if_neg (fun w => q w.1), if_neg (fun w => q w.1)]
theorem ylt_cg {T U : Nat → Int32} {N : Nat} (h : ∀ p, p < N → T p = U p) : ∀ f p, ylt T N f p = ylt U N f p := by
  intro f
  induction f with
  | zero => intro p; rfl
  | succ f ih =>
    intro p
    simp only [ylt]
    by_cases q : p < N
    · rw [h p q, ih]
    · rw [if_neg (fun w => q w.1), if_neg (fun w => q w.1)]
theorem yda_cg {T U : Nat → Int32} {N : Nat} (h : ∀ p, p < N → T p = U p) : ∀ f p k v, yda T N f p k v = yda U N f p k v := by
  intro f
  induction f with
  | zero => intro p k v; rfl
  | succ f ih =>
    intro p k v
    simp only [yda]
    by_cases q : p < N
    · rw [h p q, ih]
    · rw [if_neg (fun w => q w.1), if_neg (fun w => q w.1)]
theorem ywi_cg {T U : Nat → Int32} {fr to k : Nat} (h : ∀ p, p < to → T p = U p) : ∀ g i L, ywi T fr to k g i L = ywi U fr to k g i L := by
  intro g
  induction g with
  | zero => intro i L; rfl
  | succ g ih =>
    intro i L
    simp only [ywi]
    by_cases q : fr + i < to
    · rw [if_pos q, if_pos q, h _ q, ih]
    · rw [if_neg q, if_neg q, ih]
theorem ywo_cg {T U : Nat → Int32} {fr to : Nat} (h : ∀ p, p < to → T p = U p) : ∀ g k, ywo T fr to g k = ywo U fr to g k := by
  intro g
  induction g with
  | zero => intro k; rfl
  | succ g ih =>
    intro k
    simp only [ywo]
    rw [ywi_cg h, ih]
theorem ynx_cg {T U : Nat → Int32} {N A : Nat} (h : ∀ p, p < N → T p = U p) (hA : A ≤ N) : ynx T N A = ynx U N A := by
  have e := yws_cg h (N - A) A
  rw [ynx_c (T := T) (B := yws U N (N - A) A) e, ynx_c (T := U) (B := yws U N (N - A) A) rfl]
  have hB := (yws_le U N (N - A) A hA).2
  generalize yws U N (N - A) A = B at hB
  by_cases q : B = N
  · rw [if_pos q, if_pos q]
  · rw [if_neg q, if_neg q, h B (by omega), ylt_cg h, yda_cg h]
    have hE := (ylt_le U N (N - B) B hB).2
    rw [ywo_cg (fun p hp => h p (by omega))]
end Zj_6u_x34
section Zj_6v_x35
/-! ===== the reading wants no more than the tape so far as it is written ===== -/
theorem yer_ps (T : Nat → Int32) (N : Nat) : ∀ f A e my st o op, A ≤ N → (yer T N f A e my st o op).2.1 ≤ N := by
  intro f
  induction f with
  | zero => intro A e my st o op hA; exact hA
  | succ f ih =>
    intro A e my st o op hA
    have nl := (ynx_lt T N A hA).2.1
    cases e with
    | true =>
      simp only [yer]
      repeat' split
      all_goals first | exact ih _ _ _ _ _ _ nl | exact nl
    | false =>
      simp only [yer]
      repeat' split
      all_goals first | exact ih _ _ _ _ _ _ nl | exact nl
theorem yer_cg {T U : Nat → Int32} {N : Nat} (h : ∀ p, p < N → T p = U p) : ∀ f A e my st o op, A ≤ N → yer T N f A e my st o op = yer U N f A e my st o op := by
  intro f
  induction f with
  | zero => intro A e my st o op hA; rfl
  | succ f ih =>
    intro A e my st o op hA
    have nl := (ynx_lt U N A hA).2.1
    have ec := ynx_cg h hA
    have ih2 := fun e my st o op => ih (ynx U N A).2.1 e my st o op nl
    cases e with
    | true => simp only [yer, ec, ih2]
    | false => simp only [yer, ec, ih2]
theorem ytp_cg {T U : Nat → Int32} {N : Nat} (h : ∀ p, p < N → T p = U p) : ∀ g p A bg o S, A ≤ N → ytp T N g p A bg o S = ytp U N g p A bg o S ∧ (ytp U N g p A bg o S).2.1 ≤ N := by
  intro g
  induction g with
  | zero => intro p A bg o S hA; exact ⟨rfl, hA⟩
  | succ g ih =>
    intro p A bg o S hA
    have nl := (ynx_lt U N A hA).2.1
    have ec := ynx_cg h hA
    have ey := yer_cg h (N + 1) (ynx U N A).2.1 true true [] o 0 nl
    have yp := yer_ps U N (N + 1) (ynx U N A).2.1 true true [] o 0 nl
    have i2 := fun bg o S => ih (p + 1) _ bg o S yp
    refine ⟨?_, ?_⟩
    · simp only [ytp, ec, ey, fun bg o S => (i2 bg o S).1]
    · rw [ytp]
      split
      · split
        · exact (i2 _ _ _).2
        · exact yp
      · exact nl
theorem ytxV_cg {T U : Nat → Int32} {N : Nat} (h : ∀ p, p < N → T p = U p) : ytxV T N = ytxV U N := by
  have k := ytp_cg h 3 0 0 0 [] [] (Nat.zero_le _)
  unfold ytxV
  rw [k.1, ynx_cg h k.2]
/-- what the class says of a text is what the other side says -/
theorem xtxt_eq {T U : Nat → Int32} {N : Nat} (hN : N ≤ 160) (h : ∀ p, p < N → T p = U p) : xtv T N = ((ytxV U N).1, (ytxV U N).2.1) ∧ ((ytxV U N).1 = true → (xtC T N).2.2 = (ytxV U N).2.2.1.map cm ∧ (ytxV U N).2.2.2 = [0, (xtA T N).2.2.length, (xtB T N).2.2.length]) := by
  rw [← ytxV_cg h]
  exact text_go hN
end Zj_6v_x35
section Zj_6w_x36
/-! ===== the other side read off the class, step by step ===== -/
theorem Ms_0 {s : Nat → Int32} {x : Int32} : Ms (mc_up s 0 x) = mc_up (Ms s) 0 x := by
  funext k
  match k with
  | 0 => rfl
  | 1 => rfl
  | 2 => rfl
  | 3 => rfl
  | 4 => rfl
  | 5 => rfl
  | 6 => rfl
  | 7 => rfl
  | 8 => rfl
  | 9 => rfl
  | 10 => rfl
  | k + 11 => rfl
theorem Ms_1 {s : Nat → Int32} {x : Int32} : Ms (mc_up s 1 x) = mc_up (Ms s) 1 x := by
  funext k
  match k with
  | 0 => rfl
  | 1 => rfl
  | 2 => rfl
  | 3 => rfl
  | 4 => rfl
  | 5 => rfl
  | 6 => rfl
  | 7 => rfl
  | 8 => rfl
  | 9 => rfl
  | 10 => rfl
  | k + 11 => rfl
theorem Ms_2 {s : Nat → Int32} {x : Int32} : Ms (mc_up s 2 x) = mc_up (Ms s) 2 x := by
  funext k
  match k with
  | 0 => rfl
  | 1 => rfl
  | 2 => rfl
  | 3 => rfl
  | 4 => rfl
  | 5 => rfl
  | 6 => rfl
  | 7 => rfl
  | 8 => rfl
  | 9 => rfl
  | 10 => rfl
  | k + 11 => rfl
theorem Ms_5 {s : Nat → Int32} {x : Int32} : Ms (mc_up s 5 x) = mc_up (Ms s) 3 x := by
  funext k
  match k with
  | 0 => rfl
  | 1 => rfl
  | 2 => rfl
  | 3 => rfl
  | 4 => rfl
  | 5 => rfl
  | 6 => rfl
  | 7 => rfl
  | 8 => rfl
  | 9 => rfl
  | 10 => rfl
  | k + 11 => rfl
theorem Ms_3 {s : Nat → Int32} {x : Int32} : Ms (mc_up s 3 x) = mc_up (Ms s) 4 x := by
  funext k
  match k with
  | 0 => rfl
  | 1 => rfl
  | 2 => rfl
  | 3 => rfl
  | 4 => rfl
  | 5 => rfl
  | 6 => rfl
  | 7 => rfl
  | 8 => rfl
  | 9 => rfl
  | 10 => rfl
  | k + 11 => rfl
theorem Ms_4 {s : Nat → Int32} {x : Int32} : Ms (mc_up s 4 x) = mc_up (Ms s) 5 x := by
  funext k
  match k with
  | 0 => rfl
  | 1 => rfl
  | 2 => rfl
  | 3 => rfl
  | 4 => rfl
  | 5 => rfl
  | 6 => rfl
  | 7 => rfl
  | 8 => rfl
  | 9 => rfl
  | 10 => rfl
  | k + 11 => rfl
theorem Ms_6 {s : Nat → Int32} {x : Int32} : Ms (mc_up s 6 x) = mc_up (Ms s) 6 x := by
  funext k
  match k with
  | 0 => rfl
  | 1 => rfl
  | 2 => rfl
  | 3 => rfl
  | 4 => rfl
  | 5 => rfl
  | 6 => rfl
  | 7 => rfl
  | 8 => rfl
  | 9 => rfl
  | 10 => rfl
  | k + 11 => rfl
theorem Ms_9 {s : Nat → Int32} {x : Int32} : Ms (mc_up s 9 x) = mc_up (Ms s) 7 x := by
  funext k
  match k with
  | 0 => rfl
  | 1 => rfl
  | 2 => rfl
  | 3 => rfl
  | 4 => rfl
  | 5 => rfl
  | 6 => rfl
  | 7 => rfl
  | 8 => rfl
  | 9 => rfl
  | 10 => rfl
  | k + 11 => rfl
theorem Ms_7 {s : Nat → Int32} {x : Int32} : Ms (mc_up s 7 x) = mc_up (Ms s) 8 x := by
  funext k
  match k with
  | 0 => rfl
  | 1 => rfl
  | 2 => rfl
  | 3 => rfl
  | 4 => rfl
  | 5 => rfl
  | 6 => rfl
  | 7 => rfl
  | 8 => rfl
  | 9 => rfl
  | 10 => rfl
  | k + 11 => rfl
theorem Ms_8 {s : Nat → Int32} {x : Int32} : Ms (mc_up s 8 x) = mc_up (Ms s) 9 x := by
  funext k
  match k with
  | 0 => rfl
  | 1 => rfl
  | 2 => rfl
  | 3 => rfl
  | 4 => rfl
  | 5 => rfl
  | 6 => rfl
  | 7 => rfl
  | 8 => rfl
  | 9 => rfl
  | 10 => rfl
  | k + 11 => rfl
theorem Ms_10 {s : Nat → Int32} {x : Int32} : Ms (mc_up s 10 x) = mc_up (Ms s) 10 x := by
  funext k
  match k with
  | 0 => rfl
  | 1 => rfl
  | 2 => rfl
  | 3 => rfl
  | 4 => rfl
  | 5 => rfl
  | 6 => rfl
  | 7 => rfl
  | 8 => rfl
  | 9 => rfl
  | 10 => rfl
  | k + 11 => rfl
theorem Ms_hi {s s1 : Nat → Int32} (h : ∀ j, j ≤ 10 → s1 j = s j) : Ms s1 = Ms s := by
  funext k
  match k with
  | 0 => exact h 0 (by decide)
  | 1 => exact h 1 (by decide)
  | 2 => exact h 2 (by decide)
  | 3 => exact h 5 (by decide)
  | 4 => exact h 3 (by decide)
  | 5 => exact h 4 (by decide)
  | 6 => exact h 6 (by decide)
  | 7 => exact h 9 (by decide)
  | 8 => exact h 7 (by decide)
  | 9 => exact h 8 (by decide)
  | 10 => exact h 10 (by decide)
  | k + 11 => rfl
theorem Bs_0 {s : Nat → Int32} {a : Nat → List Int32} {t3 t4 t5 l : List Int32} : Bs s (mc_up a 0 l) t3 t4 t5 = mc_up (Bs s a t3 t4 t5) 0 l := by
  funext k
  match k with
  | 0 => rfl
  | 1 => rfl
  | 2 => rfl
  | 3 => rfl
  | 4 => rfl
  | 5 => rfl
  | 6 => rfl
  | 7 => rfl
  | 8 => rfl
  | 9 => rfl
  | k + 10 => rfl
theorem Bs_1 {s : Nat → Int32} {a : Nat → List Int32} {t3 t4 t5 l : List Int32} : Bs s (mc_up a 1 l) t3 t4 t5 = mc_up (Bs s a t3 t4 t5) 1 l := by
  funext k
  match k with
  | 0 => rfl
  | 1 => rfl
  | 2 => rfl
  | 3 => rfl
  | 4 => rfl
  | 5 => rfl
  | 6 => rfl
  | 7 => rfl
  | 8 => rfl
  | 9 => rfl
  | k + 10 => rfl
theorem Bs_3 {s : Nat → Int32} {a : Nat → List Int32} {t3 t4 t5 l : List Int32} : Bs s (mc_up a 3 l) t3 t4 t5 = mc_up (Bs s a t3 t4 t5) 2 l := by
  funext k
  match k with
  | 0 => rfl
  | 1 => rfl
  | 2 => rfl
  | 3 => rfl
  | 4 => rfl
  | 5 => rfl
  | 6 => rfl
  | 7 => rfl
  | 8 => rfl
  | 9 => rfl
  | k + 10 => rfl
theorem Bs_4 {s : Nat → Int32} {a : Nat → List Int32} {t3 t4 t5 l : List Int32} : Bs s (mc_up a 4 l) t3 t4 t5 = mc_up (Bs s a t3 t4 t5) 6 l := by
  funext k
  match k with
  | 0 => rfl
  | 1 => rfl
  | 2 => rfl
  | 3 => rfl
  | 4 => rfl
  | 5 => rfl
  | 6 => rfl
  | 7 => rfl
  | 8 => rfl
  | 9 => rfl
  | k + 10 => rfl
theorem Bs_2 {s : Nat → Int32} {a : Nat → List Int32} {t3 t4 t5 l : List Int32} : Bs s (mc_up a 2 l) t3 t4 t5 = Bs s a t3 t4 t5 := by
  funext k
  match k with
  | 0 => rfl
  | 1 => rfl
  | 2 => rfl
  | 3 => rfl
  | 4 => rfl
  | 5 => rfl
  | 6 => rfl
  | 7 => rfl
  | 8 => rfl
  | 9 => rfl
  | k + 10 => rfl
theorem Bs_t3 {s : Nat → Int32} {a : Nat → List Int32} {t3 t4 t5 l : List Int32} : mc_up (Bs s a t3 t4 t5) 3 l = Bs s a l t4 t5 := by
  funext k
  match k with
  | 0 => rfl
  | 1 => rfl
  | 2 => rfl
  | 3 => rfl
  | 4 => rfl
  | 5 => rfl
  | 6 => rfl
  | 7 => rfl
  | 8 => rfl
  | 9 => rfl
  | k + 10 => rfl
theorem Bs_t4 {s : Nat → Int32} {a : Nat → List Int32} {t3 t4 t5 l : List Int32} : mc_up (Bs s a t3 t4 t5) 4 l = Bs s a t3 l t5 := by
  funext k
  match k with
  | 0 => rfl
  | 1 => rfl
  | 2 => rfl
  | 3 => rfl
  | 4 => rfl
  | 5 => rfl
  | 6 => rfl
  | 7 => rfl
  | 8 => rfl
  | 9 => rfl
  | k + 10 => rfl
theorem Bs_t5 {s : Nat → Int32} {a : Nat → List Int32} {t3 t4 t5 l : List Int32} : mc_up (Bs s a t3 t4 t5) 5 l = Bs s a t3 t4 l := by
  funext k
  match k with
  | 0 => rfl
  | 1 => rfl
  | 2 => rfl
  | 3 => rfl
  | 4 => rfl
  | 5 => rfl
  | 6 => rfl
  | 7 => rfl
  | 8 => rfl
  | 9 => rfl
  | k + 10 => rfl
theorem Bs_s {s s1 : Nat → Int32} {a : Nat → List Int32} {t3 t4 t5 : List Int32} (h : ∀ j, 11 ≤ j → s1 j = s j) : Bs s1 a t3 t4 t5 = Bs s a t3 t4 t5 := by
  funext k
  match k with
  | 0 => rfl
  | 1 => rfl
  | 2 => rfl
  | 3 => rfl
  | 4 => rfl
  | 5 => rfl
  | 6 => rfl
  | 7 => show [s1 11, s1 13, s1 15, s1 17] = [s 11, s 13, s 15, s 17]; rw [h 11 (by decide), h 13 (by decide), h 15 (by decide), h 17 (by decide)]
  | 8 => show [s1 12, s1 14, s1 16, s1 18] = [s 12, s 14, s 16, s 18]; rw [h 12 (by decide), h 14 (by decide), h 16 (by decide), h 18 (by decide)]
  | 9 => rfl
  | k + 10 => rfl
theorem eq_set {s : Nat → Int32} {w v : Int32} : Ms (yy_setm s w v) = yy_setm (Ms s) w v ∧ yy_set1 s w v = yy_set1 (Ms s) w v := by
  refine ⟨?_, rfl⟩
  unfold yy_setm
  by_cases h : mc_wi w 0 1 = false
  · rw [if_pos h, if_pos h]
  · rw [if_neg h, if_neg h]
    by_cases h0 : w = 0
    · rw [if_pos h0, if_pos h0]
      by_cases h1 : mc_wi v 2 12 = true
      · rw [if_pos h1, if_pos h1]; exact Ms_0
      · rw [if_neg h1, if_neg h1]
    · rw [if_neg h0, if_neg h0]
      by_cases h1 : yy_yr v = true
      · rw [if_pos h1, if_pos h1]; exact Ms_1
      · rw [if_neg h1, if_neg h1]
theorem eq_setB {s : Nat → Int32} {a : Nat → List Int32} {t3 t4 t5 : List Int32} {w v : Int32} : Bs (yy_setm s w v) a t3 t4 t5 = Bs s a t3 t4 t5 := by
  refine Bs_s (fun j hj => ?_)
  unfold yy_setm
  repeat' split
  all_goals first | rfl | exact upn (by omega)
theorem eq_force {s : Nat → Int32} {t : Int32} : Ms (xx_fos s t) = yy_fo2 (Ms s) t := by
  unfold xx_fos yy_fo2
  by_cases h : mc_wi t 0 (s 3 - 1) = true
  · rw [if_pos h]
    refine Ms_4.trans ?_
    exact (if_pos (c := mc_wi t 0 (Ms s 4 - 1) = true) h).symm
  · rw [if_neg h]
    exact (if_neg (c := mc_wi t 0 (Ms s 4 - 1) = true) h).symm
theorem eq_forceB {s : Nat → Int32} {a : Nat → List Int32} {t3 t4 t5 : List Int32} {t : Int32} : Bs (xx_fos s t) a t3 t4 t5 = Bs s a t3 t4 t5 := by
  refine Bs_s (fun j hj => ?_)
  unfold xx_fos
  split
  · exact upn (by omega)
  · rfl
theorem eq_clerk {s : Nat → Int32} {a : Nat → List Int32} {t3 t4 t5 : List Int32} {k mo : Int32} : Ms (yy_ckm s k mo) = yy_ckm (Ms s) k mo ∧ Bs (yy_ckm s k mo) (yy_ckb s a k mo) t3 t4 t5 = yy_ckb (Ms s) (Bs s a t3 t4 t5) k mo ∧ yy_ck1 s k mo = yy_ck1 (Ms s) k mo := by
  refine ⟨?_, ?_, rfl⟩
  · unfold yy_ckm
    by_cases h : yy_ck s k mo = true ∧ ¬ s 2 = 5
    · rw [if_pos h]
      refine Ms_2.trans ?_
      exact (if_pos (c := yy_ck (Ms s) k mo = true ∧ ¬ Ms s 2 = 5) h).symm
    · rw [if_neg h]
      exact (if_neg (c := yy_ck (Ms s) k mo = true ∧ ¬ Ms s 2 = 5) h).symm
  · refine (Bs_s (fun j hj => ckm_o (by omega))).trans ?_
    unfold yy_ckb
    by_cases h : yy_ck s k mo = true ∧ ¬ s 2 = 5
    · rw [if_pos h, Bs_1, Bs_0]
      exact (if_pos (c := yy_ck (Ms s) k mo = true ∧ ¬ Ms s 2 = 5) h).symm
    · rw [if_neg h]
      exact (if_neg (c := yy_ck (Ms s) k mo = true ∧ ¬ Ms s 2 = 5) h).symm
theorem eq_image {s : Nat → Int32} {a : Nat → List Int32} {t3 t4 t5 : List Int32} : Ms (ximm s) = yimm (Ms s) ∧ Bs (ximm s) (mc_up a 4 (a 3)) t3 t4 t5 = mc_up (Bs s a t3 t4 t5) 6 (Bs s a t3 t4 t5 2) := by
  refine ⟨?_, ?_⟩
  · funext k
    match k with
    | 0 => rfl
    | 1 => rfl
    | 2 => rfl
    | 3 => rfl
    | 4 => rfl
    | 5 => rfl
    | 6 => rfl
    | 7 => rfl
    | 8 => rfl
    | 9 => rfl
    | 10 => rfl
    | k + 11 => rfl
  · rw [Bs_4]
    refine congrArg (fun f => mc_up f 6 (a 3)) (Bs_s (fun j hj => ?_))
    unfold ximm
    rw [upn (by omega), upn (by omega), upn (by omega), upn (by omega), upn (by omega)]
theorem eq_back {s : Nat → Int32} {a : Nat → List Int32} {t3 t4 t5 : List Int32} : Ms (xbkm s) = ybkm (Ms s) ∧ Bs (xbkm s) (xbka s a) t3 t4 t5 = ybkb (Ms s) (Bs s a t3 t4 t5) ∧ (if s 6 = 0 then (-3 : Int32) else s 9) = (if Ms s 6 = 0 then -3 else Ms s 7) := by
  refine ⟨?_, ?_, rfl⟩
  · unfold xbkm ybkm
    by_cases h : s 6 = 0
    · rw [if_pos h]; exact (if_pos (c := Ms s 6 = 0) h).symm
    · rw [if_neg h]
      refine Eq.trans ?_ (if_neg (c := Ms s 6 = 0) h).symm
      funext k
      match k with
      | 0 => rfl
      | 1 => rfl
      | 2 => rfl
      | 3 => rfl
      | 4 => rfl
      | 5 => rfl
      | 6 => rfl
      | 7 => rfl
      | 8 => rfl
      | 9 => rfl
      | 10 => rfl
      | k + 11 => rfl
  · refine (Bs_s (s := s) (fun j hj => ?_)).trans ?_
    · unfold xbkm
      split
      · rfl
      · rw [upn (by omega), upn (by omega), upn (by omega), upn (by omega)]
    · unfold xbka ybkb
      by_cases h : s 6 = 0
      · rw [if_pos h]; exact (if_pos (c := Ms s 6 = 0) h).symm
      · rw [if_neg h, Bs_3]
        exact (if_neg (c := Ms s 6 = 0) h).symm
theorem Bs_so {s : Nat → Int32} {a : Nat → List Int32} {t3 t4 t5 : List Int32} {k : Nat} (hk : k < 4) : gt (Bs s a t3 t4 t5 7) (nI k) = s (11 + 2 * k) ∧ gt (Bs s a t3 t4 t5 8) (nI k) = s (12 + 2 * k) := by
  rcases (show k = 0 ∨ k = 1 ∨ k = 2 ∨ k = 3 by omega) with rfl | rfl | rfl | rfl <;> exact ⟨rfl, rfl⟩
theorem Bs_num {s : Nat → Int32} {a : Nat → List Int32} {t3 t4 t5 : List Int32} {k : Nat} (hk : k < 4) (hL : xL a) : ((Bs s a t3 t4 t5 9).drop (40 * k)).take 40 = a (5 + k) := by
  have l0 := hL.2.2.2.2.2 0 (by decide)
  have l1 := hL.2.2.2.2.2 1 (by decide)
  have l2 := hL.2.2.2.2.2 2 (by decide)
  have l3 := hL.2.2.2.2.2 3 (by decide)
  show ((a 5 ++ (a 6 ++ (a 7 ++ a 8))).drop (40 * k)).take 40 = _
  have dr : ∀ (x r : List Int32) (n : Nat), x.length = 40 → (x ++ r).drop (40 + n) = r.drop n := fun x r n h => by
    rw [← h, List.drop_append]
    simp
  have tk : ∀ (x r : List Int32), x.length = 40 → (x ++ r).take 40 = x := fun x r h => by
    rw [← h]; simp
  rcases (show k = 0 ∨ k = 1 ∨ k = 2 ∨ k = 3 by omega) with rfl | rfl | rfl | rfl
  · exact tk _ _ l0
  · rw [show 40 * 1 = 40 + 0 from rfl, dr _ _ _ l0]; exact tk _ _ l1
  · rw [show 40 * 2 = 40 + (40 + 0) from rfl, dr _ _ _ l0, dr _ _ _ l1]; exact tk _ _ l2
  · rw [show 40 * 3 = 40 + (40 + (40 + 0)) from rfl, dr _ _ _ l0, dr _ _ _ l1, dr _ _ _ l2]
    show (a 8).take 40 = a 8
    rw [List.take_of_length_le (by rw [l3]; exact Nat.le_refl _)]
theorem Bs_row {s : Nat → Int32} {a : Nat → List Int32} {t3 t4 t5 : List Int32} {k : Nat} (hk : k < 4) (hL : xL a) (hS : xS s) : yrow (Bs s a t3 t4 t5) (nI k) = xrow s a k := by
  have h := hS k hk
  have t := tnc h.1
  unfold yrow xrow
  rw [(Bs_so hk).2, nIc (by omega), ← Bs_num (s := s) (t3 := t3) (t4 := t4) (t5 := t5) hk hL, List.take_take]
  congr 1
  omega
theorem eq_bw {s : Nat → Int32} {a : Nat → List Int32} {t3 t4 t5 : List Int32} {k : Nat} (hk : k < 4) (hL : xL a) (hS : xS s) : ybw (Bs s a t3 t4 t5) (nI k) = xbw s a k := by
  unfold ybw xbw
  rw [if_neg (by rw [wi_nk hk]; decide), (Bs_so hk).1, Bs_row hk hL hS]
  by_cases h : s (11 + 2 * k) = -1
  · rw [if_pos h, if_pos (show xmis s k = true by unfold xmis; rw [beq_iff_eq]; exact h)]
  · rw [if_neg h, if_neg (show ¬ xmis s k = true by unfold xmis; rw [beq_iff_eq]; exact h)]
end Zj_6w_x36
section Zj_6x_x37
/-! ===== answers that are the same ===== -/
theorem eq_mk {s : Nat → Int32} {a : Nat → List Int32} {t3 t4 t5 : List Int32} {k v : Int32} : ymk (Ms s) (Bs s a t3 t4 t5) k v = xmk s a (yseg (Bs s a t3 t4 t5) (tl s)) k v := rfl
theorem eq_wr {s : Nat → Int32} {a : Nat → List Int32} {t3 t4 t5 : List Int32} {k v : Int32} : ywr (Ms s) (Bs s a t3 t4 t5) k v = xwr s a (yseg (Bs s a t3 t4 t5) (tl s)) k v := rfl
theorem eq_pl {s : Nat → Int32} {a : Nat → List Int32} {t3 t4 t5 : List Int32} {k v : Int32} : ypl (Ms s) (Bs s a t3 t4 t5) k v = xplv (gt (a 0) k) (gt (a 1) k) k (s 0) (s 1) (yseg (Bs s a t3 t4 t5) (tl s)) v := rfl
theorem eq_self {s : Nat → Int32} {a : Nat → List Int32} {t3 t4 t5 : List Int32} {k : Int32} {xs : List Int32} : yself (Ms s) (Bs s a t3 t4 t5) k xs = xself (gt (a 0) k) (gt (a 1) k) (s 0) xs := rfl
theorem eq_sure {s : Nat → Int32} {a : Nat → List Int32} {t3 t4 t5 : List Int32} {k v : Int32} : ysure (Ms s) (Bs s a t3 t4 t5) k v = xsure s a (yseg (Bs s a t3 t4 t5) (tl s)) k v := rfl
theorem eq_hb {s : Nat → Int32} {a : Nat → List Int32} {t3 t4 t5 : List Int32} {k : Nat} (hk : k < 4) (hL : xL a) (hS : xS s) {j : Int32} : yhb (Ms s) (Bs s a t3 t4 t5) (nI k) j = xmS s a (yseg (Bs s a t3 t4 t5) (tl s)) k j := by
  unfold yhb xmS; rw [Bs_row hk hL hS]; rfl
theorem eq_ob {s : Nat → Int32} {a : Nat → List Int32} {t3 t4 t5 : List Int32} {k : Nat} (hk : k < 4) (hL : xL a) (hS : xS s) : yob (Bs s a t3 t4 t5) (nI k) = xoS s a k := by
  unfold yob xoS; rw [Bs_row hk hL hS]
theorem eq_sw {s : Nat → Int32} {a : Nat → List Int32} {t3 t4 t5 : List Int32} {k : Nat} (hk : k < 4) (hL : xL a) (hS : xS s) : ysw (Bs s a t3 t4 t5) (nI k) = xsw s a k := by
  unfold ysw xsw
  rw [if_neg (by rw [wi_nk hk]; decide), (Bs_so hk).1, Bs_row hk hL hS]
  by_cases h : s (11 + 2 * k) = -1
  · rw [if_pos h, if_pos (show xmis s k = true by unfold xmis; rw [beq_iff_eq]; exact h)]
  · rw [if_neg h, if_neg (show ¬ xmis s k = true by unfold xmis; rw [beq_iff_eq]; exact h)]
    by_cases e : yevn (xrow s a k) 21 0 = true
    · rw [if_pos e]
      by_cases l : (xrow s a k).length % 2 = 0
      · rw [if_pos l, if_neg (fun q => q l), if_pos e]
      · rw [if_neg l, if_pos l]
    · rw [if_neg e]
      by_cases l : (xrow s a k).length % 2 = 0
      · rw [if_neg (fun q => q l), if_neg e]
      · rw [if_pos l]
theorem eq_tw {s : Nat → Int32} {a : Nat → List Int32} {t3 t4 t5 : List Int32} {k : Nat} (hk : k < 4) (hL : xL a) (hS : xS s) {j : Int32} : ytw (Ms s) (Bs s a t3 t4 t5) (nI k) j = xtw s a k j := by
  unfold ytw xtw; rw [eq_sw hk hL hS]; rfl
theorem eq_bwy {s : Nat → Int32} {a : Nat → List Int32} {t3 t4 t5 : List Int32} {k : Nat} (hk : k < 4) (hL : xL a) (hS : xS s) {j : Int32} : (if ¬ ybw (Bs s a t3 t4 t5) (nI k) = 0 then ybw (Bs s a t3 t4 t5) (nI k) else if mc_wi j 0 (Ms s 2 - 1) = true then 0 else -5) = xbwy s a k j := by
  rw [eq_bw hk hL hS]; rfl
theorem eq_unf {m : Nat → Int32} {b : Nat → List Int32} {j : Int32} {row : List Int32} : ∀ f i, yunf m b j row f i = xunf (ypl m b j) row f i := by
  intro f
  induction f with
  | zero => intro i; rfl
  | succ f ih => intro i; simp only [yunf, xunf]; rw [ih]
theorem eq_unl {s : Nat → Int32} {a : Nat → List Int32} {t3 t4 t5 : List Int32} {k : Nat} (hk : k < 4) (hL : xL a) (hS : xS s) {j : Int32} : yunl (Ms s) (Bs s a t3 t4 t5) (nI k) j = xunl (gt (a 0) j) (gt (a 1) j) j (s 0) (s 1) (yseg (Bs s a t3 t4 t5) (tl s)) (xrow s a k) := by
  unfold yunl xunl
  rw [Bs_row hk hL hS, eq_unf]
  rfl
theorem eq_judge {s : Nat → Int32} {a : Nat → List Int32} {t3 t4 t5 : List Int32} {k : Nat} (hk : k < 4) (hL : xL a) (hS : xS s) {j : Int32} : yjudge (Ms s) (Bs s a t3 t4 t5) (nI k) j = xjudge s a (yseg (Bs s a t3 t4 t5) (tl s)) k j := by
  unfold yjudge xjudge
  rw [eq_tw hk hL hS, eq_unl hk hL hS]
  by_cases h : xtw s a k j = 0
  · rw [if_pos h, if_neg (fun q => q h)]
  · rw [if_neg h, if_pos h]
theorem ybits_cg {f g : Nat → Int32} : ∀ n i acc, (∀ j, i ≤ j → j < i + n → f j = g j) → ybits f n i acc = ybits g n i acc := by
  intro n
  induction n with
  | zero => intro i acc h; rfl
  | succ n ih =>
    intro i acc h
    rw [ybits_s, ybits_s, h i (Nat.le_refl _) (by omega)]
    exact ih _ _ (fun j h1 h2 => h j (by omega) (by omega))
theorem eq_whose {s : Nat → Int32} {a : Nat → List Int32} {t3 t4 t5 : List Int32} {k : Nat} (hk : k < 4) (hL : xL a) (hS : xS s) : ywhose (Ms s) (Bs s a t3 t4 t5) (nI k) = xwhose s a (yseg (Bs s a t3 t4 t5) (tl s)) k := by
  unfold ywhose xwhose
  rw [eq_sw hk hL hS]
  by_cases h : xsw s a k = 0
  · rw [if_neg (fun q => q h), if_neg (fun q => q h)]
    exact ybits_cg _ _ _ (fun j _ _ => eq_unl hk hL hS)
  · rw [if_pos h, if_pos h]
theorem eq_laws {s : Nat → Int32} {a : Nat → List Int32} {t3 t4 t5 : List Int32} {k : Nat} (hk : k < 4) (hL : xL a) (hS : xS s) {T : Nat} {sg : Nat → Nat → List Int32} (hsg : ∀ t, t < T → sg t = yseg (Bs s a t3 t4 t5) t) (h3 : s 3 = nI T) (hT : T ≤ 6) {j : Int32} : ylaws (Ms s) (Bs s a t3 t4 t5) (nI k) j = xlaws s a sg T k j := by
  unfold ylaws xlaws
  rw [eq_tw hk hL hS]
  by_cases h : xtw s a k j = 0
  · rw [if_neg (fun q => q h), if_neg (fun q => q h), show Ms s 4 = nI T from h3, nIc (by omega)]
    refine ybits_cg _ _ _ (fun i _ hi => ?_)
    unfold xlw
    rw [hsg i (by omega)]
    have e := eq_unl (s := mc_up s 4 (nI i)) (a := a) (t3 := t3) (t4 := t4) (t5 := t5) hk hL (fun p hp => by rw [upn (by omega)]; exact hS p hp) (j := j)
    rw [Ms_4, Bs_s (s := s) (fun p hp => upn (by omega)), show tl (mc_up s 4 (nI i)) = i from nIc (by omega)] at e
    rw [e]
    have er : xrow (mc_up s 4 (nI i)) a k = xrow s a k := by unfold xrow; rw [upn (by omega)]
    rw [er]
    rfl
  · rw [if_pos h, if_pos h]
end Zj_6x_x37
section Zj_6y_x38
/-! ===== sheets, on both sides ===== -/
def xcells (a : Nat → List Int32) : List Int32 := a 5 ++ (a 6 ++ (a 7 ++ a 8))
theorem cells_set {a : Nat → List Int32} {k i : Nat} {x : Int32} (hk : k < 4) (hL : xL a) (hi : i < 40) : (xcells a).set (40 * k + i) x = xcells (mc_up a (5 + k) ((a (5 + k)).set i x)) := by
  have l0 := hL.2.2.2.2.2 0 (by decide)
  have l1 := hL.2.2.2.2.2 1 (by decide)
  have l2 := hL.2.2.2.2.2 2 (by decide)
  have l3 := hL.2.2.2.2.2 3 (by decide)
  have sl : ∀ (x r : List Int32) (y : Int32) (n : Nat), x.length = 40 → n < 40 → (x ++ r).set n y = x.set n y ++ r := fun x r y n h hn => List.set_append_left n y (by omega)
  have sr : ∀ (x r : List Int32) (y : Int32) (n : Nat), x.length = 40 → (x ++ r).set (40 + n) y = x ++ r.set n y := fun x r y n h => by
    rw [List.set_append_right _ _ (by omega), h]; congr 2; omega
  unfold xcells
  rcases (show k = 0 ∨ k = 1 ∨ k = 2 ∨ k = 3 by omega) with rfl | rfl | rfl | rfl
  · rw [show 40 * 0 + i = i by omega, sl _ _ _ _ l0 hi]; rfl
  · rw [show 40 * 1 + i = 40 + i by omega, sr _ _ _ _ l0, sl _ _ _ _ l1 hi]; rfl
  · rw [show 40 * 2 + i = 40 + (40 + i) by omega, sr _ _ _ _ l0, sr _ _ _ _ l1, sl _ _ _ _ l2 hi]; rfl
  · rw [show 40 * 3 + i = 40 + (40 + (40 + i)) by omega, sr _ _ _ _ l0, sr _ _ _ _ l1, sr _ _ _ _ l2]; rfl
theorem cells_get {a : Nat → List Int32} {k i : Nat} (hk : k < 4) (hL : xL a) (hi : i < 40) : (xcells a).getD (40 * k + i) 0 = (a (5 + k)).getD i 0 := by
  have l0 := hL.2.2.2.2.2 0 (by decide)
  have l1 := hL.2.2.2.2.2 1 (by decide)
  have l2 := hL.2.2.2.2.2 2 (by decide)
  have l3 := hL.2.2.2.2.2 3 (by decide)
  have gl : ∀ (x r : List Int32) (n : Nat), x.length = 40 → n < 40 → (x ++ r).getD n 0 = x.getD n 0 := fun x r n h hn => by
    rw [List.getD_eq_getElem?_getD, List.getD_eq_getElem?_getD, List.getElem?_append_left (by omega)]
  have gr : ∀ (x r : List Int32) (n : Nat), x.length = 40 → (x ++ r).getD (40 + n) 0 = r.getD n 0 := fun x r n h => by
    rw [List.getD_eq_getElem?_getD, List.getD_eq_getElem?_getD, List.getElem?_append_right (by omega), h, show 40 + n - 40 = n by omega]
  unfold xcells
  rcases (show k = 0 ∨ k = 1 ∨ k = 2 ∨ k = 3 by omega) with rfl | rfl | rfl | rfl
  · rw [show 40 * 0 + i = i by omega]; exact gl _ _ _ l0 hi
  · rw [show 40 * 1 + i = 40 + i by omega, gr _ _ _ l0]; exact gl _ _ _ l1 hi
  · rw [show 40 * 2 + i = 40 + (40 + i) by omega, gr _ _ _ l0, gr _ _ _ l1]; exact gl _ _ _ l2 hi
  · rw [show 40 * 3 + i = 40 + (40 + (40 + i)) by omega, gr _ _ _ l0, gr _ _ _ l1, gr _ _ _ l2]
theorem Bs_9 {s : Nat → Int32} {a : Nat → List Int32} {t3 t4 t5 : List Int32} {k : Nat} {l : List Int32} (hk : k < 4) : Bs s (mc_up a (5 + k) l) t3 t4 t5 = mc_up (Bs s a t3 t4 t5) 9 (xcells (mc_up a (5 + k) l)) := by
  funext j
  rcases (show k = 0 ∨ k = 1 ∨ k = 2 ∨ k = 3 by omega) with rfl | rfl | rfl | rfl <;>
  · match j with
    | 0 => rfl
    | 1 => rfl
    | 2 => rfl
    | 3 => rfl
    | 4 => rfl
    | 5 => rfl
    | 6 => rfl
    | 7 => rfl
    | 8 => rfl
    | 9 => rfl
    | j + 10 => rfl
theorem Bs_78 {s : Nat → Int32} {a : Nat → List Int32} {t3 t4 t5 : List Int32} {k : Nat} {so N : Int32} (hk : k < 4) : Bs (mc_up (mc_up s (11 + 2 * k) so) (12 + 2 * k) N) a t3 t4 t5 = mc_up (mc_up (Bs s a t3 t4 t5) 7 ((Bs s a t3 t4 t5 7).set k so)) 8 ((Bs s a t3 t4 t5 8).set k N) := by
  funext j
  rcases (show k = 0 ∨ k = 1 ∨ k = 2 ∨ k = 3 by omega) with rfl | rfl | rfl | rfl <;>
  · match j with
    | 0 => rfl
    | 1 => rfl
    | 2 => rfl
    | 3 => rfl
    | 4 => rfl
    | 5 => rfl
    | 6 => rfl
    | 7 => rfl
    | 8 => rfl
    | 9 => rfl
    | j + 10 => rfl
theorem Bs_c9 {s : Nat → Int32} {a : Nat → List Int32} {t3 t4 t5 : List Int32} : Bs s a t3 t4 t5 9 = xcells a := rfl
theorem yzr_fil {k : Nat} (hk : k < 4) : ∀ g i (a : Nat → List Int32), xL a → i + g = 40 → yzr k g i (xcells a) = xcells (mc_up a (5 + k) (xfil (a (5 + k)) 0 g i)) := by
  intro g
  induction g with
  | zero => intro i a hL hi; show xcells a = xcells (mc_up a (5 + k) (a (5 + k))); rw [mc_up_self]
  | succ g ih =>
    intro i a hL hi
    show yzr k g (i + 1) ((xcells a).set (40 * k + i) 0) = _
    rw [cells_set hk hL (by omega), ih (i + 1) _ (hL.up (by rw [List.length_set]; exact hL.2.2.2.2.2 k hk)) (by omega), up_up, up_at]
    rfl
theorem eq_sheet {s : Nat → Int32} {a : Nat → List Int32} {t3 t4 t5 : List Int32} {v so N : Int32} (hL : xL a) : Bs (xshs s v so N) (xsha a v so N) t3 t4 t5 = yshb (Bs s a t3 t4 t5) v so N ∧ Ms (xshs s v so N) = Ms s := by
  unfold xshs xsha yshb
  by_cases h : ysh1 v so N = 1
  · rw [if_pos h, if_pos h, if_pos h]
    have hh := h
    unfold ysh1 at hh
    have hv : mc_wi v 0 3 = true ∧ (so = -1 ∨ (0 ≤ N.toInt ∧ N.toInt ≤ 40)) := by
      by_cases h1 : (mc_wi v 0 3 && mc_wi so (-1) 2) = false ∨ (¬ so = -1 ∧ 40 < N)
      · rw [if_pos h1] at hh; exact absurd hh (by decide)
      · rw [if_neg h1] at hh
        have w : (mc_wi v 0 3 && mc_wi so (-1) 2) = true := by
          rw [← Bool.not_eq_false]; exact fun q => h1 (Or.inl q)
        rw [Bool.and_eq_true] at w
        refine ⟨w.1, ?_⟩
        by_cases e : so = -1
        · exact Or.inl e
        · refine Or.inr ?_
          by_cases h2 : ¬ so = -1 ∧ N < 0
          · rw [if_pos h2] at hh; exact absurd hh (by decide)
          · have a1 : ¬ N < 0 := fun q => h2 ⟨e, q⟩
            have a2 : ¬ 40 < N := fun q => h1 (Or.inr ⟨e, q⟩)
            rw [Int32.lt_iff_toInt_lt, i0] at a1
            rw [Int32.lt_iff_toInt_lt, show (40 : Int32).toInt = 40 from rfl] at a2
            omega
    obtain ⟨k, hk, rfl⟩ := wi_k hv.1
    rw [nIc (by omega)]
    have ec : xcl (if so = -1 then 0 else N) = if so = -1 then 0 else N := by
      by_cases e : so = -1
      · rw [if_pos e]; rfl
      · rw [if_neg e]; have := hv.2.resolve_left e; exact xcl_in this.1 this.2
    refine ⟨?_, ?_⟩
    · unfold xbs xba yshx
      rw [ec, nIc (by omega), Bs_9 hk, Bs_78 hk]
      have f := yzr_fil hk 40 0 a hL (by omega)
      have f2 := xfil_all (x := 0) (l := a (5 + k))
      rw [hL.2.2.2.2.2 k hk] at f2
      rw [Bs_c9, f, f2]
    · exact Ms_hi (fun j hj => by unfold xbs; rw [upn (by omega), upn (by omega)])
  · rw [if_neg h, if_neg h, if_neg h]; exact ⟨rfl, rfl⟩
theorem eq_lend {s : Nat → Int32} {a : Nat → List Int32} {t3 t4 t5 : List Int32} {f g mu : Int32} : Bs s (if yy_fo f g = true ∧ mc_wi mu 0 9999 = true then mc_up a 3 ((a 3).set (6 * f + g).toNatClampNeg mu) else a) t3 t4 t5 = yy_lenb (Bs s a t3 t4 t5) f g mu := by
  unfold yy_lenb
  by_cases h : yy_fo f g = true ∧ mc_wi mu 0 9999 = true
  · rw [if_pos h, if_pos h]; exact Bs_3
  · rw [if_neg h, if_neg h]
theorem yflm_fl {m : Nat → Int32} {b : Nat → List Int32} {j : Int32} {k F S : Nat} (hk : k < 4) : ∀ g i (a : Nat → List Int32), xL a → i + g ≤ 20 → yflm m b j k F S g i (xcells a) = xcells (mc_up a (5 + k) (xfl (ypl m b j) F S g i (a (5 + k)))) := by
  intro g
  induction g with
  | zero => intro i a hL hi; show xcells a = xcells (mc_up a (5 + k) (a (5 + k))); rw [mc_up_self]
  | succ g ih =>
    intro i a hL hi
    have l5 := hL.2.2.2.2.2 k hk
    simp only [yflm, xfl]
    have hL1 : xL (mc_up a (5 + k) ((a (5 + k)).set (2 * i) (nI (F + i * S)))) := hL.up (by rw [List.length_set]; exact l5)
    rw [cells_set hk hL (by omega), show 40 * k + 2 * i + 1 = 40 * k + (2 * i + 1) by omega, cells_set hk hL1 (by omega), up_up, up_at, ih (i + 1) _ (hL.up (by rw [List.length_set, List.length_set]; exact l5)) (by omega), up_up, up_at]
end Zj_6y_x38
section Zj_6z_x39
/-! ===== cells and clerks by a sheet ===== -/
theorem xhas_iff {i N : Int32} (hN : 0 ≤ N.toInt ∧ N.toInt ≤ 40) : xhas i N = true ↔ 0 ≤ i.toInt ∧ i.toInt < N.toInt := by
  unfold xhas
  simp only [Bool.and_eq_true, decide_eq_true_eq, Int32.le_iff_toInt_le, Int32.lt_iff_toInt_lt, i0, show (40 : Int32).toInt = 40 from rfl]
  omega
theorem has_wi {i N : Int32} (hN : 0 ≤ N.toInt ∧ N.toInt ≤ 40) : mc_wi i 0 (N - 1) = xhas i N := by
  have e : (N - 1).toInt = N.toInt - 1 := i32_sub (by omega) (by decide)
  rw [Bool.eq_iff_iff, mc_wi_iff, xhas_iff hN, e, i0]
  omega
theorem eq_cell {s : Nat → Int32} {a : Nat → List Int32} {t3 t4 t5 : List Int32} {k : Nat} {i v : Int32} (hk : k < 4) (hL : xL a) (hS : xS s) : ycl1 (Bs s a t3 t4 t5) (nI k) i = xcl1 s k i ∧ yclb (Bs s a t3 t4 t5) (nI k) i v = Bs s (xcla s a k i v) t3 t4 t5 := by
  have e1 : ycl1 (Bs s a t3 t4 t5) (nI k) i = xcl1 s k i := by
    unfold ycl1 xcl1
    rw [if_neg (by rw [wi_nk hk]; decide), (Bs_so hk).1, (Bs_so hk).2, has_wi (hS k hk)]
    by_cases h : s (11 + 2 * k) = -1
    · rw [if_pos h, if_pos (show xmis s k = true by unfold xmis; rw [beq_iff_eq]; exact h)]
    · rw [if_neg h, if_neg (show ¬ xmis s k = true by unfold xmis; rw [beq_iff_eq]; exact h)]
  refine ⟨e1, ?_⟩
  unfold yclb xcla
  rw [e1]
  by_cases h : xcl1 s k i = 1
  · rw [if_pos h, if_pos h]
    have hh : xhas i (s (12 + 2 * k)) = true := by
      unfold xcl1 at h
      by_cases m : xmis s k = true
      · rw [if_pos m] at h; exact absurd h (by decide)
      · rw [if_neg m] at h
        by_cases q : xhas i (s (12 + 2 * k)) = false
        · rw [if_pos q] at h; exact absurd h (by decide)
        · rwa [Bool.not_eq_false] at q
    have hr := (xhas_iff (hS k hk)).mp hh
    have h40 := (hS k hk).2
    unfold xsto
    rw [if_pos hh, Bs_9 hk]
    have ti := tnc hr.1
    obtain ⟨n, hn⟩ : ∃ n, i.toNatClampNeg = n := ⟨_, rfl⟩
    have ei : i = nI n := by rw [← hn]; exact nI_back hr.1
    have hn40 : n < 40 := by omega
    subst ei
    rw [show (40 : Int32) * nI k + nI n = nI (40 * k + n) by rw [show (40 : Int32) * nI k = nI (40 * k) from pk_mul 40 k, nI_add], nIc (by omega), nIc (by omega)]
    have ev : yclv (Bs s a t3 t4 t5) (nI k) v = xnar (s (11 + 2 * k)) v := by
      unfold yclv xnar; rw [(Bs_so hk).1]
    rw [ev, Bs_c9, cells_set hk hL hn40]
  · rw [if_neg h, if_neg h]
theorem cb_cond {fr N : Int32} {i : Nat} (hN : 0 ≤ N.toInt ∧ N.toInt ≤ 40) (hi : i < 6) (hf : 0 ≤ fr.toInt ∨ i = 0) : (fr < 0 ∨ fr + 2 * nI i < fr ∨ N - 2 < fr + 2 * nI i) ↔ (xhas (fr + 2 * nI i) N = false ∨ xhas (fr + 2 * nI i + 1) N = false) := by
  have e2 : (N - 2).toInt = N.toInt - 2 := by rw [i32_sub (by omega) (by decide)]; rfl
  rw [show (2 : Int32) * nI i = nI (2 * i) from pk_mul 2 i]
  have ti := nI_toInt (n := 2 * i) (by omega)
  have lo := Int32.le_toInt fr
  have hi31 := Int32.toInt_lt fr
  have ea : (fr + nI (2 * i)).toInt = (fr.toInt + (2 * i : Nat)).bmod 4294967296 := by rw [Int32.toInt_add, ti]
  rw [← Bool.not_eq_true, ← Bool.not_eq_true, xhas_iff hN, xhas_iff hN, Int32.lt_iff_toInt_lt, Int32.lt_iff_toInt_lt, Int32.lt_iff_toInt_lt, i0, e2]
  by_cases ov : fr.toInt + (2 * i : Nat) < 2147483648
  · have e3 : (fr + nI (2 * i)).toInt = fr.toInt + (2 * i : Nat) := by rw [ea, Int.bmod_eq_of_le] <;> omega
    by_cases o2 : fr.toInt + (2 * i : Nat) < 2147483647
    · have e4 : (fr + nI (2 * i) + 1).toInt = fr.toInt + (2 * i : Nat) + 1 := by
        rw [Int32.toInt_add, e3, i1]
        show (fr.toInt + (2 * i : Nat) + 1).bmod 4294967296 = _
        rw [Int.bmod_eq_of_le] <;> omega
      rw [e3, e4]
      omega
    · rw [e3]; omega
  · have e3 : (fr + nI (2 * i)).toInt = fr.toInt + (2 * i : Nat) - 4294967296 := by
      rw [ea, Int.bmod_def, if_neg (by omega)]; omega
    rw [e3]; omega
theorem xat_cells {s : Nat → Int32} {a : Nat → List Int32} {t3 t4 t5 : List Int32} {k : Nat} {i : Int32} (hk : k < 4) (hL : xL a) (hS : xS s) (h : xhas i (s (12 + 2 * k)) = true) : gt (Bs s a t3 t4 t5 9) (40 * nI k + i) = xat a s k i := by
  have hr := (xhas_iff (hS k hk)).mp h
  have h40 := (hS k hk).2
  have ti := tnc hr.1
  unfold xat
  rw [if_pos h]
  obtain ⟨n, hn⟩ : ∃ n, i.toNatClampNeg = n := ⟨_, rfl⟩
  have ei : i = nI n := by rw [← hn]; exact nI_back hr.1
  subst ei
  have hn40 : n < 40 := by omega
  show (Bs s a t3 t4 t5 9).getD (40 * nI k + nI n).toNatClampNeg 0 = _
  rw [show (40 : Int32) * nI k + nI n = nI (40 * k + n) by rw [show (40 : Int32) * nI k = nI (40 * k) from pk_mul 40 k, nI_add], nIc (by omega), nIc (by omega)]
  exact cells_get hk hL hn40
theorem eq_cb {t3 t4 t5 : List Int32} {k : Nat} {fr : Int32} (hk : k < 4) : ∀ g i S (s : Nat → Int32) (a : Nat → List Int32), i + g ≤ 5 → xL a → xS s → (0 ≤ fr.toInt ∨ i = 0) →
    ycb (nI k) fr g i S (Ms s) (Bs s a t3 t4 t5) = ((xcb k fr g i S s a).1, Ms (xcb k fr g i S s a).2.1, Bs (xcb k fr g i S s a).2.1 (xcb k fr g i S s a).2.2 t3 t4 t5) := by
  intro g
  induction g with
  | zero => intro i S s a hi hL hS hf; rfl
  | succ g ih =>
    intro i S s a hi hL hS hf
    simp only [ycb, xcb]
    have cc := cb_cond (fr := fr) (i := i) (hS k hk) (by omega) hf
    rw [(Bs_so hk).2]
    by_cases c : fr < 0 ∨ fr + 2 * nI i < fr ∨ s (12 + 2 * k) - 2 < fr + 2 * nI i
    · rw [if_pos c, if_pos (cc.mp c)]
    · have c2 := fun q => c (cc.mpr q)
      rw [if_neg c, if_neg c2]
      have h1 : xhas (fr + 2 * nI i) (s (12 + 2 * k)) = true := by rw [← Bool.not_eq_false]; exact fun q => c2 (Or.inl q)
      have h2 : xhas (fr + 2 * nI i + 1) (s (12 + 2 * k)) = true := by rw [← Bool.not_eq_false]; exact fun q => c2 (Or.inr q)
      rw [Int32.add_assoc (40 * nI k), xat_cells hk hL hS h1, xat_cells hk hL hS h2]
      generalize xat a s k (fr + 2 * nI i) = x
      generalize xat a s k (fr + 2 * nI i + 1) = y
      have ec := eq_clerk (s := s) (a := a) (t3 := t3) (t4 := t4) (t5 := t5) (k := x) (mo := y)
      rw [← ec.2.2, ← ec.1, ← ec.2.1]
      exact ih (i + 1) _ _ _ (by omega) (ckb_len hL) (fun p hp => by rw [ckm_o (by omega)]; exact hS p hp) (Or.inl (by
        have q : ¬ fr < 0 := fun q => c (Or.inl q)
        rw [Int32.lt_iff_toInt_lt, i0] at q
        omega))
theorem eq_cby {s : Nat → Int32} {a : Nat → List Int32} {t3 t4 t5 : List Int32} {k : Nat} {so fr n : Int32} (hk : k < 4) (hL : xL a) (hS : xS s) :
    ycby (Ms s) (Bs s a t3 t4 t5) (nI k) so fr n = ((xcby s a k so fr n).1, Ms (xcby s a k so fr n).2.1, Bs (xcby s a k so fr n).2.1 (xcby s a k so fr n).2.2 t3 t4 t5) := by
  unfold ycby xcby
  rw [wi_nk hk, Bool.true_and, (Bs_so hk).1]
  by_cases h : (mc_wi so 0 2 && mc_wi n 0 5) = false
  · rw [if_pos h, if_pos h]
  · rw [if_neg h, if_neg h]
    by_cases m : s (11 + 2 * k) = -1
    · rw [if_pos m, if_pos (show xmis s k = true by unfold xmis; rw [beq_iff_eq]; exact m)]
    · rw [if_neg m, if_neg (show ¬ xmis s k = true by unfold xmis; rw [beq_iff_eq]; exact m)]
      by_cases e : s (11 + 2 * k) = so
      · rw [if_neg (fun q => q e), if_neg (fun q => q e)]
        rw [Bool.not_eq_false, Bool.and_eq_true] at h
        have hn := mc_wi_iff.mp h.2
        rw [i0, show (5 : Int32).toInt = 5 from rfl] at hn
        have t := tnc hn.1
        exact eq_cb hk _ _ _ _ _ (by omega) hL hS (Or.inr rfl)
      · rw [if_pos e, if_pos e]
end Zj_6z_x39
section Zj_6za_x40
/-! ===== film, on both sides ===== -/
theorem fok_eq {s : Nat → Int32} {k : Nat} {j fr sm : Int32} (hk : k < 4) : yfmc (Ms s) (nI k) j fr sm = xfok s j fr sm := by
  unfold yfmc xfok
  rw [wi_nk hk, Bool.true_and]
  show (mc_wi j 0 (s 2 - 1) && mc_wi fr 0 999 && mc_wi sm 0 9920 && decide (sm - sm / 100 * 100 ≤ 20)) = _
  rw [Bool.and_assoc, Bool.and_assoc]
  congr 1
  congr 1
  by_cases h0 : 0 ≤ sm.toInt
  · obtain ⟨P, hP, rfl⟩ : ∃ P : Nat, P < 2 ^ 31 ∧ sm = nI P := ⟨sm.toNatClampNeg, by have := tnc h0; have := Int32.toInt_lt sm; omega, nI_back h0⟩
    have eS : nI P / 100 = nI (P / 100) := pk_div (a := P) (d := 100) (by omega) (by decide) (by decide)
    have eR : nI P - nI P / 100 * 100 = nI (P % 100) := pk_rem (a := P) (d := 100) (by omega) (by decide) (by decide)
    rw [eR, eS, Bool.eq_iff_iff, Bool.and_eq_true, Bool.and_eq_true, Bool.and_eq_true, mc_wi_iff, decide_eq_true_eq, decide_eq_true_eq, decide_eq_true_eq, Int32.le_iff_toInt_le, Int32.le_iff_toInt_le, Int32.le_iff_toInt_le, nI_toInt (by omega), nI_toInt (by omega), nI_toInt (by omega), i0, show (9920 : Int32).toInt = 9920 from rfl, show (20 : Int32).toInt = 20 from rfl, show (99 : Int32).toInt = 99 from rfl]
    omega
  · rw [show mc_wi sm 0 9920 = false by rw [← Bool.not_eq_true, mc_wi_iff, i0]; omega, show decide (0 ≤ sm) = false from decide_eq_false (by rw [Int32.le_iff_toInt_le, i0]; exact h0)]
    rfl
theorem eq_film {s : Nat → Int32} {a : Nat → List Int32} {t3 t4 t5 : List Int32} {k : Nat} {j fr sm : Int32} (hk : k < 4) (hL : xL a) :
    yfm1 (Ms s) (nI k) j fr sm = xf1 s j fr sm ∧ Ms (xfs s k j fr sm) = Ms s ∧ yfmb (Ms s) (Bs s a t3 t4 t5) (nI k) j fr sm = Bs (xfs s k j fr sm) (xfa s a (yseg (Bs s a t3 t4 t5) (tl s)) k j fr sm) t3 t4 t5 := by
  have ok := fok_eq (s := s) (j := j) (fr := fr) (sm := sm) hk
  refine ⟨?_, ?_, ?_⟩
  · unfold yfm1 xf1
    rw [if_neg (by rw [wi_nk hk]; decide)]
    show (if mc_wi j 0 (s 2 - 1) = false then (-5 : Int32) else _) = _
    by_cases h : mc_wi j 0 (s 2 - 1) = false
    · rw [if_pos h, if_pos h]
    · rw [if_neg h, if_neg h, ← ok]
      rw [Bool.not_eq_false] at h
      unfold yfmc
      by_cases c : mc_wi fr 0 999 = false ∨ mc_wi sm 0 9920 = false ∨ 20 < sm - sm / 100 * 100
      · rw [if_pos c, if_neg]
        intro q
        simp only [Bool.and_eq_true, decide_eq_true_eq] at q
        rcases c with c | c | c
        · rw [c] at q; exact absurd q.1.1.2 (by decide)
        · rw [c] at q; exact absurd q.1.2 (by decide)
        · exact absurd c (Int32.not_lt.mpr q.2)
      · rw [if_neg c, if_pos]
        have c1 : mc_wi fr 0 999 = true := by rw [← Bool.not_eq_false]; exact fun q => c (Or.inl q)
        have c2 : mc_wi sm 0 9920 = true := by rw [← Bool.not_eq_false]; exact fun q => c (Or.inr (Or.inl q))
        have c3 : sm - sm / 100 * 100 ≤ 20 := Int32.not_lt.mp (fun q => c (Or.inr (Or.inr q)))
        rw [wi_nk hk, c1, c2, decide_eq_true c3]
        show (true && mc_wi j 0 (s 2 - 1) && true && true && true) = true
        rw [h]; rfl
  · unfold xfs
    split
    · exact Ms_hi (fun p hp => by unfold xbs; rw [upn (by omega), upn (by omega)])
    · rfl
  · unfold yfmb xfs xfa
    rw [ok]
    by_cases h : xfok s j fr sm = true
    · rw [if_pos h, if_pos h, if_pos h]
      rw [← ok] at h
      unfold yfmc at h
      simp only [Bool.and_eq_true, decide_eq_true_eq] at h
      have hg := mc_wi_iff.mp h.1.2
      rw [i0, show (9920 : Int32).toInt = 9920 from rfl] at hg
      have c20 := h.2
      obtain ⟨P, hP, rfl⟩ : ∃ P : Nat, P ≤ 9920 ∧ sm = nI P := ⟨sm.toNatClampNeg, by have := tnc hg.1; omega, nI_back hg.1⟩
      have eS : nI P / 100 = nI (P / 100) := pk_div (a := P) (d := 100) (by omega) (by decide) (by decide)
      have eR : nI P - nI P / 100 * 100 = nI (P % 100) := pk_rem (a := P) (d := 100) (by omega) (by decide) (by decide)
      have hR : P % 100 ≤ 20 := by
        rw [eR, Int32.le_iff_toInt_le, nI_toInt (by omega), show (20 : Int32).toInt = 20 from rfl] at c20
        omega
      have l5 := hL.2.2.2.2.2 k hk
      unfold yfmx xbs
      rw [eR, eS, (xh2' (L := P % 100) (by omega)).2.2.1, xcl_in (by rw [nI_toInt (by omega)]; omega) (by rw [nI_toInt (by omega)]; omega), nIc (n := k) (by omega), nIc (n := P / 100) (by omega), nIc (n := P % 100) (by omega)]
      have f := yzr_fil hk 40 0 a hL (by omega)
      have f2 := xfil_all (x := 0) (l := a (5 + k))
      rw [l5] at f2
      rw [f2] at f
      have g := yflm_fl (m := Ms s) (b := Bs s a t3 t4 t5) (j := j) (k := k) (F := fr.toNatClampNeg) (S := P / 100) hk (P % 100) 0 (mc_up a (5 + k) (List.replicate 40 0)) (hL.up (List.length_replicate)) (by omega)
      rw [up_up, up_at] at g
      rw [Bs_c9, f, g, Bs_9 hk, Bs_78 hk]
      rfl
    · rw [if_neg h, if_neg h, if_neg h]
end Zj_6za_x40
section Zj_6zb_x41
/-! ===== how far, on both sides ===== -/
theorem neg_sub64 {x y : Int64} : -(x - y) = y - x := by
  rw [Int64.neg_sub]
theorem far_eq {x y : Int64} (hx : -1000000000000000 ≤ x.toInt ∧ x.toInt ≤ 1000000000000000) (hy : -1000000000000000 ≤ y.toInt ∧ y.toInt ≤ 1000000000000000) : xabl (x - y) = yy_far x y := by
  have e : (x - y).toInt = x.toInt - y.toInt := by
    rw [Int64.toInt_sub, Int.bmod_eq_of_le] <;> omega
  have c : 0 < x - y ↔ y < x := by
    rw [Int64.lt_iff_toInt_lt, Int64.lt_iff_toInt_lt, e, show (0 : Int64).toInt = 0 from rfl]; omega
  unfold xabl yy_far
  by_cases h : y < x
  · rw [if_pos (c.mpr h), if_pos h]
  · rw [if_neg (fun q => h (c.mp q)), if_neg h, neg_sub64]
theorem sum_in {f : Int32 → Int32} : ∀ (l : List Int32) (S : Int64), (∀ v, v ∈ l → 0 ≤ (f v).toInt ∧ (f v).toInt ≤ 200000) → 0 ≤ S.toInt → S.toInt + 200000 * l.length ≤ 1000000000000 →
    0 ≤ (l.foldl (fun S v => S + (f v).toInt64) S).toInt ∧ (l.foldl (fun S v => S + (f v).toInt64) S).toInt ≤ S.toInt + 200000 * l.length := by
  intro l
  induction l with
  | nil => intro S _ h0 _; exact ⟨h0, by show S.toInt ≤ S.toInt + 200000 * 0; omega⟩
  | cons x r ih =>
    intro S hf h0 h1
    have hx := hf x List.mem_cons_self
    rw [List.length_cons] at h1 ⊢
    have e : (S + (f x).toInt64).toInt = S.toInt + (f x).toInt := by
      rw [Int64.toInt_add, Int32.toInt_toInt64, Int.bmod_eq_of_le] <;> omega
    have k := ih (S + (f x).toInt64) (fun v hv => hf v (List.mem_cons_of_mem _ hv)) (by rw [e]; omega) (by rw [e]; omega)
    rw [List.foldl_cons]
    rw [e] at k
    exact ⟨k.1, by omega⟩
theorem bw_mem {s : Nat → Int32} {a : Nat → List Int32} {k : Nat} (h : xbw s a k = 0) : ∀ v, v ∈ xrow s a k → 0 ≤ v.toInt ∧ v.toInt ≤ 99999 := by
  intro v hv
  obtain ⟨i, hi, e⟩ := List.getElem_of_mem hv
  have g := xbw_num h i hi
  rw [List.getD_eq_getElem?_getD, List.getElem?_eq_getElem hi, e] at g
  exact wi_num g
theorem oS_in {s : Nat → Int32} {a : Nat → List Int32} {k : Nat} (hk : k < 4) (hL : xL a) (hS : xS s) (h : xbw s a k = 0) : 0 ≤ (xoS s a k).toInt ∧ (xoS s a k).toInt ≤ 8000000 := by
  have l := (xrow_len hk hL hS).2
  have q := sum_in (f := fun v => v) (xrow s a k) 0 (fun v hv => by have := bw_mem h v hv; omega) (by decide) (by rw [show (0 : Int64).toInt = 0 from rfl]; omega)
  rw [show (0 : Int64).toInt = 0 from rfl] at q
  exact ⟨q.1, by have := q.2; unfold xoS; omega⟩
theorem mS_in {s : Nat → Int32} {a : Nat → List Int32} {sg : Nat → List Int32} {k : Nat} {j : Int32} (hk : k < 4) (hL : xL a) (hS : xS s) (h : xbw s a k = 0) (hm : 0 ≤ (gt (a 1) j).toInt ∧ (gt (a 1) j).toInt ≤ 9) : 0 ≤ (xmS s a sg k j).toInt ∧ (xmS s a sg k j).toInt ≤ 8000000 := by
  have l := (xrow_len hk hL hS).2
  have q := sum_in (f := fun v => hmk (gt (a 0) j) (gt (a 1) j) j (s 0) (s 1) sg v) (xrow s a k) 0 (fun v hv => by
    have := hmk_in (K := gt (a 0) j) (nu := j) (ba := s 0) (ye := s 1) (sg := sg) hm (bw_mem h v hv)
    exact ⟨this.1, by have := this.2; omega⟩) (by decide) (by rw [show (0 : Int64).toInt = 0 from rfl]; omega)
  rw [show (0 : Int64).toInt = 0 from rfl] at q
  exact ⟨q.1, by have := q.2; unfold xmS; omega⟩
end Zj_6zb_x41
section Zj_6zc_x42
/-! ===== book, who, smuggled, shortest, kinds: one answer ===== -/
theorem gr_eq {x : Int64} : xgr x = yy_gr x := by
  unfold xgr yy_gr
  split <;> rfl
theorem more_in {s : Nat → Int32} {a : Nat → List Int32} {j : Int32} (hC : yC s) (hm : ∀ i, i < 5 → 0 ≤ ((a 1).getD i 0).toInt ∧ ((a 1).getD i 0).toInt ≤ 9) (hj : mc_wi j 0 (s 2 - 1) = true) : 0 ≤ (gt (a 1) j).toInt ∧ (gt (a 1) j).toInt ≤ 9 := by
  have h := mc_wi_iff.mp hj
  obtain ⟨h1, h2⟩ := hC
  rw [i0, i32_sub (by omega) (by decide), i1] at h
  have t := tnc h.1
  exact hm _ (by omega)
theorem eq_book {s : Nat → Int32} {a : Nat → List Int32} {t3 t4 t5 : List Int32} {k : Nat} {j w : Int32} (hk : k < 4) (hL : xL a) (hS : xS s) (hC : yC s) (hm : ∀ i, i < 5 → 0 ≤ ((a 1).getD i 0).toInt ∧ ((a 1).getD i 0).toInt ≤ 9) :
    ybook (Ms s) (Bs s a t3 t4 t5) (nI k) j w = xbook s a (yseg (Bs s a t3 t4 t5) (tl s)) k j w := by
  unfold ybook xbook
  rw [eq_bw hk hL hS]
  by_cases h : xbw s a k = 0
  · rw [if_neg (show ¬ ¬ xbw s a k = 0 from fun q => q h), if_neg (show ¬ ¬ xbw s a k = 0 from fun q => q h)]
    show (if mc_wi j 0 (s 2 - 1) = false then (-5 : Int64) else _) = _
    by_cases c : mc_wi j 0 (s 2 - 1) = false
    · rw [if_pos c, if_pos c]
    · rw [if_neg c, if_neg c]
      rw [Bool.not_eq_false] at c
      have hmj := more_in hC hm c
      have b1 := mS_in (sg := yseg (Bs s a t3 t4 t5) (tl s)) hk hL hS h hmj
      have b2 := oS_in hk hL hS h
      have fe := far_eq (x := xmS s a (yseg (Bs s a t3 t4 t5) (tl s)) k j) (y := xoS s a k) (by omega) (by omega)
      rw [eq_hb hk hL hS, eq_ob hk hL hS, ← fe]
      by_cases w0 : w = 0
      · subst w0; rw [if_pos rfl, if_neg (by decide), if_pos rfl]
      · by_cases w1 : w = 1
        · subst w1; rw [if_neg w0, if_pos rfl, if_neg (show ¬ mc_wi 1 0 3 = false by decide), if_neg w0, if_pos rfl]
        · by_cases w2 : w = 2
          · subst w2; rw [if_neg w0, if_neg w1, if_pos rfl, if_neg (show ¬ mc_wi 2 0 3 = false by decide), if_neg w0, if_neg w1, if_pos rfl]
          · rw [if_neg w0, if_neg w1, if_neg w2]
            by_cases w3 : w = 3
            · subst w3
              rw [if_pos rfl, if_neg (show ¬ mc_wi 3 0 3 = false by decide), if_neg w0, if_neg w1, if_neg w2, gr_eq, gr_eq]
              rfl
            · rw [if_neg w3, if_pos]
              rw [← Bool.not_eq_true, mc_wi_iff, i0, show (3 : Int32).toInt = 3 from rfl]
              intro q
              have n : ∀ v : Int32, ¬ w = v → ¬ w.toInt = v.toInt := fun v g e => g (Int32.toInt_inj.mp e)
              have n0 := n 0 w0
              have n1 := n 1 w1
              have n2 := n 2 w2
              have n3 := n 3 w3
              rw [i0] at n0
              rw [i1] at n1
              rw [show (2 : Int32).toInt = 2 from rfl] at n2
              rw [show (3 : Int32).toInt = 3 from rfl] at n3
              omega
  · rw [if_pos (show ¬ xbw s a k = 0 from h), if_pos (show ¬ xbw s a k = 0 from h)]
theorem ybest_cg {f g : Nat → Int64} : ∀ n i be le, (∀ j, i ≤ j → j < i + n → f j = g j) → ybest f n i be le = ybest g n i be le := by
  intro n
  induction n with
  | zero => intro i be le h; rfl
  | succ n ih =>
    intro i be le h
    simp only [ybest]
    rw [h i (Nat.le_refl _) (by omega), ih _ _ _ (fun j h1 h2 => h j (by omega) (by omega)), ih _ _ _ (fun j h1 h2 => h j (by omega) (by omega))]
theorem eq_who {s : Nat → Int32} {a : Nat → List Int32} {t3 t4 t5 : List Int32} {k : Nat} {w : Int32} (hk : k < 4) (hL : xL a) (hS : xS s) (hC : yC s) (hm : ∀ i, i < 5 → 0 ≤ ((a 1).getD i 0).toInt ∧ ((a 1).getD i 0).toInt ≤ 9) :
    ywho (Ms s) (Bs s a t3 t4 t5) (nI k) w = xwho s a (yseg (Bs s a t3 t4 t5) (tl s)) k w := by
  unfold ywho xwho
  rw [eq_bw hk hL hS]
  by_cases h : xbw s a k = 0
  · rw [if_neg (show ¬ ¬ xbw s a k = 0 from fun q => q h), if_neg (show ¬ ¬ xbw s a k = 0 from fun q => q h)]
    have b2 := oS_in hk hL hS h
    have e : ybest (fun i => yy_far (yhb (Ms s) (Bs s a t3 t4 t5) (nI k) (nI i)) (yob (Bs s a t3 t4 t5) (nI k))) (Ms s 2).toNatClampNeg 0 (-1) (-1) = ybest (fun i => xabl (xmS s a (yseg (Bs s a t3 t4 t5) (tl s)) k (nI i) - xoS s a k)) (s 2).toNatClampNeg 0 (-1) (-1) := by
      show ybest _ (s 2).toNatClampNeg 0 (-1) (-1) = _
      refine ybest_cg _ _ _ _ (fun i _ hi => ?_)
      have t2 := tnc hC.1
      have h5 := hC.2
      have b1 := mS_in (sg := yseg (Bs s a t3 t4 t5) (tl s)) (j := nI i) hk hL hS h (by
        have := hm i (by omega)
        unfold gt; rw [nIc (by omega)]; exact this)
      rw [eq_hb hk hL hS, eq_ob hk hL hS]
      exact (far_eq (by omega) (by omega)).symm
    rw [e]
  · rw [if_pos (show ¬ xbw s a k = 0 from h), if_pos (show ¬ xbw s a k = 0 from h)]
theorem yfew_cg {f g : Nat → Int32} : ∀ n i be le, (∀ j, i ≤ j → j < i + n → f j = g j) → yfew f n i be le = yfew g n i be le := by
  intro n
  induction n with
  | zero => intro i be le h; rfl
  | succ n ih =>
    intro i be le h
    simp only [yfew]
    rw [h i (Nat.le_refl _) (by omega), ih _ _ _ (fun j h1 h2 => h j (by omega) (by omega)), ih _ _ _ (fun j h1 h2 => h j (by omega) (by omega))]
theorem bwy_x {s : Nat → Int32} {a : Nat → List Int32} {k : Nat} {j : Int32} {α : Type} {f : Int32 → α} {z5 : α} {r : α} (h5 : f (-5) = z5) : (if ¬ xbw s a k = 0 then f (xbw s a k) else if mc_wi j 0 (s 2 - 1) = false then z5 else r) = (if ¬ xbwy s a k j = 0 then f (xbwy s a k j) else r) := by
  unfold xbwy
  by_cases h : xbw s a k = 0
  · rw [if_neg (show ¬ ¬ xbw s a k = 0 from fun q => q h)]
    by_cases c : mc_wi j 0 (s 2 - 1) = true
    · rw [if_neg (show ¬ mc_wi j 0 (s 2 - 1) = false by rw [c]; decide)]
      rw [if_neg (show ¬ ¬ xbw s a k = 0 from fun q => q h), if_pos c, if_neg (fun q => q rfl)]
    · have cf : mc_wi j 0 (s 2 - 1) = false := by rwa [Bool.not_eq_true] at c
      rw [if_pos cf, if_neg (show ¬ ¬ xbw s a k = 0 from fun q => q h), if_neg c, if_pos (by decide)]
      exact h5.symm
  · rw [if_pos (show ¬ xbw s a k = 0 from h), if_pos (show ¬ xbw s a k = 0 from h), if_pos (show ¬ xbw s a k = 0 from h)]
theorem eq_short {s : Nat → Int32} {a : Nat → List Int32} {t3 t4 t5 : List Int32} {k : Nat} {j w : Int32} (hk : k < 4) (hL : xL a) (hS : xS s) : yshort (Ms s) (Bs s a t3 t4 t5) (nI k) j w = xshort s a (yseg (Bs s a t3 t4 t5) (tl s)) k j w := by
  unfold yshort xshort
  rw [eq_bw hk hL hS]
  refine (bwy_x (s := s) (a := a) (k := k) (j := j) (f := fun x => x) (z5 := -5) rfl).trans ?_
  have e0 : ∀ le, yfew (ysho (Ms s) (Bs s a t3 t4 t5) (nI k) j) 11 2 (-1) le = yfew (xffo (gt (a 0) j) (gt (a 1) j) j (s 1) (yseg (Bs s a t3 t4 t5) (tl s)) (xrow s a k)) 11 2 (-1) le := fun le => by
    refine yfew_cg _ _ _ _ (fun i _ _ => ?_)
    unfold ysho yfa xffo
    rw [Bs_row hk hL hS]
    rfl
  have e1 : ∀ f : Nat → Int32, yfew f 11 2 (-1) 0 = yfew f 11 2 (-1) (-1) := fun f => by
    show yfew f (10 + 1) 2 (-1) 0 = yfew f (10 + 1) 2 (-1) (-1)
    simp only [yfew]
    rw [if_pos (Or.inl trivial), if_pos (Or.inl trivial)]
  rw [e0, e1]
end Zj_6zc_x42
section Zj_6zd_x43
/-! ===== smuggled, kinds: one answer ===== -/
theorem re64 {x y p q : Int64} : x - y + p - q = x - q + p - y := by
  simp only [Int64.sub_eq_add_neg]
  ac_rfl
theorem mk64 {x : Int32} (h : 0 ≤ x.toInt ∧ x.toInt < 131072) : 0 ≤ x.toInt64.toInt ∧ x.toInt64.toInt < 131072 := by
  rw [Int32.toInt_toInt64]; exact h
theorem eq_smug {s : Nat → Int32} {a : Nat → List Int32} {t3 t4 t5 : List Int32} {k : Nat} {j w : Int32} (hk : k < 4) (hL : xL a) (hS : xS s) (hC : yC s) (hm : ∀ i, i < 5 → 0 ≤ ((a 1).getD i 0).toInt ∧ ((a 1).getD i 0).toInt ≤ 9) :
    ysm (Ms s) (Bs s a t3 t4 t5) (nI k) j w = xsm s a (yseg (Bs s a t3 t4 t5) (tl s)) k j w := by
  unfold ysm xsm
  rw [eq_bw hk hL hS]
  refine (bwy_x (s := s) (a := a) (k := k) (j := j) (f := fun x => x.toInt64) (z5 := -5) rfl).trans ?_
  by_cases h : xbwy s a k j = 0
  · rw [if_neg (show ¬ ¬ xbwy s a k j = 0 from fun q => q h), if_neg (show ¬ ¬ xbwy s a k j = 0 from fun q => q h)]
    obtain ⟨hb, hj⟩ := xbwy_0 h
    have hmj := more_in hC hm hj
    have b1 := mS_in (sg := yseg (Bs s a t3 t4 t5) (tl s)) hk hL hS hb hmj
    have b2 := oS_in hk hL hS hb
    have e : ybest (ysmo (Ms s) (Bs s a t3 t4 t5) (nI k) j) (yrow (Bs s a t3 t4 t5) (nI k)).length 0 (-1) (-1) = ybest (xsmo s a (yseg (Bs s a t3 t4 t5) (tl s)) k j) (xrow s a k).length 0 (-1) (-1) := by
      rw [Bs_row hk hL hS]
      refine ybest_cg _ _ _ _ (fun i _ hi => ?_)
      unfold ysmo xsmo
      rw [eq_hb hk hL hS, eq_ob hk hL hS, Bs_row hk hL hS, eq_mk, eq_mk]
      have m0 : 0 ≤ (xmk s a (yseg (Bs s a t3 t4 t5) (tl s)) j 0).toInt64.toInt ∧ (xmk s a (yseg (Bs s a t3 t4 t5) (tl s)) j 0).toInt64.toInt < 131072 := mk64 (hmk_in (K := gt (a 0) j) (nu := j) (ba := s 0) (ye := s 1) (sg := yseg (Bs s a t3 t4 t5) (tl s)) hmj (v := 0) (by decide))
      have mi : 0 ≤ (xmk s a (yseg (Bs s a t3 t4 t5) (tl s)) j ((xrow s a k).getD i 0)).toInt64.toInt ∧ (xmk s a (yseg (Bs s a t3 t4 t5) (tl s)) j ((xrow s a k).getD i 0)).toInt64.toInt < 131072 := mk64 (hmk_in (K := gt (a 0) j) (nu := j) (ba := s 0) (ye := s 1) (sg := yseg (Bs s a t3 t4 t5) (tl s)) hmj (wi_num (xbw_num hb i (by omega))))
      have e1 : (xmS s a (yseg (Bs s a t3 t4 t5) (tl s)) k j - (xmk s a (yseg (Bs s a t3 t4 t5) (tl s)) j ((xrow s a k).getD i 0)).toInt64).toInt = (xmS s a (yseg (Bs s a t3 t4 t5) (tl s)) k j).toInt - (xmk s a (yseg (Bs s a t3 t4 t5) (tl s)) j ((xrow s a k).getD i 0)).toInt64.toInt := by
        rw [Int64.toInt_sub, Int.bmod_eq_of_le] <;> omega
      have e2 : (xmS s a (yseg (Bs s a t3 t4 t5) (tl s)) k j - (xmk s a (yseg (Bs s a t3 t4 t5) (tl s)) j ((xrow s a k).getD i 0)).toInt64 + (xmk s a (yseg (Bs s a t3 t4 t5) (tl s)) j 0).toInt64).toInt = (xmS s a (yseg (Bs s a t3 t4 t5) (tl s)) k j - (xmk s a (yseg (Bs s a t3 t4 t5) (tl s)) j ((xrow s a k).getD i 0)).toInt64).toInt + (xmk s a (yseg (Bs s a t3 t4 t5) (tl s)) j 0).toInt64.toInt := by
        rw [Int64.toInt_add, Int.bmod_eq_of_le] <;> omega
      rw [re64]
      exact (far_eq (by omega) (by omega)).symm
    rw [e]
  · rw [if_pos (show ¬ xbwy s a k j = 0 from h), if_pos (show ¬ xbwy s a k j = 0 from h)]
theorem unl_gen {m : Nat → Int32} {b : Nat → List Int32} {s0 j : Int32} : yunl m b s0 j = xunl (gt (b 0) j) (gt (b 1) j) j (m 0) (m 1) (yseg b (m 5).toNatClampNeg) (yrow b s0) := by
  unfold yunl xunl
  rw [eq_unf]
  rfl
theorem gt_set {l : List Int32} {j x : Int32} (h : vp_in j l.length) : gt (l.set j.toNatClampNeg x) j = x := by
  unfold gt
  rw [gD_set (vp_clt h), if_pos rfl]
theorem set_same {l : List Int32} {j : Int32} : l.set j.toNatClampNeg (gt l j) = l := by
  refine li_ext (by rw [List.length_set]) (fun i hi => ?_)
  rw [List.length_set] at hi
  by_cases hj : j.toNatClampNeg < l.length
  · rw [gD_set hj]
    by_cases e : i = j.toNatClampNeg
    · rw [if_pos e, e]; rfl
    · rw [if_neg e]
  · rw [List.set_eq_of_length_le (by omega)]
theorem eq_kinds {s : Nat → Int32} {a : Nat → List Int32} {t3 t4 t5 : List Int32} {k : Nat} {j so : Int32} (hk : k < 4) (hL : xL a) (hS : xS s) (hC : yC s) : ykinds (Ms s) (Bs s a t3 t4 t5) (nI k) j so = xkinds s a (yseg (Bs s a t3 t4 t5) (tl s)) k j so := by
  unfold ykinds xkinds
  rw [eq_tw hk hL hS]
  by_cases h : xtw s a k j = 0
  · rw [if_neg (show ¬ ¬ xtw s a k j = 0 from fun q => q h), if_neg (show ¬ ¬ xtw s a k j = 0 from fun q => q h)]
    have hj := (xtw_0 h).2
    have v0 := vp_ck hL.1 hj hC.1 hC.2
    have v1 := vp_ck hL.2.1 hj hC.1 hC.2
    have R := Bs_row (t3 := t3) (t4 := t4) (t5 := t5) hk hL hS
    by_cases w0 : so = 0
    · subst w0
      rw [if_neg (show ¬ mc_wi 0 0 2 = false by decide), if_pos rfl, if_pos rfl, if_neg (show ¬ (0 : Int32) = 2 by decide)]
      refine ybits_cg _ _ _ (fun i _ _ => ?_)
      unfold xk0
      rw [unl_gen, ← R]
      have g0 : gt (ykB (Bs s a t3 t4 t5) j 0 (nI i) 0) j = nI i := gt_set (l := a 0) v0
      have g1 : gt (ykB (Bs s a t3 t4 t5) j 0 (nI i) 1) j = gt (a 1) j := gt_set (l := a 1) v1
      rw [g0, g1]
      rfl
    · by_cases w1 : so = 1
      · subst w1
        rw [if_neg (show ¬ mc_wi 1 0 2 = false by decide), if_neg w0, if_pos rfl, if_neg w0, if_pos rfl, if_neg (show ¬ (1 : Int32) = 2 by decide)]
        refine ybits_cg _ _ _ (fun i _ _ => ?_)
        unfold xk1
        rw [unl_gen, ← R]
        have g0 : gt (ykB (Bs s a t3 t4 t5) j 1 (nI i) 0) j = gt (a 0) j := gt_set (l := a 0) v0
        have g1 : gt (ykB (Bs s a t3 t4 t5) j 1 (nI i) 1) j = nI i := gt_set (l := a 1) v1
        rw [g0, g1]
        rfl
      · by_cases w2 : so = 2
        · subst w2
          rw [if_neg (show ¬ mc_wi 2 0 2 = false by decide), if_neg w0, if_neg w1, if_pos rfl, if_neg w0, if_neg w1, if_pos rfl]
          refine ybits_cg _ _ _ (fun i _ _ => ?_)
          unfold xk2
          rw [unl_gen, ← R]
          have g0 : gt (ykB (Bs s a t3 t4 t5) j 2 (nI i) 0) j = gt (a 0) j := gt_set (l := a 0) v0
          have g1 : gt (ykB (Bs s a t3 t4 t5) j 2 (nI i) 1) j = gt (a 1) j := gt_set (l := a 1) v1
          rw [g0, g1]
          rfl
        · have hw : mc_wi so 0 2 = false := by
            rw [← Bool.not_eq_true, mc_wi_iff, i0, show (2 : Int32).toInt = 2 from rfl]
            intro q
            have n : ∀ v : Int32, ¬ so = v → ¬ so.toInt = v.toInt := fun v g e => g (Int32.toInt_inj.mp e)
            have n0 := n 0 w0
            have n1 := n 1 w1
            have n2 := n 2 w2
            rw [i0] at n0
            rw [i1] at n1
            rw [show (2 : Int32).toInt = 2 from rfl] at n2
            omega
          rw [if_pos hw, if_neg w0, if_neg w1, if_neg w2]
  · rw [if_pos (show ¬ xtw s a k j = 0 from h), if_pos (show ¬ xtw s a k j = 0 from h)]
end Zj_6zd_x43
section Zj_6ze_x44
/-! ===== the same by their very words ===== -/
theorem eq_plain {s : Nat → Int32} {a : Nat → List Int32} {t3 t4 t5 : List Int32} {k v : Int32} : yplain (Ms s) (Bs s a t3 t4 t5) k v = xplain s a (yseg (Bs s a t3 t4 t5) (tl s)) k v := rfl
theorem eq_figure {s : Nat → Int32} {a : Nat → List Int32} {t3 t4 t5 : List Int32} {k v w : Int32} : yfig (Ms s) (Bs s a t3 t4 t5) k v w = xfig s a (yseg (Bs s a t3 t4 t5) (tl s)) k v w := rfl
theorem eq_told {s : Nat → Int32} {a : Nat → List Int32} {t3 t4 t5 : List Int32} {k w : Int32} : yy_td (Ms s) (Bs s a t3 t4 t5) k w = xtd s a k w := rfl
theorem eq_alike {s : Nat → Int32} {a : Nat → List Int32} {t3 t4 t5 : List Int32} {k yrs w : Int32} : yalike (Ms s) (Bs s a t3 t4 t5) k yrs w = xalike s a (yseg (Bs s a t3 t4 t5) (tl s)) k yrs w := rfl
theorem eq_adds {s : Nat → Int32} {a : Nat → List Int32} {t3 t4 t5 : List Int32} {k x y : Int32} : yadds (Ms s) (Bs s a t3 t4 t5) k x y = xadds s a (yseg (Bs s a t3 t4 t5) (tl s)) k x y := rfl
end Zj_6ze_x44
