theorem sp_x_one3 {s u m n : Nat → Int32} {a c b d : Nat → List Int32} {q : List (Option Nat)} {h : Nat} {z : mc_W} (hL : xL a) {N : Nat} (hN : s 5 = nI N) (hN1 : N ≤ 160) {R : xR} {o : List Int32} (hP : xPS N R o u c) : mc_T yX4_isOne cX4_isOne 2 (some .boolean) 26 [.ref 6, .int 2] (WW s a q u c h m b n d z) (some (.int (mc_b ((xlv (xT a) N 3).1 R o).1))) (fun w1 => ∃ u1 c1, xPS N ((xlv (xT a) N 3).1 R o).2.1 ((xlv (xT a) N 3).1 R o).2.2 u1 c1 ∧ xPK u u1 c c1 ∧ w1 = (WW s a q u1 c1 h m b n d z)) := by
  refine mc_start (own := RX4) (ini := false) rfl (by decide +kernel) (fun h => by cases h) (Nat.le_of_ble_eq_true rfl) ?_
  show mc_E _ _ _ _ _ [some (.ref 6), some (.int 2)] [] _ _ _
  have ht := hP.2.2.1
  refine e_aloadn (pc := 0) dX4_isOne_0 rfl ?_
  refine e_get (pc := 1) dX4_isOne_1 fX4_41 rfl rfl ?_
  refine e_bipush (v := -6) (pc := 4) dX4_isOne_4 (by decide) ?_
  refine e_icmp_lt (pc := 6) dX4_isOne_6 (t := 23) (by decide) (fun c_6 => ?_) (fun c_6 => ?_)
  · skip
    refine e_aloadn (pc := 23) dX4_isOne_23 rfl ?_
    refine e_get (pc := 24) dX4_isOne_24 fX4_41 rfl rfl ?_
    refine e_bipush (v := -17) (pc := 27) dX4_isOne_27 (by decide) ?_
    refine e_icmp_eq (pc := 29) dX4_isOne_29 (t := 41) (by decide) (fun c_29 => ?_) (fun c_29 => ?_)
    · skip
      refine e_iloadn (pc := 41) dX4_isOne_41 rfl ?_
      refine e_iconst (v := 5) (pc := 42) dX4_isOne_42 (by decide) ?_
      refine e_icmp_lt (pc := 43) dX4_isOne_43 (t := 48) (by decide) (fun _ => ?_) (fun c_43 => absurd (by decide) c_43)
      refine e_aloadn (pc := 48) dX4_isOne_48 rfl ?_
      refine e_get (pc := 49) dX4_isOne_49 fX4_41 rfl rfl ?_
      refine e_bipush (v := -20) (pc := 52) dX4_isOne_52 (by decide) ?_
      refine e_icmp_ne (pc := 54) dX4_isOne_54 (t := 88) (by decide) (fun c_54 => ?_) (fun c_54 => ?_)
      · skip
        refine e_aloadn (pc := 88) dX4_isOne_88 rfl ?_
        refine e_cvY (pc := 89) (sp_x_goOnP hL hN hN1 hP) dX4_isOne_89 kX4_28 rfl rfl rfl rfl rfl (mc_CR_of (Nat.le_of_ble_eq_true rfl) (Nat.le_of_ble_eq_true rfl) (Nat.le_refl _) (Nat.le_refl _)) (Nat.le_of_ble_eq_true rfl) (fun w1 hw1 => ?_)
        obtain ⟨u1, c1, hP1, hk1, rfl⟩ := hw1
        refine e_aloadn (pc := 92) dX4_isOne_92 rfl ?_
        refine e_iloadn (pc := 93) dX4_isOne_93 rfl ?_
        refine e_iconst (v := 1) (pc := 94) dX4_isOne_94 (by decide) ?_
        refine e_iadd (pc := 95) dX4_isOne_95 ?_
        refine e_top (y := 3) (by decide) ?_
        refine e_cvX (pc := 96) (sp_x_one2 hL hN hN1 hP1) dX4_isOne_96 kX4_89 rfl rfl rfl rfl rfl (mc_CR_of (Nat.le_of_ble_eq_true rfl) (Nat.le_of_ble_eq_true rfl) (Nat.le_refl _) (Nat.le_refl _)) (Nat.le_of_ble_eq_true rfl) (fun w1 hw1 => ?_)
        obtain ⟨u2, c2, hP2, hk2, rfl⟩ := hw1
        refine e_if_ne (pc := 99) dX4_isOne_99 (t := 104) (by decide) (fun c_99 => ?_) (fun c_99 => ?_)
        · skip
          refine e_aloadn (pc := 104) dX4_isOne_104 rfl ?_
          refine e_bipush (v := -19) (pc := 105) dX4_isOne_105 (by decide) ?_
          refine e_cvY (pc := 107) (sp_x_putP hP2) dX4_isOne_107 kX4_76 rfl rfl rfl rfl rfl (mc_CR_of (Nat.le_of_ble_eq_true rfl) (Nat.le_of_ble_eq_true rfl) (Nat.le_refl _) (Nat.le_refl _)) (Nat.le_of_ble_eq_true rfl) (fun w1 hw1 => ?_)
          obtain ⟨u3, c3, hP3, hk3, rfl⟩ := hw1
          refine e_iconst (v := 1) (pc := 110) dX4_isOne_110 (by decide) ?_
          exact e_zret (pc := 111) dX4_isOne_111 rfl (by rfl) (Nat.le_refl _) (Nat.le_refl _) (have e : (xlv (xT a) N 3).1 R o = (true, ((xlv (xT a) N 2).1 (ynx (xT a) N R.2.1) o).2.1, xput ((xlv (xT a) N 2).1 (ynx (xT a) N R.2.1) o).2.2 (-19)) := (by rw [xlv_oS]; simp only [xone]; rw [if_neg (show ¬ -6 ≤ xtk1 R by rw [← ht]; exact Int32.not_le.mpr c_6), if_neg (show ¬ xtk1 R = -20 by rw [← ht]; exact c_54), if_pos (show xtk1 R = -17 by rw [← ht]; exact c_29), if_pos (mc_b1.mp c_99)]); ⟨by rw [e]; rfl, u3, c3, by rw [e]; dsimp only; exact hP3, (hk1.trans hk2).trans hk3, rfl⟩)
        · skip
          refine e_iconst (v := 0) (pc := 102) dX4_isOne_102 (by decide) ?_
          exact e_zret (pc := 103) dX4_isOne_103 rfl (by rfl) (Nat.le_refl _) (Nat.le_refl _) (have e : (xlv (xT a) N 3).1 R o = (false, ((xlv (xT a) N 2).1 (ynx (xT a) N R.2.1) o).2) := (by rw [xlv_oS]; simp only [xone]; rw [if_neg (show ¬ -6 ≤ xtk1 R by rw [← ht]; exact Int32.not_le.mpr c_6), if_neg (show ¬ xtk1 R = -20 by rw [← ht]; exact c_54), if_pos (show xtk1 R = -17 by rw [← ht]; exact c_29), if_neg (show ¬ ((xlv (xT a) N 2).1 (ynx (xT a) N R.2.1) o).1 = true by rw [mc_b0.mp c_99]; decide)]); ⟨by rw [e]; rfl, u2, c2, by rw [e]; dsimp only; exact hP2, hk1.trans hk2, rfl⟩)
      · skip
        refine e_aloadn (pc := 57) dX4_isOne_57 rfl ?_
        refine e_cvY (pc := 58) (sp_x_goOnP hL hN hN1 hP) dX4_isOne_58 kX4_28 rfl rfl rfl rfl rfl (mc_CR_of (Nat.le_of_ble_eq_true rfl) (Nat.le_of_ble_eq_true rfl) (Nat.le_refl _) (Nat.le_refl _)) (Nat.le_of_ble_eq_true rfl) (fun w1 hw1 => ?_)
        obtain ⟨u1, c1, hP1, hk1, rfl⟩ := hw1
        refine e_aloadn (pc := 61) dX4_isOne_61 rfl ?_
        refine e_iloadn (pc := 62) dX4_isOne_62 rfl ?_
        refine e_iconst (v := 1) (pc := 63) dX4_isOne_63 (by decide) ?_
        refine e_iadd (pc := 64) dX4_isOne_64 ?_
        refine e_top (y := 3) (by decide) ?_
        refine e_cvX (pc := 65) (sp_x_E2 hL hN hN1 hP1) dX4_isOne_65 kX4_70 rfl rfl rfl rfl rfl (mc_CR_of (Nat.le_of_ble_eq_true rfl) (Nat.le_of_ble_eq_true rfl) (Nat.le_refl _) (Nat.le_refl _)) (Nat.le_of_ble_eq_true rfl) (fun w1 hw1 => ?_)
        obtain ⟨u2, c2, hP2, hk2, rfl⟩ := hw1
        refine e_if_eq (pc := 68) dX4_isOne_68 (t := 80) (by decide) (fun c_68 => ?_) (fun c_68 => ?_)
        · skip
          refine e_iconst (v := 0) (pc := 80) dX4_isOne_80 (by decide) ?_
          exact e_zret (pc := 81) dX4_isOne_81 rfl (by rfl) (Nat.le_refl _) (Nat.le_refl _) (have e : (xlv (xT a) N 3).1 R o = (false, (xE (xT a) N (xlv (xT a) N 2).2 (ynx (xT a) N R.2.1) o).2) := (by rw [xlv_oS]; simp only [xone]; rw [if_neg (show ¬ -6 ≤ xtk1 R by rw [← ht]; exact Int32.not_le.mpr c_6), if_pos (show xtk1 R = -20 by rw [← ht]; exact c_54), if_neg (show ¬ (xE (xT a) N (xlv (xT a) N 2).2 (ynx (xT a) N R.2.1) o).1 = true by rw [mc_b0.mp c_68]; decide)]); ⟨by rw [e]; rfl, u2, c2, by rw [e]; dsimp only; exact hP2, hk1.trans hk2, rfl⟩)
        · skip
          refine e_aloadn (pc := 71) dX4_isOne_71 rfl ?_
          refine e_get (pc := 72) dX4_isOne_72 fX4_41 rfl rfl ?_
          refine e_bipush (v := -21) (pc := 75) dX4_isOne_75 (by decide) ?_
          refine e_icmp_eq (pc := 77) dX4_isOne_77 (t := 82) (by decide) (fun c_77 => ?_) (fun c_77 => ?_)
          · skip
            refine e_aloadn (pc := 82) dX4_isOne_82 rfl ?_
            refine e_cvY (pc := 83) (sp_x_goOnP hL hN hN1 hP2) dX4_isOne_83 kX4_28 rfl rfl rfl rfl rfl (mc_CR_of (Nat.le_of_ble_eq_true rfl) (Nat.le_of_ble_eq_true rfl) (Nat.le_refl _) (Nat.le_refl _)) (Nat.le_of_ble_eq_true rfl) (fun w1 hw1 => ?_)
            obtain ⟨u3, c3, hP3, hk3, rfl⟩ := hw1
            refine e_iconst (v := 1) (pc := 86) dX4_isOne_86 (by decide) ?_
            exact e_zret (pc := 87) dX4_isOne_87 rfl (by rfl) (Nat.le_refl _) (Nat.le_refl _) (have e : (xlv (xT a) N 3).1 R o = (true, ynx (xT a) N (xE (xT a) N (xlv (xT a) N 2).2 (ynx (xT a) N R.2.1) o).2.1.2.1, (xE (xT a) N (xlv (xT a) N 2).2 (ynx (xT a) N R.2.1) o).2.2) := (by rw [xlv_oS]; simp only [xone]; rw [if_neg (show ¬ -6 ≤ xtk1 R by rw [← ht]; exact Int32.not_le.mpr c_6), if_pos (show xtk1 R = -20 by rw [← ht]; exact c_54), if_pos (mc_b1.mp c_68), if_pos (show xtk1 (xE (xT a) N (xlv (xT a) N 2).2 (ynx (xT a) N R.2.1) o).2.1 = -21 by rw [← hP2.2.2.1]; exact c_77)]); ⟨by rw [e]; rfl, u3, c3, by rw [e]; dsimp only; exact hP3, (hk1.trans hk2).trans hk3, rfl⟩)
          · skip
            refine e_iconst (v := 0) (pc := 80) dX4_isOne_80 (by decide) ?_
            exact e_zret (pc := 81) dX4_isOne_81 rfl (by rfl) (Nat.le_refl _) (Nat.le_refl _) (have e : (xlv (xT a) N 3).1 R o = (false, (xE (xT a) N (xlv (xT a) N 2).2 (ynx (xT a) N R.2.1) o).2) := (by rw [xlv_oS]; simp only [xone]; rw [if_neg (show ¬ -6 ≤ xtk1 R by rw [← ht]; exact Int32.not_le.mpr c_6), if_pos (show xtk1 R = -20 by rw [← ht]; exact c_54), if_pos (mc_b1.mp c_68), if_neg (show ¬ xtk1 (xE (xT a) N (xlv (xT a) N 2).2 (ynx (xT a) N R.2.1) o).2.1 = -21 by rw [← hP2.2.2.1]; exact c_77)]); ⟨by rw [e]; rfl, u2, c2, by rw [e]; dsimp only; exact hP2, hk1.trans hk2, rfl⟩)
    · skip
      refine e_aloadn (pc := 32) dX4_isOne_32 rfl ?_
      refine e_get (pc := 33) dX4_isOne_33 fX4_41 rfl rfl ?_
      refine e_bipush (v := -20) (pc := 36) dX4_isOne_36 (by decide) ?_
      refine e_icmp_ne (pc := 38) dX4_isOne_38 (t := 46) (by decide) (fun c_38 => ?_) (fun c_38 => ?_)
      · skip
        refine e_iconst (v := 0) (pc := 46) dX4_isOne_46 (by decide) ?_
        exact e_zret (pc := 47) dX4_isOne_47 rfl (by rfl) (Nat.le_refl _) (Nat.le_refl _) (have e : (xlv (xT a) N 3).1 R o = (false, R, o) := (by rw [xlv_oS]; simp only [xone]; rw [if_neg (show ¬ -6 ≤ xtk1 R by rw [← ht]; exact Int32.not_le.mpr c_6), if_neg (show ¬ xtk1 R = -20 by rw [← ht]; exact c_38), if_neg (show ¬ xtk1 R = -17 by rw [← ht]; exact c_29)]); ⟨by rw [e]; rfl, u, c, by rw [e]; dsimp only; exact hP, xPK_refl u c, rfl⟩)
      · skip
        refine e_iloadn (pc := 41) dX4_isOne_41 rfl ?_
        refine e_iconst (v := 5) (pc := 42) dX4_isOne_42 (by decide) ?_
        refine e_icmp_lt (pc := 43) dX4_isOne_43 (t := 48) (by decide) (fun _ => ?_) (fun c_43 => absurd (by decide) c_43)
        refine e_aloadn (pc := 48) dX4_isOne_48 rfl ?_
        refine e_get (pc := 49) dX4_isOne_49 fX4_41 rfl rfl ?_
        refine e_bipush (v := -20) (pc := 52) dX4_isOne_52 (by decide) ?_
        refine e_icmp_ne (pc := 54) dX4_isOne_54 (t := 88) (by decide) (fun c_54 => ?_) (fun c_54 => ?_)
        · skip
          refine e_aloadn (pc := 88) dX4_isOne_88 rfl ?_
          refine e_cvY (pc := 89) (sp_x_goOnP hL hN hN1 hP) dX4_isOne_89 kX4_28 rfl rfl rfl rfl rfl (mc_CR_of (Nat.le_of_ble_eq_true rfl) (Nat.le_of_ble_eq_true rfl) (Nat.le_refl _) (Nat.le_refl _)) (Nat.le_of_ble_eq_true rfl) (fun w1 hw1 => ?_)
          obtain ⟨u1, c1, hP1, hk1, rfl⟩ := hw1
          refine e_aloadn (pc := 92) dX4_isOne_92 rfl ?_
          refine e_iloadn (pc := 93) dX4_isOne_93 rfl ?_
          refine e_iconst (v := 1) (pc := 94) dX4_isOne_94 (by decide) ?_
          refine e_iadd (pc := 95) dX4_isOne_95 ?_
          refine e_top (y := 3) (by decide) ?_
          refine e_cvX (pc := 96) (sp_x_one2 hL hN hN1 hP1) dX4_isOne_96 kX4_89 rfl rfl rfl rfl rfl (mc_CR_of (Nat.le_of_ble_eq_true rfl) (Nat.le_of_ble_eq_true rfl) (Nat.le_refl _) (Nat.le_refl _)) (Nat.le_of_ble_eq_true rfl) (fun w1 hw1 => ?_)
          obtain ⟨u2, c2, hP2, hk2, rfl⟩ := hw1
          refine e_if_ne (pc := 99) dX4_isOne_99 (t := 104) (by decide) (fun c_99 => ?_) (fun c_99 => ?_)
          · skip
            refine e_aloadn (pc := 104) dX4_isOne_104 rfl ?_
            refine e_bipush (v := -19) (pc := 105) dX4_isOne_105 (by decide) ?_
            refine e_cvY (pc := 107) (sp_x_putP hP2) dX4_isOne_107 kX4_76 rfl rfl rfl rfl rfl (mc_CR_of (Nat.le_of_ble_eq_true rfl) (Nat.le_of_ble_eq_true rfl) (Nat.le_refl _) (Nat.le_refl _)) (Nat.le_of_ble_eq_true rfl) (fun w1 hw1 => ?_)
            obtain ⟨u3, c3, hP3, hk3, rfl⟩ := hw1
            refine e_iconst (v := 1) (pc := 110) dX4_isOne_110 (by decide) ?_
            exact e_zret (pc := 111) dX4_isOne_111 rfl (by rfl) (Nat.le_refl _) (Nat.le_refl _) (have e : (xlv (xT a) N 3).1 R o = (true, ((xlv (xT a) N 2).1 (ynx (xT a) N R.2.1) o).2.1, xput ((xlv (xT a) N 2).1 (ynx (xT a) N R.2.1) o).2.2 (-19)) := (by rw [xlv_oS]; simp only [xone]; rw [if_neg (show ¬ -6 ≤ xtk1 R by rw [← ht]; exact Int32.not_le.mpr c_6), if_neg (show ¬ xtk1 R = -20 by rw [← ht]; exact c_54), if_pos (show xtk1 R = -17 from absurd (show u 2 = -20 from c_38) c_54), if_pos (mc_b1.mp c_99)]); ⟨by rw [e]; rfl, u3, c3, by rw [e]; dsimp only; exact hP3, (hk1.trans hk2).trans hk3, rfl⟩)
          · skip
            refine e_iconst (v := 0) (pc := 102) dX4_isOne_102 (by decide) ?_
            exact e_zret (pc := 103) dX4_isOne_103 rfl (by rfl) (Nat.le_refl _) (Nat.le_refl _) (have e : (xlv (xT a) N 3).1 R o = (false, ((xlv (xT a) N 2).1 (ynx (xT a) N R.2.1) o).2) := (by rw [xlv_oS]; simp only [xone]; rw [if_neg (show ¬ -6 ≤ xtk1 R by rw [← ht]; exact Int32.not_le.mpr c_6), if_neg (show ¬ xtk1 R = -20 by rw [← ht]; exact c_54), if_pos (show xtk1 R = -17 from absurd (show u 2 = -20 from c_38) c_54), if_neg (show ¬ ((xlv (xT a) N 2).1 (ynx (xT a) N R.2.1) o).1 = true by rw [mc_b0.mp c_99]; decide)]); ⟨by rw [e]; rfl, u2, c2, by rw [e]; dsimp only; exact hP2, hk1.trans hk2, rfl⟩)
        · skip
          refine e_aloadn (pc := 57) dX4_isOne_57 rfl ?_
          refine e_cvY (pc := 58) (sp_x_goOnP hL hN hN1 hP) dX4_isOne_58 kX4_28 rfl rfl rfl rfl rfl (mc_CR_of (Nat.le_of_ble_eq_true rfl) (Nat.le_of_ble_eq_true rfl) (Nat.le_refl _) (Nat.le_refl _)) (Nat.le_of_ble_eq_true rfl) (fun w1 hw1 => ?_)
          obtain ⟨u1, c1, hP1, hk1, rfl⟩ := hw1
          refine e_aloadn (pc := 61) dX4_isOne_61 rfl ?_
          refine e_iloadn (pc := 62) dX4_isOne_62 rfl ?_
          refine e_iconst (v := 1) (pc := 63) dX4_isOne_63 (by decide) ?_
          refine e_iadd (pc := 64) dX4_isOne_64 ?_
          refine e_top (y := 3) (by decide) ?_
          refine e_cvX (pc := 65) (sp_x_E2 hL hN hN1 hP1) dX4_isOne_65 kX4_70 rfl rfl rfl rfl rfl (mc_CR_of (Nat.le_of_ble_eq_true rfl) (Nat.le_of_ble_eq_true rfl) (Nat.le_refl _) (Nat.le_refl _)) (Nat.le_of_ble_eq_true rfl) (fun w1 hw1 => ?_)
          obtain ⟨u2, c2, hP2, hk2, rfl⟩ := hw1
          refine e_if_eq (pc := 68) dX4_isOne_68 (t := 80) (by decide) (fun c_68 => ?_) (fun c_68 => ?_)
          · skip
            refine e_iconst (v := 0) (pc := 80) dX4_isOne_80 (by decide) ?_
            exact e_zret (pc := 81) dX4_isOne_81 rfl (by rfl) (Nat.le_refl _) (Nat.le_refl _) (have e : (xlv (xT a) N 3).1 R o = (false, (xE (xT a) N (xlv (xT a) N 2).2 (ynx (xT a) N R.2.1) o).2) := (by rw [xlv_oS]; simp only [xone]; rw [if_neg (show ¬ -6 ≤ xtk1 R by rw [← ht]; exact Int32.not_le.mpr c_6), if_pos (show xtk1 R = -20 by rw [← ht]; exact c_54), if_neg (show ¬ (xE (xT a) N (xlv (xT a) N 2).2 (ynx (xT a) N R.2.1) o).1 = true by rw [mc_b0.mp c_68]; decide)]); ⟨by rw [e]; rfl, u2, c2, by rw [e]; dsimp only; exact hP2, hk1.trans hk2, rfl⟩)
          · skip
            refine e_aloadn (pc := 71) dX4_isOne_71 rfl ?_
            refine e_get (pc := 72) dX4_isOne_72 fX4_41 rfl rfl ?_
            refine e_bipush (v := -21) (pc := 75) dX4_isOne_75 (by decide) ?_
            refine e_icmp_eq (pc := 77) dX4_isOne_77 (t := 82) (by decide) (fun c_77 => ?_) (fun c_77 => ?_)
            · skip
              refine e_aloadn (pc := 82) dX4_isOne_82 rfl ?_
              refine e_cvY (pc := 83) (sp_x_goOnP hL hN hN1 hP2) dX4_isOne_83 kX4_28 rfl rfl rfl rfl rfl (mc_CR_of (Nat.le_of_ble_eq_true rfl) (Nat.le_of_ble_eq_true rfl) (Nat.le_refl _) (Nat.le_refl _)) (Nat.le_of_ble_eq_true rfl) (fun w1 hw1 => ?_)
              obtain ⟨u3, c3, hP3, hk3, rfl⟩ := hw1
              refine e_iconst (v := 1) (pc := 86) dX4_isOne_86 (by decide) ?_
              exact e_zret (pc := 87) dX4_isOne_87 rfl (by rfl) (Nat.le_refl _) (Nat.le_refl _) (have e : (xlv (xT a) N 3).1 R o = (true, ynx (xT a) N (xE (xT a) N (xlv (xT a) N 2).2 (ynx (xT a) N R.2.1) o).2.1.2.1, (xE (xT a) N (xlv (xT a) N 2).2 (ynx (xT a) N R.2.1) o).2.2) := (by rw [xlv_oS]; simp only [xone]; rw [if_neg (show ¬ -6 ≤ xtk1 R by rw [← ht]; exact Int32.not_le.mpr c_6), if_pos (show xtk1 R = -20 by rw [← ht]; exact c_54), if_pos (mc_b1.mp c_68), if_pos (show xtk1 (xE (xT a) N (xlv (xT a) N 2).2 (ynx (xT a) N R.2.1) o).2.1 = -21 by rw [← hP2.2.2.1]; exact c_77)]); ⟨by rw [e]; rfl, u3, c3, by rw [e]; dsimp only; exact hP3, (hk1.trans hk2).trans hk3, rfl⟩)
            · skip
              refine e_iconst (v := 0) (pc := 80) dX4_isOne_80 (by decide) ?_
              exact e_zret (pc := 81) dX4_isOne_81 rfl (by rfl) (Nat.le_refl _) (Nat.le_refl _) (have e : (xlv (xT a) N 3).1 R o = (false, (xE (xT a) N (xlv (xT a) N 2).2 (ynx (xT a) N R.2.1) o).2) := (by rw [xlv_oS]; simp only [xone]; rw [if_neg (show ¬ -6 ≤ xtk1 R by rw [← ht]; exact Int32.not_le.mpr c_6), if_pos (show xtk1 R = -20 by rw [← ht]; exact c_54), if_pos (mc_b1.mp c_68), if_neg (show ¬ xtk1 (xE (xT a) N (xlv (xT a) N 2).2 (ynx (xT a) N R.2.1) o).2.1 = -21 by rw [← hP2.2.2.1]; exact c_77)]); ⟨by rw [e]; rfl, u2, c2, by rw [e]; dsimp only; exact hP2, hk1.trans hk2, rfl⟩)
  · skip
    refine e_aloadn (pc := 9) dX4_isOne_9 rfl ?_
    refine e_aloadn (pc := 10) dX4_isOne_10 rfl ?_
    refine e_get (pc := 11) dX4_isOne_11 fX4_41 rfl rfl ?_
    refine e_cvY (pc := 14) (sp_x_putP hP) dX4_isOne_14 kX4_76 rfl rfl rfl rfl rfl (mc_CR_of (Nat.le_of_ble_eq_true rfl) (Nat.le_of_ble_eq_true rfl) (Nat.le_refl _) (Nat.le_refl _)) (Nat.le_of_ble_eq_true rfl) (fun w1 hw1 => ?_)
    obtain ⟨u1, c1, hP1, hk1, rfl⟩ := hw1
    rw [ht] at hP1
    refine e_aloadn (pc := 17) dX4_isOne_17 rfl ?_
    refine e_cvY (pc := 18) (sp_x_goOnP hL hN hN1 hP1) dX4_isOne_18 kX4_28 rfl rfl rfl rfl rfl (mc_CR_of (Nat.le_of_ble_eq_true rfl) (Nat.le_of_ble_eq_true rfl) (Nat.le_refl _) (Nat.le_refl _)) (Nat.le_of_ble_eq_true rfl) (fun w1 hw1 => ?_)
    obtain ⟨u2, c2, hP2, hk2, rfl⟩ := hw1
    refine e_iconst (v := 1) (pc := 21) dX4_isOne_21 (by decide) ?_
    exact e_zret (pc := 22) dX4_isOne_22 rfl (by rfl) (Nat.le_refl _) (Nat.le_refl _) (have e : (xlv (xT a) N 3).1 R o = (true, ynx (xT a) N R.2.1, xput o (xtk1 R)) := (by rw [xlv_oS]; unfold xone; rw [if_pos (show -6 ≤ xtk1 R by rw [← ht]; exact Int32.not_lt.mp c_6)]); ⟨by rw [e]; rfl, u2, c2, by rw [e]; dsimp only; exact hP2, hk1.trans hk2, rfl⟩)
theorem lp_x_term3 {s m n : Nat → Int32} {a b d : Nat → List Int32} {q : List (Option Nat)} {h : Nat} {z : mc_W} (hL : xL a) {N : Nat} (hN : s 5 = nI N) (hN1 : N ≤ 160) {ub : Nat → Int32} {cb : Nat → List Int32} {V : Bool × xR × List Int32} :
    ∀ (f i : Nat) (R : xR) (o : List Int32) (u : Nat → Int32) (c : Nat → List Int32), i + f = 160 → xPS N R o u c → xPK ub u cb c → xlp (xT a) N (xlv (xT a) N 3).1 xM18 f R o = V →
      mc_E RX4 cX4_isTerm 3 (mc_JM (some .boolean) false 27 0 0 (fun r' w' => r' = some (.int (mc_b V.1)) ∧ ∃ u1 c1, xPS N V.2.1 V.2.2 u1 c1 ∧ xPK ub u1 cb c1 ∧ w' = (WW s a q u1 c1 h m b n d z))) 12 [some (.ref 6), some (.int 2), some (.int (nI i))] [] (WW s a q u c h m b n d z) 0 0 := by
  intro f
  induction f with
  | zero =>
    intro i R o u c hi hP hkb hV
    have e : i = 160 := by omega
    subst e
    simp only [xlp] at hV
    subst hV
    refine e_iloadn (pc := 12) dX4_isTerm_12 rfl ?_
    refine e_sipush (v := 160) (pc := 13) dX4_isTerm_13 (by decide) ?_
    refine e_icmp_ge (pc := 16) dX4_isTerm_16 (t := 54) (by decide) (fun _ => ?_) (fun c_16 => absurd (by decide) c_16)
    refine e_iconst (v := 1) (pc := 54) dX4_isTerm_54 (by decide) ?_
    exact e_zret (pc := 55) dX4_isTerm_55 rfl (by rfl) (Nat.le_refl _) (Nat.le_refl _) ⟨rfl, u, c, hP, hkb, rfl⟩
  | succ f ih =>
    intro i R o u c hi hP hkb hV
    simp only [xlp] at hV
    have hi1 : i < 160 := by omega
    have ht := hP.2.2.1
    refine e_iloadn (pc := 12) dX4_isTerm_12 rfl ?_
    refine e_sipush (v := 160) (pc := 13) dX4_isTerm_13 (by decide) ?_
    refine e_icmp_ge (pc := 16) dX4_isTerm_16 (t := 54) (by decide) (fun c_16 => absurd c_16 (nI_ge hi1 (by decide))) (fun _ => ?_)
    refine e_aloadn (pc := 19) dX4_isTerm_19 rfl ?_
    refine e_get (pc := 20) dX4_isTerm_20 fX4_41 rfl rfl ?_
    refine e_bipush (v := -18) (pc := 23) dX4_isTerm_23 (by decide) ?_
    refine e_icmp_ne (pc := 25) dX4_isTerm_25 (t := 54) (by decide) (fun c_25 => ?_) (fun c_25 => ?_)
    · skip
      refine e_iconst (v := 1) (pc := 54) dX4_isTerm_54 (by decide) ?_
      exact e_zret (pc := 55) dX4_isTerm_55 rfl (by rfl) (Nat.le_refl _) (Nat.le_refl _) ⟨by rw [← hV, if_neg (show ¬ xM18 (xtk1 R) = true by rw [← ht]; unfold xM18; simp [c_25])]; rfl, u, c, by rw [← hV, if_neg (show ¬ xM18 (xtk1 R) = true by rw [← ht]; unfold xM18; simp [c_25])]; exact hP, hkb, rfl⟩
    · skip
      refine e_aloadn (pc := 28) dX4_isTerm_28 rfl ?_
      refine e_cvY (pc := 29) (sp_x_goOnP hL hN hN1 hP) dX4_isTerm_29 kX4_28 rfl rfl rfl rfl rfl (mc_CR_of (Nat.le_of_ble_eq_true rfl) (Nat.le_of_ble_eq_true rfl) (Nat.le_refl _) (Nat.le_refl _)) (Nat.le_of_ble_eq_true rfl) (fun w1 hw1 => ?_)
      obtain ⟨u1, c1, hP1, hk1, rfl⟩ := hw1
      refine e_aloadn (pc := 32) dX4_isTerm_32 rfl ?_
      refine e_iloadn (pc := 33) dX4_isTerm_33 rfl ?_
      refine e_cvX (pc := 34) (sp_x_one3 hL hN hN1 hP1) dX4_isTerm_34 kX4_89 rfl rfl rfl rfl rfl (mc_CR_of (Nat.le_of_ble_eq_true rfl) (Nat.le_of_ble_eq_true rfl) (Nat.le_refl _) (Nat.le_refl _)) (Nat.le_of_ble_eq_true rfl) (fun w1 hw1 => ?_)
      obtain ⟨u2, c2, hP2, hk2, rfl⟩ := hw1
      refine e_if_ne (pc := 37) dX4_isTerm_37 (t := 42) (by decide) (fun c_37 => ?_) (fun c_37 => ?_)
      · skip
        refine e_aloadn (pc := 42) dX4_isTerm_42 rfl ?_
        refine e_bipush (v := -18) (pc := 43) dX4_isTerm_43 (by decide) ?_
        refine e_cvY (pc := 45) (sp_x_putP hP2) dX4_isTerm_45 kX4_76 rfl rfl rfl rfl rfl (mc_CR_of (Nat.le_of_ble_eq_true rfl) (Nat.le_of_ble_eq_true rfl) (Nat.le_refl _) (Nat.le_refl _)) (Nat.le_of_ble_eq_true rfl) (fun w1 hw1 => ?_)
        obtain ⟨u3, c3, hP3, hk3, rfl⟩ := hw1
        refine e_incC2 (pc := 48) dX4_isTerm_48 (nI_1 i) (Nat.le_of_ble_eq_true rfl) rfl ?_
        refine e_goto (pc := 51) dX4_isTerm_51 (t := 12) (by decide) ?_
        exact ih (i + 1) _ _ _ _ (by omega) (by rw [show (-18 : Int32) = xtk1 R from by rw [← ht, c_25]] at hP3; exact hP3) (((hkb.trans hk1).trans hk2).trans hk3) (by rw [← hV, if_pos (show xM18 (xtk1 R) = true by rw [← ht, c_25]; decide), if_pos (mc_b1.mp c_37)])
      · skip
        refine e_iconst (v := 0) (pc := 40) dX4_isTerm_40 (by decide) ?_
        exact e_zret (pc := 41) dX4_isTerm_41 rfl (by rfl) (Nat.le_refl _) (Nat.le_refl _) ⟨by rw [← hV, if_pos (show xM18 (xtk1 R) = true by rw [← ht, c_25]; decide), if_neg (show ¬ ((xlv (xT a) N 3).1 (ynx (xT a) N R.2.1) o).1 = true by rw [mc_b0.mp c_37]; decide)]; rfl, u2, c2, by rw [← hV, if_pos (show xM18 (xtk1 R) = true by rw [← ht, c_25]; decide), if_neg (show ¬ ((xlv (xT a) N 3).1 (ynx (xT a) N R.2.1) o).1 = true by rw [mc_b0.mp c_37]; decide)]; exact hP2, (hkb.trans hk1).trans hk2, rfl⟩
theorem sp_x_term3 {s u m n : Nat → Int32} {a c b d : Nat → List Int32} {q : List (Option Nat)} {h : Nat} {z : mc_W} (hL : xL a) {N : Nat} (hN : s 5 = nI N) (hN1 : N ≤ 160) {R : xR} {o : List Int32} (hP : xPS N R o u c) : mc_T yX4_isTerm cX4_isTerm 3 (some .boolean) 27 [.ref 6, .int 2] (WW s a q u c h m b n d z) (some (.int (mc_b (xterm (xT a) N (xlv (xT a) N 3).1 R o).1))) (fun w1 => ∃ u1 c1, xPS N (xterm (xT a) N (xlv (xT a) N 3).1 R o).2.1 (xterm (xT a) N (xlv (xT a) N 3).1 R o).2.2 u1 c1 ∧ xPK u u1 c c1 ∧ w1 = (WW s a q u1 c1 h m b n d z)) := by
  refine mc_start (own := RX4) (ini := false) rfl (by decide +kernel) (fun h => by cases h) (Nat.le_of_ble_eq_true rfl) ?_
  show mc_E _ _ _ _ _ [some (.ref 6), some (.int 2), none] [] _ _ _
  refine e_aloadn (pc := 0) dX4_isTerm_0 rfl ?_
  refine e_iloadn (pc := 1) dX4_isTerm_1 rfl ?_
  refine e_cvX (pc := 2) (sp_x_one3 hL hN hN1 hP) dX4_isTerm_2 kX4_89 rfl rfl rfl rfl rfl (mc_CR_of (Nat.le_of_ble_eq_true rfl) (Nat.le_of_ble_eq_true rfl) (Nat.le_refl _) (Nat.le_refl _)) (Nat.le_of_ble_eq_true rfl) (fun w1 hw1 => ?_)
  obtain ⟨u1, c1, hP1, hk1, rfl⟩ := hw1
  refine e_if_ne (pc := 5) dX4_isTerm_5 (t := 10) (by decide) (fun c_5 => ?_) (fun c_5 => ?_)
  · skip
    refine e_iconst (v := 0) (pc := 10) dX4_isTerm_10 (by decide) ?_
    refine e_isn2 (pc := 11) dX4_isTerm_11 (Nat.le_of_ble_eq_true rfl) rfl ?_
    have e : xterm (xT a) N (xlv (xT a) N 3).1 R o = xlp (xT a) N (xlv (xT a) N 3).1 xM18 160 ((xlv (xT a) N 3).1 R o).2.1 ((xlv (xT a) N 3).1 R o).2.2 := if_pos (mc_b1.mp c_5)
    rw [e]
    exact lp_x_term3 hL hN hN1 160 0 _ _ u1 c1 (by omega) hP1 hk1 rfl
  · skip
    refine e_iconst (v := 0) (pc := 8) dX4_isTerm_8 (by decide) ?_
    exact e_zret (pc := 9) dX4_isTerm_9 rfl (by rfl) (Nat.le_refl _) (Nat.le_refl _) (have e : xterm (xT a) N (xlv (xT a) N 3).1 R o = (false, ((xlv (xT a) N 3).1 R o).2) := if_neg (show ¬ ((xlv (xT a) N 3).1 R o).1 = true by rw [mc_b0.mp c_5]; decide); ⟨by rw [e]; rfl, u1, c1, by rw [e]; dsimp only; exact hP1, hk1, rfl⟩)
theorem lp_x_sum3 {s m n : Nat → Int32} {a b d : Nat → List Int32} {q : List (Option Nat)} {h : Nat} {z : mc_W} (hL : xL a) {N : Nat} (hN : s 5 = nI N) (hN1 : N ≤ 160) {ub : Nat → Int32} {cb : Nat → List Int32} {V : Bool × xR × List Int32} :
    ∀ (f i : Nat) (R : xR) (o : List Int32) (u : Nat → Int32) (c : Nat → List Int32) (x3 : Option Value), i + f = 160 → xPS N R o u c → xPK ub u cb c → xlp (xT a) N (xterm (xT a) N (xlv (xT a) N 3).1) xM16 f R o = V →
      mc_E RX4 cX4_isSum 4 (mc_JM (some .boolean) false 28 0 0 (fun r' w' => r' = some (.int (mc_b V.1)) ∧ ∃ u1 c1, xPS N V.2.1 V.2.2 u1 c1 ∧ xPK ub u1 cb c1 ∧ w' = (WW s a q u1 c1 h m b n d z))) 12 [some (.ref 6), some (.int 2), some (.int (nI i)), x3] [] (WW s a q u c h m b n d z) 0 0 := by
  intro f
  induction f with
  | zero =>
    intro i R o u c x3 hi hP hkb hV
    have e : i = 160 := by omega
    subst e
    simp only [xlp] at hV
    subst hV
    refine e_iloadn (pc := 12) dX4_isSum_12 rfl ?_
    refine e_sipush (v := 160) (pc := 13) dX4_isSum_13 (by decide) ?_
    refine e_icmp_ge (pc := 16) dX4_isSum_16 (t := 67) (by decide) (fun _ => ?_) (fun c_16 => absurd (by decide) c_16)
    refine e_iconst (v := 1) (pc := 67) dX4_isSum_67 (by decide) ?_
    exact e_zret (pc := 68) dX4_isSum_68 rfl (by rfl) (Nat.le_refl _) (Nat.le_refl _) ⟨rfl, u, c, hP, hkb, rfl⟩
  | succ f ih =>
    intro i R o u c x3 hi hP hkb hV
    simp only [xlp] at hV
    have hi1 : i < 160 := by omega
    have ht := hP.2.2.1
    refine e_iloadn (pc := 12) dX4_isSum_12 rfl ?_
    refine e_sipush (v := 160) (pc := 13) dX4_isSum_13 (by decide) ?_
    refine e_icmp_ge (pc := 16) dX4_isSum_16 (t := 67) (by decide) (fun c_16 => absurd c_16 (nI_ge hi1 (by decide))) (fun _ => ?_)
    refine e_aloadn (pc := 19) dX4_isSum_19 rfl ?_
    refine e_get (pc := 20) dX4_isSum_20 fX4_41 rfl rfl ?_
    refine e_bipush (v := -16) (pc := 23) dX4_isSum_23 (by decide) ?_
    refine e_icmp_eq (pc := 25) dX4_isSum_25 (t := 37) (by decide) (fun c_25 => ?_) (fun c_25 => ?_)
    · skip
      refine e_aloadn (pc := 37) dX4_isSum_37 rfl ?_
      refine e_get (pc := 38) dX4_isSum_38 fX4_41 rfl rfl ?_
      refine e_isn3 (pc := 41) dX4_isSum_41 (Nat.le_of_ble_eq_true rfl) rfl ?_
      refine e_aloadn (pc := 42) dX4_isSum_42 rfl ?_
      refine e_cvY (pc := 43) (sp_x_goOnP hL hN hN1 hP) dX4_isSum_43 kX4_28 rfl rfl rfl rfl rfl (mc_CR_of (Nat.le_of_ble_eq_true rfl) (Nat.le_of_ble_eq_true rfl) (Nat.le_refl _) (Nat.le_refl _)) (Nat.le_of_ble_eq_true rfl) (fun w1 hw1 => ?_)
      obtain ⟨u1, c1, hP1, hk1, rfl⟩ := hw1
      refine e_aloadn (pc := 46) dX4_isSum_46 rfl ?_
      refine e_iloadn (pc := 47) dX4_isSum_47 rfl ?_
      refine e_cvX (pc := 48) (sp_x_term3 hL hN hN1 hP1) dX4_isSum_48 kX4_86 rfl rfl rfl rfl rfl (mc_CR_of (Nat.le_of_ble_eq_true rfl) (Nat.le_of_ble_eq_true rfl) (Nat.le_refl _) (Nat.le_refl _)) (Nat.le_of_ble_eq_true rfl) (fun w1 hw1 => ?_)
      obtain ⟨u2, c2, hP2, hk2, rfl⟩ := hw1
      refine e_if_ne (pc := 51) dX4_isSum_51 (t := 56) (by decide) (fun c_51 => ?_) (fun c_51 => ?_)
      · skip
        refine e_aloadn (pc := 56) dX4_isSum_56 rfl ?_
        refine e_iloadn (pc := 57) dX4_isSum_57 rfl ?_
        refine e_cvY (pc := 58) (sp_x_putP hP2) dX4_isSum_58 kX4_76 rfl rfl rfl rfl rfl (mc_CR_of (Nat.le_of_ble_eq_true rfl) (Nat.le_of_ble_eq_true rfl) (Nat.le_refl _) (Nat.le_refl _)) (Nat.le_of_ble_eq_true rfl) (fun w1 hw1 => ?_)
        obtain ⟨u3, c3, hP3, hk3, rfl⟩ := hw1
        refine e_incC2 (pc := 61) dX4_isSum_61 (nI_1 i) (Nat.le_of_ble_eq_true rfl) rfl ?_
        refine e_goto (pc := 64) dX4_isSum_64 (t := 12) (by decide) ?_
        exact ih (i + 1) _ _ _ _ _ (by omega) (by rw [show u 2 = xtk1 R from ht] at hP3; exact hP3) (((hkb.trans hk1).trans hk2).trans hk3) (by rw [← hV, if_pos (show xM16 (xtk1 R) = true by rw [← ht, c_25]; decide), if_pos (mc_b1.mp c_51)])
      · skip
        refine e_iconst (v := 0) (pc := 54) dX4_isSum_54 (by decide) ?_
        exact e_zret (pc := 55) dX4_isSum_55 rfl (by rfl) (Nat.le_refl _) (Nat.le_refl _) ⟨by rw [← hV, if_pos (show xM16 (xtk1 R) = true by rw [← ht, c_25]; decide), if_neg (show ¬ ((xterm (xT a) N (xlv (xT a) N 3).1) (ynx (xT a) N R.2.1) o).1 = true by rw [mc_b0.mp c_51]; decide)]; rfl, u2, c2, by rw [← hV, if_pos (show xM16 (xtk1 R) = true by rw [← ht, c_25]; decide), if_neg (show ¬ ((xterm (xT a) N (xlv (xT a) N 3).1) (ynx (xT a) N R.2.1) o).1 = true by rw [mc_b0.mp c_51]; decide)]; exact hP2, (hkb.trans hk1).trans hk2, rfl⟩
    · skip
      refine e_aloadn (pc := 28) dX4_isSum_28 rfl ?_
      refine e_get (pc := 29) dX4_isSum_29 fX4_41 rfl rfl ?_
      refine e_bipush (v := -17) (pc := 32) dX4_isSum_32 (by decide) ?_
      refine e_icmp_ne (pc := 34) dX4_isSum_34 (t := 67) (by decide) (fun c_34 => ?_) (fun c_34 => ?_)
      · skip
        refine e_iconst (v := 1) (pc := 67) dX4_isSum_67 (by decide) ?_
        exact e_zret (pc := 68) dX4_isSum_68 rfl (by rfl) (Nat.le_refl _) (Nat.le_refl _) ⟨by rw [← hV, if_neg (show ¬ xM16 (xtk1 R) = true by rw [← ht]; unfold xM16; simp [c_25, c_34])]; rfl, u, c, by rw [← hV, if_neg (show ¬ xM16 (xtk1 R) = true by rw [← ht]; unfold xM16; simp [c_25, c_34])]; exact hP, hkb, rfl⟩
      · skip
        refine e_aloadn (pc := 37) dX4_isSum_37 rfl ?_
        refine e_get (pc := 38) dX4_isSum_38 fX4_41 rfl rfl ?_
        refine e_isn3 (pc := 41) dX4_isSum_41 (Nat.le_of_ble_eq_true rfl) rfl ?_
        refine e_aloadn (pc := 42) dX4_isSum_42 rfl ?_
        refine e_cvY (pc := 43) (sp_x_goOnP hL hN hN1 hP) dX4_isSum_43 kX4_28 rfl rfl rfl rfl rfl (mc_CR_of (Nat.le_of_ble_eq_true rfl) (Nat.le_of_ble_eq_true rfl) (Nat.le_refl _) (Nat.le_refl _)) (Nat.le_of_ble_eq_true rfl) (fun w1 hw1 => ?_)
        obtain ⟨u1, c1, hP1, hk1, rfl⟩ := hw1
        refine e_aloadn (pc := 46) dX4_isSum_46 rfl ?_
        refine e_iloadn (pc := 47) dX4_isSum_47 rfl ?_
        refine e_cvX (pc := 48) (sp_x_term3 hL hN hN1 hP1) dX4_isSum_48 kX4_86 rfl rfl rfl rfl rfl (mc_CR_of (Nat.le_of_ble_eq_true rfl) (Nat.le_of_ble_eq_true rfl) (Nat.le_refl _) (Nat.le_refl _)) (Nat.le_of_ble_eq_true rfl) (fun w1 hw1 => ?_)
        obtain ⟨u2, c2, hP2, hk2, rfl⟩ := hw1
        refine e_if_ne (pc := 51) dX4_isSum_51 (t := 56) (by decide) (fun c_51 => ?_) (fun c_51 => ?_)
        · skip
          refine e_aloadn (pc := 56) dX4_isSum_56 rfl ?_
          refine e_iloadn (pc := 57) dX4_isSum_57 rfl ?_
          refine e_cvY (pc := 58) (sp_x_putP hP2) dX4_isSum_58 kX4_76 rfl rfl rfl rfl rfl (mc_CR_of (Nat.le_of_ble_eq_true rfl) (Nat.le_of_ble_eq_true rfl) (Nat.le_refl _) (Nat.le_refl _)) (Nat.le_of_ble_eq_true rfl) (fun w1 hw1 => ?_)
          obtain ⟨u3, c3, hP3, hk3, rfl⟩ := hw1
          refine e_incC2 (pc := 61) dX4_isSum_61 (nI_1 i) (Nat.le_of_ble_eq_true rfl) rfl ?_
          refine e_goto (pc := 64) dX4_isSum_64 (t := 12) (by decide) ?_
          exact ih (i + 1) _ _ _ _ _ (by omega) (by rw [show u 2 = xtk1 R from ht] at hP3; exact hP3) (((hkb.trans hk1).trans hk2).trans hk3) (by rw [← hV, if_pos (show xM16 (xtk1 R) = true by rw [← ht, c_34]; decide), if_pos (mc_b1.mp c_51)])
        · skip
          refine e_iconst (v := 0) (pc := 54) dX4_isSum_54 (by decide) ?_
          exact e_zret (pc := 55) dX4_isSum_55 rfl (by rfl) (Nat.le_refl _) (Nat.le_refl _) ⟨by rw [← hV, if_pos (show xM16 (xtk1 R) = true by rw [← ht, c_34]; decide), if_neg (show ¬ ((xterm (xT a) N (xlv (xT a) N 3).1) (ynx (xT a) N R.2.1) o).1 = true by rw [mc_b0.mp c_51]; decide)]; rfl, u2, c2, by rw [← hV, if_pos (show xM16 (xtk1 R) = true by rw [← ht, c_34]; decide), if_neg (show ¬ ((xterm (xT a) N (xlv (xT a) N 3).1) (ynx (xT a) N R.2.1) o).1 = true by rw [mc_b0.mp c_51]; decide)]; exact hP2, (hkb.trans hk1).trans hk2, rfl⟩
theorem sp_x_sum3 {s u m n : Nat → Int32} {a c b d : Nat → List Int32} {q : List (Option Nat)} {h : Nat} {z : mc_W} (hL : xL a) {N : Nat} (hN : s 5 = nI N) (hN1 : N ≤ 160) {R : xR} {o : List Int32} (hP : xPS N R o u c) : mc_T yX4_isSum cX4_isSum 4 (some .boolean) 28 [.ref 6, .int 2] (WW s a q u c h m b n d z) (some (.int (mc_b (xsum (xT a) N (xlv (xT a) N 3).1 R o).1))) (fun w1 => ∃ u1 c1, xPS N (xsum (xT a) N (xlv (xT a) N 3).1 R o).2.1 (xsum (xT a) N (xlv (xT a) N 3).1 R o).2.2 u1 c1 ∧ xPK u u1 c c1 ∧ w1 = (WW s a q u1 c1 h m b n d z)) := by
  refine mc_start (own := RX4) (ini := false) rfl (by decide +kernel) (fun h => by cases h) (Nat.le_of_ble_eq_true rfl) ?_
  show mc_E _ _ _ _ _ [some (.ref 6), some (.int 2), none, none] [] _ _ _
  refine e_aloadn (pc := 0) dX4_isSum_0 rfl ?_
  refine e_iloadn (pc := 1) dX4_isSum_1 rfl ?_
  refine e_cvX (pc := 2) (sp_x_term3 hL hN hN1 hP) dX4_isSum_2 kX4_86 rfl rfl rfl rfl rfl (mc_CR_of (Nat.le_of_ble_eq_true rfl) (Nat.le_of_ble_eq_true rfl) (Nat.le_refl _) (Nat.le_refl _)) (Nat.le_of_ble_eq_true rfl) (fun w1 hw1 => ?_)
  obtain ⟨u1, c1, hP1, hk1, rfl⟩ := hw1
  refine e_if_ne (pc := 5) dX4_isSum_5 (t := 10) (by decide) (fun c_5 => ?_) (fun c_5 => ?_)
  · skip
    refine e_iconst (v := 0) (pc := 10) dX4_isSum_10 (by decide) ?_
    refine e_isn2 (pc := 11) dX4_isSum_11 (Nat.le_of_ble_eq_true rfl) rfl ?_
    have e : xsum (xT a) N (xlv (xT a) N 3).1 R o = xlp (xT a) N (xterm (xT a) N (xlv (xT a) N 3).1) xM16 160 ((xterm (xT a) N (xlv (xT a) N 3).1) R o).2.1 ((xterm (xT a) N (xlv (xT a) N 3).1) R o).2.2 := if_pos (mc_b1.mp c_5)
    rw [e]
    exact lp_x_sum3 hL hN hN1 160 0 _ _ u1 c1 _ (by omega) hP1 hk1 rfl
  · skip
    refine e_iconst (v := 0) (pc := 8) dX4_isSum_8 (by decide) ?_
    exact e_zret (pc := 9) dX4_isSum_9 rfl (by rfl) (Nat.le_refl _) (Nat.le_refl _) (have e : xsum (xT a) N (xlv (xT a) N 3).1 R o = (false, ((xterm (xT a) N (xlv (xT a) N 3).1) R o).2) := if_neg (show ¬ ((xterm (xT a) N (xlv (xT a) N 3).1) R o).1 = true by rw [mc_b0.mp c_5]; decide); ⟨by rw [e]; rfl, u1, c1, by rw [e]; dsimp only; exact hP1, hk1, rfl⟩)
theorem sp_x_not3 {s u m n : Nat → Int32} {a c b d : Nat → List Int32} {q : List (Option Nat)} {h : Nat} {z : mc_W} (hL : xL a) {N : Nat} (hN : s 5 = nI N) (hN1 : N ≤ 160) {R : xR} {o : List Int32} (hP : xPS N R o u c) : mc_T yX4_isNot cX4_isNot 3 (some .boolean) 29 [.ref 6, .int 2] (WW s a q u c h m b n d z) (some (.int (mc_b ((xlv (xT a) N 3).2 R o).1))) (fun w1 => ∃ u1 c1, xPS N ((xlv (xT a) N 3).2 R o).2.1 ((xlv (xT a) N 3).2 R o).2.2 u1 c1 ∧ xPK u u1 c c1 ∧ w1 = (WW s a q u1 c1 h m b n d z)) := by
  refine mc_start (own := RX4) (ini := false) rfl (by decide +kernel) (fun h => by cases h) (Nat.le_of_ble_eq_true rfl) ?_
  show mc_E _ _ _ _ _ [some (.ref 6), some (.int 2), none] [] _ _ _
  have ht := hP.2.2.1
  refine e_aloadn (pc := 0) dX4_isNot_0 rfl ?_
  refine e_get (pc := 1) dX4_isNot_1 fX4_41 rfl rfl ?_
  refine e_bipush (v := -13) (pc := 4) dX4_isNot_4 (by decide) ?_
  refine e_icmp_ne (pc := 6) dX4_isNot_6 (t := 40) (by decide) (fun c_6 => ?_) (fun c_6 => ?_)
  · skip
    refine e_aloadn (pc := 40) dX4_isNot_40 rfl ?_
    refine e_iloadn (pc := 41) dX4_isNot_41 rfl ?_
    refine e_cvX (pc := 42) (sp_x_sum3 hL hN hN1 hP) dX4_isNot_42 kX4_83 rfl rfl rfl rfl rfl (mc_CR_of (Nat.le_of_ble_eq_true rfl) (Nat.le_of_ble_eq_true rfl) (Nat.le_refl _) (Nat.le_refl _)) (Nat.le_of_ble_eq_true rfl) (fun w1 hw1 => ?_)
    obtain ⟨u1, c1, hP1, hk1, rfl⟩ := hw1
    refine e_if_ne (pc := 45) dX4_isNot_45 (t := 50) (by decide) (fun c_45 => ?_) (fun c_45 => ?_)
    · skip
      refine e_aloadn (pc := 50) dX4_isNot_50 rfl ?_
      refine e_get (pc := 51) dX4_isNot_51 fX4_41 rfl rfl ?_
      refine e_isn2 (pc := 54) dX4_isNot_54 (Nat.le_of_ble_eq_true rfl) rfl ?_
      refine e_iloadn (pc := 55) dX4_isNot_55 rfl ?_
      refine e_bipush (v := -14) (pc := 56) dX4_isNot_56 (by decide) ?_
      refine e_icmp_eq (pc := 58) dX4_isNot_58 (t := 67) (by decide) (fun c_58 => ?_) (fun c_58 => ?_)
      · skip
        refine e_aloadn (pc := 67) dX4_isNot_67 rfl ?_
        refine e_cvY (pc := 68) (sp_x_goOnP hL hN hN1 hP1) dX4_isNot_68 kX4_28 rfl rfl rfl rfl rfl (mc_CR_of (Nat.le_of_ble_eq_true rfl) (Nat.le_of_ble_eq_true rfl) (Nat.le_refl _) (Nat.le_refl _)) (Nat.le_of_ble_eq_true rfl) (fun w1 hw1 => ?_)
        obtain ⟨u2, c2, hP2, hk2, rfl⟩ := hw1
        refine e_aloadn (pc := 71) dX4_isNot_71 rfl ?_
        refine e_iloadn (pc := 72) dX4_isNot_72 rfl ?_
        refine e_cvX (pc := 73) (sp_x_sum3 hL hN hN1 hP2) dX4_isNot_73 kX4_83 rfl rfl rfl rfl rfl (mc_CR_of (Nat.le_of_ble_eq_true rfl) (Nat.le_of_ble_eq_true rfl) (Nat.le_refl _) (Nat.le_refl _)) (Nat.le_of_ble_eq_true rfl) (fun w1 hw1 => ?_)
        obtain ⟨u3, c3, hP3, hk3, rfl⟩ := hw1
        refine e_if_ne (pc := 76) dX4_isNot_76 (t := 81) (by decide) (fun c_76 => ?_) (fun c_76 => ?_)
        · skip
          refine e_aloadn (pc := 81) dX4_isNot_81 rfl ?_
          refine e_iloadn (pc := 82) dX4_isNot_82 rfl ?_
          refine e_cvY (pc := 83) (sp_x_putP hP3) dX4_isNot_83 kX4_76 rfl rfl rfl rfl rfl (mc_CR_of (Nat.le_of_ble_eq_true rfl) (Nat.le_of_ble_eq_true rfl) (Nat.le_refl _) (Nat.le_refl _)) (Nat.le_of_ble_eq_true rfl) (fun w1 hw1 => ?_)
          obtain ⟨u4, c4, hP4, hk4, rfl⟩ := hw1
          refine e_iconst (v := 1) (pc := 86) dX4_isNot_86 (by decide) ?_
          exact e_zret (pc := 87) dX4_isNot_87 rfl (by rfl) (Nat.le_refl _) (Nat.le_refl _) (have e : (xlv (xT a) N 3).2 R o = (true, (xsum (xT a) N (xlv (xT a) N 3).1 (ynx (xT a) N (xsum (xT a) N (xlv (xT a) N 3).1 R o).2.1.2.1) (xsum (xT a) N (xlv (xT a) N 3).1 R o).2.2).2.1, xput (xsum (xT a) N (xlv (xT a) N 3).1 (ynx (xT a) N (xsum (xT a) N (xlv (xT a) N 3).1 R o).2.1.2.1) (xsum (xT a) N (xlv (xT a) N 3).1 R o).2.2).2.2 (xtk1 (xsum (xT a) N (xlv (xT a) N 3).1 R o).2.1)) := (by rw [xlv_nS]; simp only [xnot]; rw [if_neg (show ¬ xtk1 R = -13 by rw [← ht]; exact c_6), if_pos (mc_b1.mp c_45), if_pos (show xM14 (xtk1 (xsum (xT a) N (xlv (xT a) N 3).1 R o).2.1) = true by rw [← hP1.2.2.1, c_58]; decide), if_pos (mc_b1.mp c_76)]); ⟨by rw [e]; rfl, u4, c4, (hP1.2.2.1 ▸ hP4 : xPS N (xsum (xT a) N (xlv (xT a) N 3).1 (ynx (xT a) N (xsum (xT a) N (xlv (xT a) N 3).1 R o).2.1.2.1) (xsum (xT a) N (xlv (xT a) N 3).1 R o).2.2).2.1 (xput (xsum (xT a) N (xlv (xT a) N 3).1 (ynx (xT a) N (xsum (xT a) N (xlv (xT a) N 3).1 R o).2.1.2.1) (xsum (xT a) N (xlv (xT a) N 3).1 R o).2.2).2.2 (xtk1 (xsum (xT a) N (xlv (xT a) N 3).1 R o).2.1)) u4 c4) |> (fun t => by rw [e]; dsimp only; exact t), ((hk1.trans hk2).trans hk3).trans hk4, rfl⟩)
        · skip
          refine e_iconst (v := 0) (pc := 79) dX4_isNot_79 (by decide) ?_
          exact e_zret (pc := 80) dX4_isNot_80 rfl (by rfl) (Nat.le_refl _) (Nat.le_refl _) (have e : (xlv (xT a) N 3).2 R o = (false, (xsum (xT a) N (xlv (xT a) N 3).1 (ynx (xT a) N (xsum (xT a) N (xlv (xT a) N 3).1 R o).2.1.2.1) (xsum (xT a) N (xlv (xT a) N 3).1 R o).2.2).2) := (by rw [xlv_nS]; simp only [xnot]; rw [if_neg (show ¬ xtk1 R = -13 by rw [← ht]; exact c_6), if_pos (mc_b1.mp c_45), if_pos (show xM14 (xtk1 (xsum (xT a) N (xlv (xT a) N 3).1 R o).2.1) = true by rw [← hP1.2.2.1, c_58]; decide), if_neg (show ¬ (xsum (xT a) N (xlv (xT a) N 3).1 (ynx (xT a) N (xsum (xT a) N (xlv (xT a) N 3).1 R o).2.1.2.1) (xsum (xT a) N (xlv (xT a) N 3).1 R o).2.2).1 = true by rw [mc_b0.mp c_76]; decide)]); ⟨by rw [e]; rfl, u3, c3, by rw [e]; dsimp only; exact hP3, (hk1.trans hk2).trans hk3, rfl⟩)
      · skip
        refine e_iloadn (pc := 61) dX4_isNot_61 rfl ?_
        refine e_bipush (v := -15) (pc := 62) dX4_isNot_62 (by decide) ?_
        refine e_icmp_ne (pc := 64) dX4_isNot_64 (t := 86) (by decide) (fun c_64 => ?_) (fun c_64 => ?_)
        · skip
          refine e_iconst (v := 1) (pc := 86) dX4_isNot_86 (by decide) ?_
          exact e_zret (pc := 87) dX4_isNot_87 rfl (by rfl) (Nat.le_refl _) (Nat.le_refl _) (have e : (xlv (xT a) N 3).2 R o = (true, (xsum (xT a) N (xlv (xT a) N 3).1 R o).2) := (by rw [xlv_nS]; simp only [xnot]; rw [if_neg (show ¬ xtk1 R = -13 by rw [← ht]; exact c_6), if_pos (mc_b1.mp c_45), if_neg (show ¬ xM14 (xtk1 (xsum (xT a) N (xlv (xT a) N 3).1 R o).2.1) = true by rw [← hP1.2.2.1]; unfold xM14; simp [c_58, c_64])]); ⟨by rw [e]; rfl, u1, c1, by rw [e]; dsimp only; exact hP1, hk1, rfl⟩)
        · skip
          refine e_aloadn (pc := 67) dX4_isNot_67 rfl ?_
          refine e_cvY (pc := 68) (sp_x_goOnP hL hN hN1 hP1) dX4_isNot_68 kX4_28 rfl rfl rfl rfl rfl (mc_CR_of (Nat.le_of_ble_eq_true rfl) (Nat.le_of_ble_eq_true rfl) (Nat.le_refl _) (Nat.le_refl _)) (Nat.le_of_ble_eq_true rfl) (fun w1 hw1 => ?_)
          obtain ⟨u2, c2, hP2, hk2, rfl⟩ := hw1
          refine e_aloadn (pc := 71) dX4_isNot_71 rfl ?_
          refine e_iloadn (pc := 72) dX4_isNot_72 rfl ?_
          refine e_cvX (pc := 73) (sp_x_sum3 hL hN hN1 hP2) dX4_isNot_73 kX4_83 rfl rfl rfl rfl rfl (mc_CR_of (Nat.le_of_ble_eq_true rfl) (Nat.le_of_ble_eq_true rfl) (Nat.le_refl _) (Nat.le_refl _)) (Nat.le_of_ble_eq_true rfl) (fun w1 hw1 => ?_)
          obtain ⟨u3, c3, hP3, hk3, rfl⟩ := hw1
          refine e_if_ne (pc := 76) dX4_isNot_76 (t := 81) (by decide) (fun c_76 => ?_) (fun c_76 => ?_)
          · skip
            refine e_aloadn (pc := 81) dX4_isNot_81 rfl ?_
            refine e_iloadn (pc := 82) dX4_isNot_82 rfl ?_
            refine e_cvY (pc := 83) (sp_x_putP hP3) dX4_isNot_83 kX4_76 rfl rfl rfl rfl rfl (mc_CR_of (Nat.le_of_ble_eq_true rfl) (Nat.le_of_ble_eq_true rfl) (Nat.le_refl _) (Nat.le_refl _)) (Nat.le_of_ble_eq_true rfl) (fun w1 hw1 => ?_)
            obtain ⟨u4, c4, hP4, hk4, rfl⟩ := hw1
            refine e_iconst (v := 1) (pc := 86) dX4_isNot_86 (by decide) ?_
            exact e_zret (pc := 87) dX4_isNot_87 rfl (by rfl) (Nat.le_refl _) (Nat.le_refl _) (have e : (xlv (xT a) N 3).2 R o = (true, (xsum (xT a) N (xlv (xT a) N 3).1 (ynx (xT a) N (xsum (xT a) N (xlv (xT a) N 3).1 R o).2.1.2.1) (xsum (xT a) N (xlv (xT a) N 3).1 R o).2.2).2.1, xput (xsum (xT a) N (xlv (xT a) N 3).1 (ynx (xT a) N (xsum (xT a) N (xlv (xT a) N 3).1 R o).2.1.2.1) (xsum (xT a) N (xlv (xT a) N 3).1 R o).2.2).2.2 (xtk1 (xsum (xT a) N (xlv (xT a) N 3).1 R o).2.1)) := (by rw [xlv_nS]; simp only [xnot]; rw [if_neg (show ¬ xtk1 R = -13 by rw [← ht]; exact c_6), if_pos (mc_b1.mp c_45), if_pos (show xM14 (xtk1 (xsum (xT a) N (xlv (xT a) N 3).1 R o).2.1) = true by rw [← hP1.2.2.1, c_64]; decide), if_pos (mc_b1.mp c_76)]); ⟨by rw [e]; rfl, u4, c4, (hP1.2.2.1 ▸ hP4 : xPS N (xsum (xT a) N (xlv (xT a) N 3).1 (ynx (xT a) N (xsum (xT a) N (xlv (xT a) N 3).1 R o).2.1.2.1) (xsum (xT a) N (xlv (xT a) N 3).1 R o).2.2).2.1 (xput (xsum (xT a) N (xlv (xT a) N 3).1 (ynx (xT a) N (xsum (xT a) N (xlv (xT a) N 3).1 R o).2.1.2.1) (xsum (xT a) N (xlv (xT a) N 3).1 R o).2.2).2.2 (xtk1 (xsum (xT a) N (xlv (xT a) N 3).1 R o).2.1)) u4 c4) |> (fun t => by rw [e]; dsimp only; exact t), ((hk1.trans hk2).trans hk3).trans hk4, rfl⟩)
          · skip
            refine e_iconst (v := 0) (pc := 79) dX4_isNot_79 (by decide) ?_
            exact e_zret (pc := 80) dX4_isNot_80 rfl (by rfl) (Nat.le_refl _) (Nat.le_refl _) (have e : (xlv (xT a) N 3).2 R o = (false, (xsum (xT a) N (xlv (xT a) N 3).1 (ynx (xT a) N (xsum (xT a) N (xlv (xT a) N 3).1 R o).2.1.2.1) (xsum (xT a) N (xlv (xT a) N 3).1 R o).2.2).2) := (by rw [xlv_nS]; simp only [xnot]; rw [if_neg (show ¬ xtk1 R = -13 by rw [← ht]; exact c_6), if_pos (mc_b1.mp c_45), if_pos (show xM14 (xtk1 (xsum (xT a) N (xlv (xT a) N 3).1 R o).2.1) = true by rw [← hP1.2.2.1, c_64]; decide), if_neg (show ¬ (xsum (xT a) N (xlv (xT a) N 3).1 (ynx (xT a) N (xsum (xT a) N (xlv (xT a) N 3).1 R o).2.1.2.1) (xsum (xT a) N (xlv (xT a) N 3).1 R o).2.2).1 = true by rw [mc_b0.mp c_76]; decide)]); ⟨by rw [e]; rfl, u3, c3, by rw [e]; dsimp only; exact hP3, (hk1.trans hk2).trans hk3, rfl⟩)
    · skip
      refine e_iconst (v := 0) (pc := 48) dX4_isNot_48 (by decide) ?_
      exact e_zret (pc := 49) dX4_isNot_49 rfl (by rfl) (Nat.le_refl _) (Nat.le_refl _) (have e : (xlv (xT a) N 3).2 R o = (false, (xsum (xT a) N (xlv (xT a) N 3).1 R o).2) := (by rw [xlv_nS]; simp only [xnot]; rw [if_neg (show ¬ xtk1 R = -13 by rw [← ht]; exact c_6), if_neg (show ¬ (xsum (xT a) N (xlv (xT a) N 3).1 R o).1 = true by rw [mc_b0.mp c_45]; decide)]); ⟨by rw [e]; rfl, u1, c1, by rw [e]; dsimp only; exact hP1, hk1, rfl⟩)
  · skip
    refine e_iloadn (pc := 9) dX4_isNot_9 rfl ?_
    refine e_iconst (v := 5) (pc := 10) dX4_isNot_10 (by decide) ?_
    refine e_icmp_lt (pc := 11) dX4_isNot_11 (t := 16) (by decide) (fun _ => ?_) (fun c_11 => absurd (by decide) c_11)
    refine e_aloadn (pc := 16) dX4_isNot_16 rfl ?_
    refine e_cvY (pc := 17) (sp_x_goOnP hL hN hN1 hP) dX4_isNot_17 kX4_28 rfl rfl rfl rfl rfl (mc_CR_of (Nat.le_of_ble_eq_true rfl) (Nat.le_of_ble_eq_true rfl) (Nat.le_refl _) (Nat.le_refl _)) (Nat.le_of_ble_eq_true rfl) (fun w1 hw1 => ?_)
    obtain ⟨u1, c1, hP1, hk1, rfl⟩ := hw1
    refine e_aloadn (pc := 20) dX4_isNot_20 rfl ?_
    refine e_iloadn (pc := 21) dX4_isNot_21 rfl ?_
    refine e_iconst (v := 1) (pc := 22) dX4_isNot_22 (by decide) ?_
    refine e_iadd (pc := 23) dX4_isNot_23 ?_
    refine e_top (y := 3) (by decide) ?_
    refine e_cvX (pc := 24) (sp_x_not2 hL hN hN1 hP1) dX4_isNot_24 kX4_80 rfl rfl rfl rfl rfl (mc_CR_of (Nat.le_of_ble_eq_true rfl) (Nat.le_of_ble_eq_true rfl) (Nat.le_refl _) (Nat.le_refl _)) (Nat.le_of_ble_eq_true rfl) (fun w1 hw1 => ?_)
    obtain ⟨u2, c2, hP2, hk2, rfl⟩ := hw1
    refine e_if_ne (pc := 27) dX4_isNot_27 (t := 32) (by decide) (fun c_27 => ?_) (fun c_27 => ?_)
    · skip
      refine e_aloadn (pc := 32) dX4_isNot_32 rfl ?_
      refine e_bipush (v := -13) (pc := 33) dX4_isNot_33 (by decide) ?_
      refine e_cvY (pc := 35) (sp_x_putP hP2) dX4_isNot_35 kX4_76 rfl rfl rfl rfl rfl (mc_CR_of (Nat.le_of_ble_eq_true rfl) (Nat.le_of_ble_eq_true rfl) (Nat.le_refl _) (Nat.le_refl _)) (Nat.le_of_ble_eq_true rfl) (fun w1 hw1 => ?_)
      obtain ⟨u3, c3, hP3, hk3, rfl⟩ := hw1
      refine e_iconst (v := 1) (pc := 38) dX4_isNot_38 (by decide) ?_
      exact e_zret (pc := 39) dX4_isNot_39 rfl (by rfl) (Nat.le_refl _) (Nat.le_refl _) (have e : (xlv (xT a) N 3).2 R o = (true, ((xlv (xT a) N 2).2 (ynx (xT a) N R.2.1) o).2.1, xput ((xlv (xT a) N 2).2 (ynx (xT a) N R.2.1) o).2.2 (-13)) := (by rw [xlv_nS]; simp only [xnot]; rw [if_pos (show xtk1 R = -13 by rw [← ht]; exact c_6), if_pos (mc_b1.mp c_27)]); ⟨by rw [e]; rfl, u3, c3, by rw [e]; dsimp only; exact hP3, (hk1.trans hk2).trans hk3, rfl⟩)
    · skip
      refine e_iconst (v := 0) (pc := 30) dX4_isNot_30 (by decide) ?_
      exact e_zret (pc := 31) dX4_isNot_31 rfl (by rfl) (Nat.le_refl _) (Nat.le_refl _) (have e : (xlv (xT a) N 3).2 R o = (false, ((xlv (xT a) N 2).2 (ynx (xT a) N R.2.1) o).2) := (by rw [xlv_nS]; simp only [xnot]; rw [if_pos (show xtk1 R = -13 by rw [← ht]; exact c_6), if_neg (show ¬ ((xlv (xT a) N 2).2 (ynx (xT a) N R.2.1) o).1 = true by rw [mc_b0.mp c_27]; decide)]); ⟨by rw [e]; rfl, u2, c2, by rw [e]; dsimp only; exact hP2, hk1.trans hk2, rfl⟩)
theorem lp_x_and3 {s m n : Nat → Int32} {a b d : Nat → List Int32} {q : List (Option Nat)} {h : Nat} {z : mc_W} (hL : xL a) {N : Nat} (hN : s 5 = nI N) (hN1 : N ≤ 160) {ub : Nat → Int32} {cb : Nat → List Int32} {V : Bool × xR × List Int32} :
    ∀ (f i : Nat) (R : xR) (o : List Int32) (u : Nat → Int32) (c : Nat → List Int32), i + f = 160 → xPS N R o u c → xPK ub u cb c → xlp (xT a) N (xlv (xT a) N 3).2 xM12 f R o = V →
      mc_E RX4 cX4_isAnd 3 (mc_JM (some .boolean) false 30 0 0 (fun r' w' => r' = some (.int (mc_b V.1)) ∧ ∃ u1 c1, xPS N V.2.1 V.2.2 u1 c1 ∧ xPK ub u1 cb c1 ∧ w' = (WW s a q u1 c1 h m b n d z))) 12 [some (.ref 6), some (.int 2), some (.int (nI i))] [] (WW s a q u c h m b n d z) 0 0 := by
  intro f
  induction f with
  | zero =>
    intro i R o u c hi hP hkb hV
    have e : i = 160 := by omega
    subst e
    simp only [xlp] at hV
    subst hV
    refine e_iloadn (pc := 12) dX4_isAnd_12 rfl ?_
    refine e_sipush (v := 160) (pc := 13) dX4_isAnd_13 (by decide) ?_
    refine e_icmp_ge (pc := 16) dX4_isAnd_16 (t := 54) (by decide) (fun _ => ?_) (fun c_16 => absurd (by decide) c_16)
    refine e_iconst (v := 1) (pc := 54) dX4_isAnd_54 (by decide) ?_
    exact e_zret (pc := 55) dX4_isAnd_55 rfl (by rfl) (Nat.le_refl _) (Nat.le_refl _) ⟨rfl, u, c, hP, hkb, rfl⟩
  | succ f ih =>
    intro i R o u c hi hP hkb hV
    simp only [xlp] at hV
    have hi1 : i < 160 := by omega
    have ht := hP.2.2.1
    refine e_iloadn (pc := 12) dX4_isAnd_12 rfl ?_
    refine e_sipush (v := 160) (pc := 13) dX4_isAnd_13 (by decide) ?_
    refine e_icmp_ge (pc := 16) dX4_isAnd_16 (t := 54) (by decide) (fun c_16 => absurd c_16 (nI_ge hi1 (by decide))) (fun _ => ?_)
    refine e_aloadn (pc := 19) dX4_isAnd_19 rfl ?_
    refine e_get (pc := 20) dX4_isAnd_20 fX4_41 rfl rfl ?_
    refine e_bipush (v := -12) (pc := 23) dX4_isAnd_23 (by decide) ?_
    refine e_icmp_ne (pc := 25) dX4_isAnd_25 (t := 54) (by decide) (fun c_25 => ?_) (fun c_25 => ?_)
    · skip
      refine e_iconst (v := 1) (pc := 54) dX4_isAnd_54 (by decide) ?_
      exact e_zret (pc := 55) dX4_isAnd_55 rfl (by rfl) (Nat.le_refl _) (Nat.le_refl _) ⟨by rw [← hV, if_neg (show ¬ xM12 (xtk1 R) = true by rw [← ht]; unfold xM12; simp [c_25])]; rfl, u, c, by rw [← hV, if_neg (show ¬ xM12 (xtk1 R) = true by rw [← ht]; unfold xM12; simp [c_25])]; exact hP, hkb, rfl⟩
    · skip
      refine e_aloadn (pc := 28) dX4_isAnd_28 rfl ?_
      refine e_cvY (pc := 29) (sp_x_goOnP hL hN hN1 hP) dX4_isAnd_29 kX4_28 rfl rfl rfl rfl rfl (mc_CR_of (Nat.le_of_ble_eq_true rfl) (Nat.le_of_ble_eq_true rfl) (Nat.le_refl _) (Nat.le_refl _)) (Nat.le_of_ble_eq_true rfl) (fun w1 hw1 => ?_)
      obtain ⟨u1, c1, hP1, hk1, rfl⟩ := hw1
      refine e_aloadn (pc := 32) dX4_isAnd_32 rfl ?_
      refine e_iloadn (pc := 33) dX4_isAnd_33 rfl ?_
      refine e_cvX (pc := 34) (sp_x_not3 hL hN hN1 hP1) dX4_isAnd_34 kX4_80 rfl rfl rfl rfl rfl (mc_CR_of (Nat.le_of_ble_eq_true rfl) (Nat.le_of_ble_eq_true rfl) (Nat.le_refl _) (Nat.le_refl _)) (Nat.le_of_ble_eq_true rfl) (fun w1 hw1 => ?_)
      obtain ⟨u2, c2, hP2, hk2, rfl⟩ := hw1
      refine e_if_ne (pc := 37) dX4_isAnd_37 (t := 42) (by decide) (fun c_37 => ?_) (fun c_37 => ?_)
      · skip
        refine e_aloadn (pc := 42) dX4_isAnd_42 rfl ?_
        refine e_bipush (v := -12) (pc := 43) dX4_isAnd_43 (by decide) ?_
        refine e_cvY (pc := 45) (sp_x_putP hP2) dX4_isAnd_45 kX4_76 rfl rfl rfl rfl rfl (mc_CR_of (Nat.le_of_ble_eq_true rfl) (Nat.le_of_ble_eq_true rfl) (Nat.le_refl _) (Nat.le_refl _)) (Nat.le_of_ble_eq_true rfl) (fun w1 hw1 => ?_)
        obtain ⟨u3, c3, hP3, hk3, rfl⟩ := hw1
        refine e_incC2 (pc := 48) dX4_isAnd_48 (nI_1 i) (Nat.le_of_ble_eq_true rfl) rfl ?_
        refine e_goto (pc := 51) dX4_isAnd_51 (t := 12) (by decide) ?_
        exact ih (i + 1) _ _ _ _ (by omega) (by rw [show (-12 : Int32) = xtk1 R from by rw [← ht, c_25]] at hP3; exact hP3) (((hkb.trans hk1).trans hk2).trans hk3) (by rw [← hV, if_pos (show xM12 (xtk1 R) = true by rw [← ht, c_25]; decide), if_pos (mc_b1.mp c_37)])
      · skip
        refine e_iconst (v := 0) (pc := 40) dX4_isAnd_40 (by decide) ?_
        exact e_zret (pc := 41) dX4_isAnd_41 rfl (by rfl) (Nat.le_refl _) (Nat.le_refl _) ⟨by rw [← hV, if_pos (show xM12 (xtk1 R) = true by rw [← ht, c_25]; decide), if_neg (show ¬ ((xlv (xT a) N 3).2 (ynx (xT a) N R.2.1) o).1 = true by rw [mc_b0.mp c_37]; decide)]; rfl, u2, c2, by rw [← hV, if_pos (show xM12 (xtk1 R) = true by rw [← ht, c_25]; decide), if_neg (show ¬ ((xlv (xT a) N 3).2 (ynx (xT a) N R.2.1) o).1 = true by rw [mc_b0.mp c_37]; decide)]; exact hP2, (hkb.trans hk1).trans hk2, rfl⟩
theorem sp_x_and3 {s u m n : Nat → Int32} {a c b d : Nat → List Int32} {q : List (Option Nat)} {h : Nat} {z : mc_W} (hL : xL a) {N : Nat} (hN : s 5 = nI N) (hN1 : N ≤ 160) {R : xR} {o : List Int32} (hP : xPS N R o u c) : mc_T yX4_isAnd cX4_isAnd 3 (some .boolean) 30 [.ref 6, .int 2] (WW s a q u c h m b n d z) (some (.int (mc_b (xand (xT a) N (xlv (xT a) N 3).2 R o).1))) (fun w1 => ∃ u1 c1, xPS N (xand (xT a) N (xlv (xT a) N 3).2 R o).2.1 (xand (xT a) N (xlv (xT a) N 3).2 R o).2.2 u1 c1 ∧ xPK u u1 c c1 ∧ w1 = (WW s a q u1 c1 h m b n d z)) := by
  refine mc_start (own := RX4) (ini := false) rfl (by decide +kernel) (fun h => by cases h) (Nat.le_of_ble_eq_true rfl) ?_
  show mc_E _ _ _ _ _ [some (.ref 6), some (.int 2), none] [] _ _ _
  refine e_aloadn (pc := 0) dX4_isAnd_0 rfl ?_
  refine e_iloadn (pc := 1) dX4_isAnd_1 rfl ?_
  refine e_cvX (pc := 2) (sp_x_not3 hL hN hN1 hP) dX4_isAnd_2 kX4_80 rfl rfl rfl rfl rfl (mc_CR_of (Nat.le_of_ble_eq_true rfl) (Nat.le_of_ble_eq_true rfl) (Nat.le_refl _) (Nat.le_refl _)) (Nat.le_of_ble_eq_true rfl) (fun w1 hw1 => ?_)
  obtain ⟨u1, c1, hP1, hk1, rfl⟩ := hw1
  refine e_if_ne (pc := 5) dX4_isAnd_5 (t := 10) (by decide) (fun c_5 => ?_) (fun c_5 => ?_)
  · skip
    refine e_iconst (v := 0) (pc := 10) dX4_isAnd_10 (by decide) ?_
    refine e_isn2 (pc := 11) dX4_isAnd_11 (Nat.le_of_ble_eq_true rfl) rfl ?_
    have e : xand (xT a) N (xlv (xT a) N 3).2 R o = xlp (xT a) N (xlv (xT a) N 3).2 xM12 160 ((xlv (xT a) N 3).2 R o).2.1 ((xlv (xT a) N 3).2 R o).2.2 := if_pos (mc_b1.mp c_5)
    rw [e]
    exact lp_x_and3 hL hN hN1 160 0 _ _ u1 c1 (by omega) hP1 hk1 rfl
  · skip
    refine e_iconst (v := 0) (pc := 8) dX4_isAnd_8 (by decide) ?_
    exact e_zret (pc := 9) dX4_isAnd_9 rfl (by rfl) (Nat.le_refl _) (Nat.le_refl _) (have e : xand (xT a) N (xlv (xT a) N 3).2 R o = (false, ((xlv (xT a) N 3).2 R o).2) := if_neg (show ¬ ((xlv (xT a) N 3).2 R o).1 = true by rw [mc_b0.mp c_5]; decide); ⟨by rw [e]; rfl, u1, c1, by rw [e]; dsimp only; exact hP1, hk1, rfl⟩)
theorem lp_x_E3 {s m n : Nat → Int32} {a b d : Nat → List Int32} {q : List (Option Nat)} {h : Nat} {z : mc_W} (hL : xL a) {N : Nat} (hN : s 5 = nI N) (hN1 : N ≤ 160) {ub : Nat → Int32} {cb : Nat → List Int32} {V : Bool × xR × List Int32} :
    ∀ (f i : Nat) (R : xR) (o : List Int32) (u : Nat → Int32) (c : Nat → List Int32), i + f = 160 → xPS N R o u c → xPK ub u cb c → xlp (xT a) N (xand (xT a) N (xlv (xT a) N 3).2) xM11 f R o = V →
      mc_E RX4 cX4_isE 3 (mc_JM (some .boolean) false 31 0 0 (fun r' w' => r' = some (.int (mc_b V.1)) ∧ ∃ u1 c1, xPS N V.2.1 V.2.2 u1 c1 ∧ xPK ub u1 cb c1 ∧ w' = (WW s a q u1 c1 h m b n d z))) 12 [some (.ref 6), some (.int 2), some (.int (nI i))] [] (WW s a q u c h m b n d z) 0 0 := by
  intro f
  induction f with
  | zero =>
    intro i R o u c hi hP hkb hV
    have e : i = 160 := by omega
    subst e
    simp only [xlp] at hV
    subst hV
    refine e_iloadn (pc := 12) dX4_isE_12 rfl ?_
    refine e_sipush (v := 160) (pc := 13) dX4_isE_13 (by decide) ?_
    refine e_icmp_ge (pc := 16) dX4_isE_16 (t := 54) (by decide) (fun _ => ?_) (fun c_16 => absurd (by decide) c_16)
    refine e_iconst (v := 1) (pc := 54) dX4_isE_54 (by decide) ?_
    exact e_zret (pc := 55) dX4_isE_55 rfl (by rfl) (Nat.le_refl _) (Nat.le_refl _) ⟨rfl, u, c, hP, hkb, rfl⟩
  | succ f ih =>
    intro i R o u c hi hP hkb hV
    simp only [xlp] at hV
    have hi1 : i < 160 := by omega
    have ht := hP.2.2.1
    refine e_iloadn (pc := 12) dX4_isE_12 rfl ?_
    refine e_sipush (v := 160) (pc := 13) dX4_isE_13 (by decide) ?_
    refine e_icmp_ge (pc := 16) dX4_isE_16 (t := 54) (by decide) (fun c_16 => absurd c_16 (nI_ge hi1 (by decide))) (fun _ => ?_)
    refine e_aloadn (pc := 19) dX4_isE_19 rfl ?_
    refine e_get (pc := 20) dX4_isE_20 fX4_41 rfl rfl ?_
    refine e_bipush (v := -11) (pc := 23) dX4_isE_23 (by decide) ?_
    refine e_icmp_ne (pc := 25) dX4_isE_25 (t := 54) (by decide) (fun c_25 => ?_) (fun c_25 => ?_)
    · skip
      refine e_iconst (v := 1) (pc := 54) dX4_isE_54 (by decide) ?_
      exact e_zret (pc := 55) dX4_isE_55 rfl (by rfl) (Nat.le_refl _) (Nat.le_refl _) ⟨by rw [← hV, if_neg (show ¬ xM11 (xtk1 R) = true by rw [← ht]; unfold xM11; simp [c_25])]; rfl, u, c, by rw [← hV, if_neg (show ¬ xM11 (xtk1 R) = true by rw [← ht]; unfold xM11; simp [c_25])]; exact hP, hkb, rfl⟩
    · skip
      refine e_aloadn (pc := 28) dX4_isE_28 rfl ?_
      refine e_cvY (pc := 29) (sp_x_goOnP hL hN hN1 hP) dX4_isE_29 kX4_28 rfl rfl rfl rfl rfl (mc_CR_of (Nat.le_of_ble_eq_true rfl) (Nat.le_of_ble_eq_true rfl) (Nat.le_refl _) (Nat.le_refl _)) (Nat.le_of_ble_eq_true rfl) (fun w1 hw1 => ?_)
      obtain ⟨u1, c1, hP1, hk1, rfl⟩ := hw1
      refine e_aloadn (pc := 32) dX4_isE_32 rfl ?_
      refine e_iloadn (pc := 33) dX4_isE_33 rfl ?_
      refine e_cvX (pc := 34) (sp_x_and3 hL hN hN1 hP1) dX4_isE_34 kX4_73 rfl rfl rfl rfl rfl (mc_CR_of (Nat.le_of_ble_eq_true rfl) (Nat.le_of_ble_eq_true rfl) (Nat.le_refl _) (Nat.le_refl _)) (Nat.le_of_ble_eq_true rfl) (fun w1 hw1 => ?_)
      obtain ⟨u2, c2, hP2, hk2, rfl⟩ := hw1
      refine e_if_ne (pc := 37) dX4_isE_37 (t := 42) (by decide) (fun c_37 => ?_) (fun c_37 => ?_)
      · skip
        refine e_aloadn (pc := 42) dX4_isE_42 rfl ?_
        refine e_bipush (v := -11) (pc := 43) dX4_isE_43 (by decide) ?_
        refine e_cvY (pc := 45) (sp_x_putP hP2) dX4_isE_45 kX4_76 rfl rfl rfl rfl rfl (mc_CR_of (Nat.le_of_ble_eq_true rfl) (Nat.le_of_ble_eq_true rfl) (Nat.le_refl _) (Nat.le_refl _)) (Nat.le_of_ble_eq_true rfl) (fun w1 hw1 => ?_)
        obtain ⟨u3, c3, hP3, hk3, rfl⟩ := hw1
        refine e_incC2 (pc := 48) dX4_isE_48 (nI_1 i) (Nat.le_of_ble_eq_true rfl) rfl ?_
        refine e_goto (pc := 51) dX4_isE_51 (t := 12) (by decide) ?_
        exact ih (i + 1) _ _ _ _ (by omega) (by rw [show (-11 : Int32) = xtk1 R from by rw [← ht, c_25]] at hP3; exact hP3) (((hkb.trans hk1).trans hk2).trans hk3) (by rw [← hV, if_pos (show xM11 (xtk1 R) = true by rw [← ht, c_25]; decide), if_pos (mc_b1.mp c_37)])
      · skip
        refine e_iconst (v := 0) (pc := 40) dX4_isE_40 (by decide) ?_
        exact e_zret (pc := 41) dX4_isE_41 rfl (by rfl) (Nat.le_refl _) (Nat.le_refl _) ⟨by rw [← hV, if_pos (show xM11 (xtk1 R) = true by rw [← ht, c_25]; decide), if_neg (show ¬ ((xand (xT a) N (xlv (xT a) N 3).2) (ynx (xT a) N R.2.1) o).1 = true by rw [mc_b0.mp c_37]; decide)]; rfl, u2, c2, by rw [← hV, if_pos (show xM11 (xtk1 R) = true by rw [← ht, c_25]; decide), if_neg (show ¬ ((xand (xT a) N (xlv (xT a) N 3).2) (ynx (xT a) N R.2.1) o).1 = true by rw [mc_b0.mp c_37]; decide)]; exact hP2, (hkb.trans hk1).trans hk2, rfl⟩
theorem sp_x_E3 {s u m n : Nat → Int32} {a c b d : Nat → List Int32} {q : List (Option Nat)} {h : Nat} {z : mc_W} (hL : xL a) {N : Nat} (hN : s 5 = nI N) (hN1 : N ≤ 160) {R : xR} {o : List Int32} (hP : xPS N R o u c) : mc_T yX4_isE cX4_isE 3 (some .boolean) 31 [.ref 6, .int 2] (WW s a q u c h m b n d z) (some (.int (mc_b (xE (xT a) N (xlv (xT a) N 3).2 R o).1))) (fun w1 => ∃ u1 c1, xPS N (xE (xT a) N (xlv (xT a) N 3).2 R o).2.1 (xE (xT a) N (xlv (xT a) N 3).2 R o).2.2 u1 c1 ∧ xPK u u1 c c1 ∧ w1 = (WW s a q u1 c1 h m b n d z)) := by
  refine mc_start (own := RX4) (ini := false) rfl (by decide +kernel) (fun h => by cases h) (Nat.le_of_ble_eq_true rfl) ?_
  show mc_E _ _ _ _ _ [some (.ref 6), some (.int 2), none] [] _ _ _
  refine e_aloadn (pc := 0) dX4_isE_0 rfl ?_
  refine e_iloadn (pc := 1) dX4_isE_1 rfl ?_
  refine e_cvX (pc := 2) (sp_x_and3 hL hN hN1 hP) dX4_isE_2 kX4_73 rfl rfl rfl rfl rfl (mc_CR_of (Nat.le_of_ble_eq_true rfl) (Nat.le_of_ble_eq_true rfl) (Nat.le_refl _) (Nat.le_refl _)) (Nat.le_of_ble_eq_true rfl) (fun w1 hw1 => ?_)
  obtain ⟨u1, c1, hP1, hk1, rfl⟩ := hw1
  refine e_if_ne (pc := 5) dX4_isE_5 (t := 10) (by decide) (fun c_5 => ?_) (fun c_5 => ?_)
  · skip
    refine e_iconst (v := 0) (pc := 10) dX4_isE_10 (by decide) ?_
    refine e_isn2 (pc := 11) dX4_isE_11 (Nat.le_of_ble_eq_true rfl) rfl ?_
    have e : xE (xT a) N (xlv (xT a) N 3).2 R o = xlp (xT a) N (xand (xT a) N (xlv (xT a) N 3).2) xM11 160 ((xand (xT a) N (xlv (xT a) N 3).2) R o).2.1 ((xand (xT a) N (xlv (xT a) N 3).2) R o).2.2 := if_pos (mc_b1.mp c_5)
    rw [e]
    exact lp_x_E3 hL hN hN1 160 0 _ _ u1 c1 (by omega) hP1 hk1 rfl
  · skip
    refine e_iconst (v := 0) (pc := 8) dX4_isE_8 (by decide) ?_
    exact e_zret (pc := 9) dX4_isE_9 rfl (by rfl) (Nat.le_refl _) (Nat.le_refl _) (have e : xE (xT a) N (xlv (xT a) N 3).2 R o = (false, ((xand (xT a) N (xlv (xT a) N 3).2) R o).2) := if_neg (show ¬ ((xand (xT a) N (xlv (xT a) N 3).2) R o).1 = true by rw [mc_b0.mp c_5]; decide); ⟨by rw [e]; rfl, u1, c1, by rw [e]; dsimp only; exact hP1, hk1, rfl⟩)
