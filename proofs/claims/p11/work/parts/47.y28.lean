theorem emT {t : Nat} {B b : Nat → List Int32} {n : Nat → Int32} {d : Nat → List Int32} {st o : List Int32} {op : Int32} (h : yPS t B b n d st o op) (e : n 4 = 0) : st.isEmpty = true := by
  have g4 := h.2.2.1
  have gl := h.2.2.2.2.2.2
  cases st with
  | nil => rfl
  | cons x r =>
    rw [g4] at e
    simp at gl
    exact absurd ((nI_eq (a := (x :: r).length) (b := 0) (by simp; omega) (by decide)).mp e) (by simp)
theorem emF {t : Nat} {B b : Nat → List Int32} {n : Nat → Int32} {d : Nat → List Int32} {st o : List Int32} {op : Int32} (h : yPS t B b n d st o op) (e : ¬ n 4 = 0) : st.isEmpty = false := by
  cases st with
  | nil => exact absurd h.2.2.1 e
  | cons x r => rfl
theorem emC {t : Nat} {B b : Nat → List Int32} {n : Nat → Int32} {d : Nat → List Int32} {st o : List Int32} {op : Int32} (h : yPS t B b n d st o op) (e : ¬ n 4 = 0) : ∃ x r, st = x :: r := by
  cases st with
  | nil => exact absurd h.2.2.1 e
  | cons x r => exact ⟨x, r, rfl⟩
set_option maxHeartbeats 2000000 in
theorem lp_y_er {s u m : Nat → Int32} {a c : Nat → List Int32} {q : List (Option Nat)} {h : Nat} {z : mc_W} {t : Nat} {B : Nat → List Int32} {N : Nat} {V : Bool × Nat × Nat × List Int32 × List Int32 × Int32} (hL : yL B) (hN : m 3 = nI N) (hN2 : N ≤ 160) (h4 : m 4 = nI t) (ht : t < 6) :
    ∀ (f A0 : Nat) (wn my : Bool) (st o : List Int32) (op : Int32) (b : Nat → List Int32) (n : Nat → Int32) (d : Nat → List Int32) (x3 : Option Value), N + 1 ≤ A0 + f → A0 ≤ N → n 0 = nI A0 → yPS t B b n d st o op → o.length + st.length ≤ A0 → yer (yt3 B) N f A0 wn my st o op = V →
      mc_E RX7 cX7_eRead 4 (mc_JM (some .boolean) false 4 0 0 (fun r' w' => r' = some (.int (mc_b V.1)) ∧ ∃ b1 n1 d1, yPS t B b1 n1 d1 V.2.2.2.1 V.2.2.2.2.1 V.2.2.2.2.2 ∧ n1 0 = nI V.2.1 ∧ n1 1 = nI V.2.2.1 ∧ w' = WW s a q u c h m b1 n1 d1 z)) 14 [some (.ref 29), some (.int (mc_b wn)), some (.int (mc_b my)), x3] [] (WW s a q u c h m b n d z) 0 0 := by
  intro f
  induction f with
  | zero => intro A0 wn my st o op b n d x3 hf hA; omega
  | succ f ih =>
    intro A0 wn my st o op b n d x3 hf hA h0 hP hl hV
    obtain ⟨hLb, eT⟩ := hP.L hL
    obtain ⟨k1, k2, k3⟩ := ynx_lt (yt3 B) N A0 hA
    cases wn with
    | true =>
      simp only [yer] at hV
      refine e_aloadn (pc := 14) dX7_eRead_14 rfl ?_
      refine e_cvY (pc := 15) (sp_y_next hLb hN hN2 hA h0) dX7_eRead_15 kX7_132 rfl rfl rfl rfl rfl (mc_CR_of (Nat.le_of_ble_eq_true rfl) (Nat.le_of_ble_eq_true rfl) (Nat.le_refl _) (Nat.le_refl _)) (Nat.le_of_ble_eq_true rfl) (fun w1 hw1 => ?_)
      obtain ⟨n1, hX, rfl⟩ := hw1
      rw [eT] at hX
      generalize ynx (yt3 B) N A0 = R at hX hV k1 k2 k3
      obtain ⟨bg, A1, tk, vl⟩ := R
      obtain ⟨j0, j1, j2, j3, j4⟩ := hX
      simp only at j0 j1 j2 j3 hV k1 k2 k3
      have hP1 := yPS_n hP j4
      have g5 : n1 5 = op := hP1.2.2.2.2.1
      have HO : tk ≠ 0 → ∀ x y : Int32, vp_in ((mc_up n1 5 y) 4) (d 0).length ∧ yPS t B b (yhn (mc_up n1 5 y)) (yhd (mc_up n1 5 y) d x) (x :: st) o y := fun hk x y => yPS_holds (x := x) hP1 rfl rfl rfl (by have := k3 hk; omega)
      have HQ : tk ≠ 0 → ∀ x : Int32, vp_in (200 * m 4 + n1 6) (b 4).length ∧ yPS t B (ypb m b n1 x) (ypn n1) d st (o ++ [x]) op := fun hk x => yPS_puts (x := x) hP1 h4 ht hP1.2.2.1 g5 rfl hP1.2.2.2.1 (by have := k3 hk; omega)
      refine e_iloadn (pc := 18) dX7_eRead_18 rfl ?_
      refine e_if_eq (pc := 19) dX7_eRead_19 (t := 150) (by decide) (fun c_19 => absurd c_19 (by decide)) (fun _ => ?_)
      refine e_aloadn (pc := 22) dX7_eRead_22 rfl ?_
      refine e_get (pc := 23) dX7_eRead_23 fX7_99 rfl rfl ?_
      refine e_top (j2) ?_
      refine e_iconst (v := 1) (pc := 26) dX7_eRead_26 (by decide) ?_
      refine e_icmp_eq (pc := 27) dX7_eRead_27 (t := 38) (by decide) (fun c_27 => ?_) (fun c_27 => ?_)
      · skip
        refine e_aloadn (pc := 38) dX7_eRead_38 rfl ?_
        refine e_aloadn (pc := 39) dX7_eRead_39 rfl ?_
        refine e_get (pc := 40) dX7_eRead_40 fX7_99 rfl rfl ?_
        refine e_top (j2) ?_
        refine e_iconst (v := 1) (pc := 43) dX7_eRead_43 (by decide) ?_
        refine e_icmp_ne (pc := 44) dX7_eRead_44 (t := 57) (by decide) (fun c_44 => absurd c_44 (fun w => w c_27)) (fun _ => ?_)
        refine e_ldc (pc := 47) dX7_eRead_47 qX7_135 ?_
        refine e_aloadn (pc := 49) dX7_eRead_49 rfl ?_
        refine e_get (pc := 50) dX7_eRead_50 fX7_102 rfl rfl ?_
        refine e_top (j3) ?_
        refine e_iadd (pc := 53) dX7_eRead_53 ?_
        refine e_goto (pc := 54) dX7_eRead_54 (t := 61) (by decide) ?_
        refine e_cvU (pc := 61) (sp_y_puts (HQ (by first | (rw [c_27]; decide) | (rw [c_35]; decide)) 0).1) dX7_eRead_61 kX7_122 rfl rfl rfl rfl rfl (mc_CR_of (Nat.le_of_ble_eq_true rfl) (Nat.le_of_ble_eq_true rfl) (Nat.le_refl _) (Nat.le_refl _)) (Nat.le_of_ble_eq_true rfl) ?_
        refine e_aloadn (pc := 64) dX7_eRead_64 rfl ?_
        refine e_bipush (v := 7) (pc := 65) dX7_eRead_65 (by decide) ?_
        refine e_cvY (pc := 67) (sp_y_unwinds h4 ht (HQ (by first | (rw [c_27]; decide) | (rw [c_35]; decide)) _).2) dX7_eRead_67 kX7_129 rfl rfl rfl rfl rfl (mc_CR_of (Nat.le_of_ble_eq_true rfl) (Nat.le_of_ble_eq_true rfl) (Nat.le_refl _) (Nat.le_refl _)) (Nat.le_of_ble_eq_true rfl) (fun w1 hw1 => ?_)
        obtain ⟨b2, n2, hP2, hK2, rfl⟩ := hw1
        refine e_iconst (v := 0) (pc := 70) dX7_eRead_70 (by decide) ?_
        refine e_isn1 (pc := 71) dX7_eRead_71 (Nat.le_of_ble_eq_true rfl) rfl ?_
        refine e_goto (pc := 72) dX7_eRead_72 (t := 14) (by decide) ?_
        rw [if_pos (Or.inl c_27), if_pos c_27] at hV
        exact ih A1 false my _ _ _ _ _ _ _ (by have := k3 (by rw [c_27]; decide); omega) k2 (hK2.1.trans j0) hP2 (by rw [yuw_len, List.length_append]; have := k3 (by rw [c_27]; decide); simp; omega) hV
      · skip
        refine e_aloadn (pc := 30) dX7_eRead_30 rfl ?_
        refine e_get (pc := 31) dX7_eRead_31 fX7_99 rfl rfl ?_
        refine e_top (j2) ?_
        refine e_iconst (v := 2) (pc := 34) dX7_eRead_34 (by decide) ?_
        refine e_icmp_ne (pc := 35) dX7_eRead_35 (t := 75) (by decide) (fun c_35 => ?_) (fun c_35 => ?_)
        · skip
          refine e_aloadn (pc := 75) dX7_eRead_75 rfl ?_
          refine e_get (pc := 76) dX7_eRead_76 fX7_99 rfl rfl ?_
          refine e_top (j2) ?_
          refine e_bipush (v := 6) (pc := 79) dX7_eRead_79 (by decide) ?_
          refine e_icmp_ne (pc := 81) dX7_eRead_81 (t := 99) (by decide) (fun c_81 => ?_) (fun c_81 => ?_)
          · skip
            refine e_aloadn (pc := 99) dX7_eRead_99 rfl ?_
            refine e_get (pc := 100) dX7_eRead_100 fX7_99 rfl rfl ?_
            refine e_top (j2) ?_
            refine e_bipush (v := 45) (pc := 103) dX7_eRead_103 (by decide) ?_
            refine e_icmp_ne (pc := 105) dX7_eRead_105 (t := 124) (by decide) (fun c_105 => ?_) (fun c_105 => ?_)
            · skip
              refine e_aloadn (pc := 124) dX7_eRead_124 rfl ?_
              refine e_get (pc := 125) dX7_eRead_125 fX7_99 rfl rfl ?_
              refine e_top (j2) ?_
              refine e_bipush (v := 40) (pc := 128) dX7_eRead_128 (by decide) ?_
              refine e_icmp_ne (pc := 130) dX7_eRead_130 (t := 148) (by decide) (fun c_130 => ?_) (fun c_130 => ?_)
              · skip
                refine e_iconst (v := 0) (pc := 148) dX7_eRead_148 (by decide) ?_
                exact e_zret (pc := 149) dX7_eRead_149 rfl (by rfl) (Nat.le_refl _) (Nat.le_refl _) (by rw [if_neg (fun q => q.elim c_27 c_35), if_neg (fun q => c_81 q.1), if_neg c_105, if_neg c_130] at hV; subst hV; exact ⟨rfl, b, n1, d, hP1, j0, j1, rfl⟩)
              · skip
                refine e_aloadn (pc := 133) dX7_eRead_133 rfl ?_
                refine e_iconst (v := 0) (pc := 134) dX7_eRead_134 (by decide) ?_
                refine e_cvD (pc := 135) (sp_y_opensOne (fun _ => (HO (by first | (rw [c_130]; decide) | (rw [c_105]; decide) | (rw [c_81]; decide)) 0 0).1)) dX7_eRead_135 kX7_136 rfl rfl rfl rfl rfl (mc_CR_of (Nat.le_of_ble_eq_true rfl) (Nat.le_of_ble_eq_true rfl) (Nat.le_refl _) (Nat.le_refl _)) (Nat.le_of_ble_eq_true rfl) ?_
                refine e_if_ne (pc := 138) dX7_eRead_138 (t := 143) (by decide) (fun c_138 => ?_) (fun c_138 => ?_)
                · skip
                  refine e_iconst (v := 1) (pc := 143) dX7_eRead_143 (by decide) ?_
                  refine e_isn2 (pc := 144) dX7_eRead_144 (Nat.le_of_ble_eq_true rfl) rfl ?_
                  refine e_goto (pc := 145) dX7_eRead_145 (t := 14) (by decide) ?_
                  have q5 : ¬ n1 5 = 5 := by simpa using mc_b1.mp c_138
                  have tk0 : tk ≠ 0 := by rw [c_130]; decide
                  rw [if_neg (fun q => q.elim c_27 c_35), if_neg (fun q => c_81 q.1), if_neg c_105, if_pos c_130, if_neg (fun w => q5 (g5.trans w))] at hV
                  unfold yoo yod
                  rw [if_neg q5, if_neg q5, g5]
                  exact ih A1 true true _ _ _ _ _ _ _ (by have := k3 tk0; omega) k2 j0 ((HO tk0 0 (op + 1)).2) (by have := k3 tk0; simp; omega) hV
                · skip
                  refine e_iconst (v := 0) (pc := 141) dX7_eRead_141 (by decide) ?_
                  exact e_zret (pc := 142) dX7_eRead_142 rfl (by rfl) (Nat.le_refl _) (Nat.le_refl _) (by have q5 : n1 5 = 5 := (by simpa [mc_b0] using c_138); rw [if_neg (fun q => q.elim c_27 c_35), if_neg (fun q => c_81 q.1), if_neg c_105, if_pos c_130, if_pos (g5 ▸ q5)] at hV; subst hV; unfold yoo yod; rw [if_pos q5, if_pos q5]; exact ⟨rfl, b, n1, d, hP1, j0, j1, rfl⟩)
            · skip
              refine e_aloadn (pc := 108) dX7_eRead_108 rfl ?_
              refine e_bipush (v := 19) (pc := 109) dX7_eRead_109 (by decide) ?_
              refine e_cvD (pc := 111) (sp_y_opensOne (fun _ => (HO (by first | (rw [c_130]; decide) | (rw [c_105]; decide) | (rw [c_81]; decide)) 0 0).1)) dX7_eRead_111 kX7_136 rfl rfl rfl rfl rfl (mc_CR_of (Nat.le_of_ble_eq_true rfl) (Nat.le_of_ble_eq_true rfl) (Nat.le_refl _) (Nat.le_refl _)) (Nat.le_of_ble_eq_true rfl) ?_
              refine e_if_ne (pc := 114) dX7_eRead_114 (t := 119) (by decide) (fun c_114 => ?_) (fun c_114 => ?_)
              · skip
                refine e_iconst (v := 0) (pc := 119) dX7_eRead_119 (by decide) ?_
                refine e_isn2 (pc := 120) dX7_eRead_120 (Nat.le_of_ble_eq_true rfl) rfl ?_
                refine e_goto (pc := 121) dX7_eRead_121 (t := 14) (by decide) ?_
                have q5 : ¬ n1 5 = 5 := by simpa using mc_b1.mp c_114
                have tk0 : tk ≠ 0 := by rw [c_105]; decide
                rw [if_neg (fun q => q.elim c_27 c_35), if_neg (fun q => c_81 q.1), if_pos c_105, if_neg (fun w => q5 (g5.trans w))] at hV
                unfold yoo yod
                rw [if_neg q5, if_neg q5, g5]
                exact ih A1 true false _ _ _ _ _ _ _ (by have := k3 tk0; omega) k2 j0 ((HO tk0 19 (op + 1)).2) (by have := k3 tk0; simp; omega) hV
              · skip
                refine e_iconst (v := 0) (pc := 117) dX7_eRead_117 (by decide) ?_
                exact e_zret (pc := 118) dX7_eRead_118 rfl (by rfl) (Nat.le_refl _) (Nat.le_refl _) (by have q5 : n1 5 = 5 := (by simpa [mc_b0] using c_114); rw [if_neg (fun q => q.elim c_27 c_35), if_neg (fun q => c_81 q.1), if_pos c_105, if_pos (g5 ▸ q5)] at hV; subst hV; unfold yoo yod; rw [if_pos q5, if_pos q5]; exact ⟨rfl, b, n1, d, hP1, j0, j1, rfl⟩)
          · skip
            refine e_iloadn (pc := 84) dX7_eRead_84 rfl ?_
            refine e_if_eq (pc := 85) dX7_eRead_85 (t := 99) (by decide) (fun c_85 => ?_) (fun c_85 => ?_)
            · skip
              refine e_aloadn (pc := 99) dX7_eRead_99 rfl ?_
              refine e_get (pc := 100) dX7_eRead_100 fX7_99 rfl rfl ?_
              refine e_top (j2) ?_
              refine e_bipush (v := 45) (pc := 103) dX7_eRead_103 (by decide) ?_
              refine e_icmp_ne (pc := 105) dX7_eRead_105 (t := 124) (by decide) (fun c_105 => ?_) (fun c_105 => ?_)
              · skip
                refine e_aloadn (pc := 124) dX7_eRead_124 rfl ?_
                refine e_get (pc := 125) dX7_eRead_125 fX7_99 rfl rfl ?_
                refine e_top (j2) ?_
                refine e_bipush (v := 40) (pc := 128) dX7_eRead_128 (by decide) ?_
                refine e_icmp_ne (pc := 130) dX7_eRead_130 (t := 148) (by decide) (fun c_130 => ?_) (fun c_130 => ?_)
                · skip
                  refine e_iconst (v := 0) (pc := 148) dX7_eRead_148 (by decide) ?_
                  exact e_zret (pc := 149) dX7_eRead_149 rfl (by rfl) (Nat.le_refl _) (Nat.le_refl _) (by rw [if_neg (fun q => q.elim c_27 c_35), if_neg (fun q => nbt (mc_b0.mp c_85) q.2), if_neg c_105, if_neg c_130] at hV; subst hV; exact ⟨rfl, b, n1, d, hP1, j0, j1, rfl⟩)
                · skip
                  refine e_aloadn (pc := 133) dX7_eRead_133 rfl ?_
                  refine e_iconst (v := 0) (pc := 134) dX7_eRead_134 (by decide) ?_
                  refine e_cvD (pc := 135) (sp_y_opensOne (fun _ => (HO (by first | (rw [c_130]; decide) | (rw [c_105]; decide) | (rw [c_81]; decide)) 0 0).1)) dX7_eRead_135 kX7_136 rfl rfl rfl rfl rfl (mc_CR_of (Nat.le_of_ble_eq_true rfl) (Nat.le_of_ble_eq_true rfl) (Nat.le_refl _) (Nat.le_refl _)) (Nat.le_of_ble_eq_true rfl) ?_
                  refine e_if_ne (pc := 138) dX7_eRead_138 (t := 143) (by decide) (fun c_138 => ?_) (fun c_138 => ?_)
                  · skip
                    refine e_iconst (v := 1) (pc := 143) dX7_eRead_143 (by decide) ?_
                    refine e_isn2 (pc := 144) dX7_eRead_144 (Nat.le_of_ble_eq_true rfl) rfl ?_
                    refine e_goto (pc := 145) dX7_eRead_145 (t := 14) (by decide) ?_
                    have q5 : ¬ n1 5 = 5 := by simpa using mc_b1.mp c_138
                    have tk0 : tk ≠ 0 := by rw [c_130]; decide
                    rw [if_neg (fun q => q.elim c_27 c_35), if_neg (fun q => nbt (mc_b0.mp c_85) q.2), if_neg c_105, if_pos c_130, if_neg (fun w => q5 (g5.trans w))] at hV
                    unfold yoo yod
                    rw [if_neg q5, if_neg q5, g5]
                    exact ih A1 true true _ _ _ _ _ _ _ (by have := k3 tk0; omega) k2 j0 ((HO tk0 0 (op + 1)).2) (by have := k3 tk0; simp; omega) hV
                  · skip
                    refine e_iconst (v := 0) (pc := 141) dX7_eRead_141 (by decide) ?_
                    exact e_zret (pc := 142) dX7_eRead_142 rfl (by rfl) (Nat.le_refl _) (Nat.le_refl _) (by have q5 : n1 5 = 5 := (by simpa [mc_b0] using c_138); rw [if_neg (fun q => q.elim c_27 c_35), if_neg (fun q => nbt (mc_b0.mp c_85) q.2), if_neg c_105, if_pos c_130, if_pos (g5 ▸ q5)] at hV; subst hV; unfold yoo yod; rw [if_pos q5, if_pos q5]; exact ⟨rfl, b, n1, d, hP1, j0, j1, rfl⟩)
              · skip
                refine e_aloadn (pc := 108) dX7_eRead_108 rfl ?_
                refine e_bipush (v := 19) (pc := 109) dX7_eRead_109 (by decide) ?_
                refine e_cvD (pc := 111) (sp_y_opensOne (fun _ => (HO (by first | (rw [c_130]; decide) | (rw [c_105]; decide) | (rw [c_81]; decide)) 0 0).1)) dX7_eRead_111 kX7_136 rfl rfl rfl rfl rfl (mc_CR_of (Nat.le_of_ble_eq_true rfl) (Nat.le_of_ble_eq_true rfl) (Nat.le_refl _) (Nat.le_refl _)) (Nat.le_of_ble_eq_true rfl) ?_
                refine e_if_ne (pc := 114) dX7_eRead_114 (t := 119) (by decide) (fun c_114 => ?_) (fun c_114 => ?_)
                · skip
                  refine e_iconst (v := 0) (pc := 119) dX7_eRead_119 (by decide) ?_
                  refine e_isn2 (pc := 120) dX7_eRead_120 (Nat.le_of_ble_eq_true rfl) rfl ?_
                  refine e_goto (pc := 121) dX7_eRead_121 (t := 14) (by decide) ?_
                  have q5 : ¬ n1 5 = 5 := by simpa using mc_b1.mp c_114
                  have tk0 : tk ≠ 0 := by rw [c_105]; decide
                  rw [if_neg (fun q => q.elim c_27 c_35), if_neg (fun q => nbt (mc_b0.mp c_85) q.2), if_pos c_105, if_neg (fun w => q5 (g5.trans w))] at hV
                  unfold yoo yod
                  rw [if_neg q5, if_neg q5, g5]
                  exact ih A1 true false _ _ _ _ _ _ _ (by have := k3 tk0; omega) k2 j0 ((HO tk0 19 (op + 1)).2) (by have := k3 tk0; simp; omega) hV
                · skip
                  refine e_iconst (v := 0) (pc := 117) dX7_eRead_117 (by decide) ?_
                  exact e_zret (pc := 118) dX7_eRead_118 rfl (by rfl) (Nat.le_refl _) (Nat.le_refl _) (by have q5 : n1 5 = 5 := (by simpa [mc_b0] using c_114); rw [if_neg (fun q => q.elim c_27 c_35), if_neg (fun q => nbt (mc_b0.mp c_85) q.2), if_pos c_105, if_pos (g5 ▸ q5)] at hV; subst hV; unfold yoo yod; rw [if_pos q5, if_pos q5]; exact ⟨rfl, b, n1, d, hP1, j0, j1, rfl⟩)
            · skip
              refine e_aloadn (pc := 88) dX7_eRead_88 rfl ?_
              refine e_bipush (v := 13) (pc := 89) dX7_eRead_89 (by decide) ?_
              refine e_cvD (pc := 91) (sp_y_opensOne (fun _ => (HO (by first | (rw [c_130]; decide) | (rw [c_105]; decide) | (rw [c_81]; decide)) 0 0).1)) dX7_eRead_91 kX7_136 rfl rfl rfl rfl rfl (mc_CR_of (Nat.le_of_ble_eq_true rfl) (Nat.le_of_ble_eq_true rfl) (Nat.le_refl _) (Nat.le_refl _)) (Nat.le_of_ble_eq_true rfl) ?_
              refine e_if_ne (pc := 94) dX7_eRead_94 (t := 14) (by decide) (fun c_94 => ?_) (fun c_94 => ?_)
              · skip
                have q5 : ¬ n1 5 = 5 := by simpa using mc_b1.mp c_94
                have tk0 : tk ≠ 0 := by rw [c_81]; decide
                rw [if_neg (fun q => q.elim c_27 c_35), if_pos ⟨c_81, mc_b1.mp c_85⟩, if_neg (fun w => q5 (g5.trans w))] at hV
                unfold yoo yod
                rw [if_neg q5, if_neg q5, g5]
                exact ih A1 true my _ _ _ _ _ _ _ (by have := k3 tk0; omega) k2 j0 ((HO tk0 13 (op + 1)).2) (by have := k3 tk0; simp; omega) hV
              · skip
                refine e_iconst (v := 0) (pc := 97) dX7_eRead_97 (by decide) ?_
                exact e_zret (pc := 98) dX7_eRead_98 rfl (by rfl) (Nat.le_refl _) (Nat.le_refl _) (by have q5 : n1 5 = 5 := (by simpa [mc_b0] using c_94); rw [if_neg (fun q => q.elim c_27 c_35), if_pos ⟨c_81, mc_b1.mp c_85⟩, if_pos (g5 ▸ q5)] at hV; subst hV; unfold yoo yod; rw [if_pos q5, if_pos q5]; exact ⟨rfl, b, n1, d, hP1, j0, j1, rfl⟩)
        · skip
          refine e_aloadn (pc := 38) dX7_eRead_38 rfl ?_
          refine e_aloadn (pc := 39) dX7_eRead_39 rfl ?_
          refine e_get (pc := 40) dX7_eRead_40 fX7_99 rfl rfl ?_
          refine e_top (j2) ?_
          refine e_iconst (v := 1) (pc := 43) dX7_eRead_43 (by decide) ?_
          refine e_icmp_ne (pc := 44) dX7_eRead_44 (t := 57) (by decide) (fun c_44 => ?_) (fun c_44 => ?_)
          · skip
            refine e_aloadn (pc := 57) dX7_eRead_57 rfl ?_
            refine e_get (pc := 58) dX7_eRead_58 fX7_102 rfl rfl ?_
            refine e_top j3 ?_
            refine e_cvU (pc := 61) (sp_y_puts (HQ (by first | (rw [c_27]; decide) | (rw [c_35]; decide)) 0).1) dX7_eRead_61 kX7_122 rfl rfl rfl rfl rfl (mc_CR_of (Nat.le_of_ble_eq_true rfl) (Nat.le_of_ble_eq_true rfl) (Nat.le_refl _) (Nat.le_refl _)) (Nat.le_of_ble_eq_true rfl) ?_
            refine e_aloadn (pc := 64) dX7_eRead_64 rfl ?_
            refine e_bipush (v := 7) (pc := 65) dX7_eRead_65 (by decide) ?_
            refine e_cvY (pc := 67) (sp_y_unwinds h4 ht (HQ (by first | (rw [c_27]; decide) | (rw [c_35]; decide)) _).2) dX7_eRead_67 kX7_129 rfl rfl rfl rfl rfl (mc_CR_of (Nat.le_of_ble_eq_true rfl) (Nat.le_of_ble_eq_true rfl) (Nat.le_refl _) (Nat.le_refl _)) (Nat.le_of_ble_eq_true rfl) (fun w1 hw1 => ?_)
            obtain ⟨b2, n2, hP2, hK2, rfl⟩ := hw1
            refine e_iconst (v := 0) (pc := 70) dX7_eRead_70 (by decide) ?_
            refine e_isn1 (pc := 71) dX7_eRead_71 (Nat.le_of_ble_eq_true rfl) rfl ?_
            refine e_goto (pc := 72) dX7_eRead_72 (t := 14) (by decide) ?_
            rw [if_pos (Or.inr c_35), if_neg c_44] at hV
            exact ih A1 false my _ _ _ _ _ _ _ (by have := k3 (by rw [c_35]; decide); omega) k2 (hK2.1.trans j0) hP2 (by rw [yuw_len, List.length_append]; have := k3 (by rw [c_35]; decide); simp; omega) hV
          · skip
            refine e_ldc (pc := 47) dX7_eRead_47 qX7_135 ?_
            refine e_aloadn (pc := 49) dX7_eRead_49 rfl ?_
            refine e_get (pc := 50) dX7_eRead_50 fX7_102 rfl rfl ?_
            refine e_top (j3) ?_
            refine e_iadd (pc := 53) dX7_eRead_53 ?_
            refine e_goto (pc := 54) dX7_eRead_54 (t := 61) (by decide) ?_
            refine e_cvU (pc := 61) (sp_y_puts (HQ (by first | (rw [c_27]; decide) | (rw [c_35]; decide)) 0).1) dX7_eRead_61 kX7_122 rfl rfl rfl rfl rfl (mc_CR_of (Nat.le_of_ble_eq_true rfl) (Nat.le_of_ble_eq_true rfl) (Nat.le_refl _) (Nat.le_refl _)) (Nat.le_of_ble_eq_true rfl) ?_
            refine e_aloadn (pc := 64) dX7_eRead_64 rfl ?_
            refine e_bipush (v := 7) (pc := 65) dX7_eRead_65 (by decide) ?_
            refine e_cvY (pc := 67) (sp_y_unwinds h4 ht (HQ (by first | (rw [c_27]; decide) | (rw [c_35]; decide)) _).2) dX7_eRead_67 kX7_129 rfl rfl rfl rfl rfl (mc_CR_of (Nat.le_of_ble_eq_true rfl) (Nat.le_of_ble_eq_true rfl) (Nat.le_refl _) (Nat.le_refl _)) (Nat.le_of_ble_eq_true rfl) (fun w1 hw1 => ?_)
            obtain ⟨b2, n2, hP2, hK2, rfl⟩ := hw1
            refine e_iconst (v := 0) (pc := 70) dX7_eRead_70 (by decide) ?_
            refine e_isn1 (pc := 71) dX7_eRead_71 (Nat.le_of_ble_eq_true rfl) rfl ?_
            refine e_goto (pc := 72) dX7_eRead_72 (t := 14) (by decide) ?_
            rw [if_pos (Or.inr c_35), if_pos c_44] at hV
            exact ih A1 false my _ _ _ _ _ _ _ (by have := k3 (by rw [c_35]; decide); omega) k2 (hK2.1.trans j0) hP2 (by rw [yuw_len, List.length_append]; have := k3 (by rw [c_35]; decide); simp; omega) hV
    | false =>
      simp only [yer] at hV
      refine e_aloadn (pc := 14) dX7_eRead_14 rfl ?_
      refine e_cvY (pc := 15) (sp_y_next hLb hN hN2 hA h0) dX7_eRead_15 kX7_132 rfl rfl rfl rfl rfl (mc_CR_of (Nat.le_of_ble_eq_true rfl) (Nat.le_of_ble_eq_true rfl) (Nat.le_refl _) (Nat.le_refl _)) (Nat.le_of_ble_eq_true rfl) (fun w1 hw1 => ?_)
      obtain ⟨n1, hX, rfl⟩ := hw1
      rw [eT] at hX
      generalize ynx (yt3 B) N A0 = R at hX hV k1 k2 k3
      obtain ⟨bg, A1, tk, vl⟩ := R
      obtain ⟨j0, j1, j2, j3, j4⟩ := hX
      simp only at j0 j1 j2 j3 hV k1 k2 k3
      have hP1 := yPS_n hP j4
      have g5 : n1 5 = op := hP1.2.2.2.2.1
      have HO : tk ≠ 0 → ∀ x y : Int32, vp_in ((mc_up n1 5 y) 4) (d 0).length ∧ yPS t B b (yhn (mc_up n1 5 y)) (yhd (mc_up n1 5 y) d x) (x :: st) o y := fun hk x y => yPS_holds (x := x) hP1 rfl rfl rfl (by have := k3 hk; omega)
      have HQ : tk ≠ 0 → ∀ x : Int32, vp_in (200 * m 4 + n1 6) (b 4).length ∧ yPS t B (ypb m b n1 x) (ypn n1) d st (o ++ [x]) op := fun hk x => yPS_puts (x := x) hP1 h4 ht hP1.2.2.1 g5 rfl hP1.2.2.2.1 (by have := k3 hk; omega)
      refine e_iloadn (pc := 18) dX7_eRead_18 rfl ?_
      refine e_if_eq (pc := 19) dX7_eRead_19 (t := 150) (by decide) (fun _ => ?_) (fun c_19 => absurd rfl c_19)
      refine e_aloadn (pc := 150) dX7_eRead_150 rfl ?_
      refine e_get (pc := 151) dX7_eRead_151 fX7_99 rfl rfl ?_
      refine e_top (j2) ?_
      refine e_bipush (v := 59) (pc := 154) dX7_eRead_154 (by decide) ?_
      refine e_icmp_ne (pc := 156) dX7_eRead_156 (t := 177) (by decide) (fun c_156 => ?_) (fun c_156 => ?_)
      · skip
        refine e_aloadn (pc := 177) dX7_eRead_177 rfl ?_
        refine e_get (pc := 178) dX7_eRead_178 fX7_99 rfl rfl ?_
        refine e_top (j2) ?_
        refine e_bipush (v := 41) (pc := 181) dX7_eRead_181 (by decide) ?_
        refine e_icmp_ne (pc := 183) dX7_eRead_183 (t := 229) (by decide) (fun c_183 => ?_) (fun c_183 => ?_)
        · skip
          refine e_aloadn (pc := 229) dX7_eRead_229 rfl ?_
          refine e_cvD (pc := 230) (sp_y_signOf) dX7_eRead_230 kX7_139 rfl rfl rfl rfl rfl (mc_CR_of (Nat.le_of_ble_eq_true rfl) (Nat.le_of_ble_eq_true rfl) (Nat.le_refl _) (Nat.le_refl _)) (Nat.le_of_ble_eq_true rfl) ?_
          rw [j2]
          refine e_isn3 (pc := 233) dX7_eRead_233 (Nat.le_of_ble_eq_true rfl) rfl ?_
          refine e_iloadn (pc := 234) dX7_eRead_234 rfl ?_
          refine e_iconst (v := -1) (pc := 235) dX7_eRead_235 (by decide) ?_
          refine e_icmp_eq (pc := 236) dX7_eRead_236 (t := 247) (by decide) (fun c_236 => ?_) (fun c_236 => ?_)
          · skip
            refine e_iconst (v := 0) (pc := 247) dX7_eRead_247 (by decide) ?_
            exact e_zret (pc := 248) dX7_eRead_248 rfl (by rfl) (Nat.le_refl _) (Nat.le_refl _) (by rw [if_neg c_156, if_neg c_183, if_pos c_236] at hV; subst hV; exact ⟨rfl, b, n1, d, hP1, j0, j1, rfl⟩)
          · skip
            refine e_aloadn (pc := 239) dX7_eRead_239 rfl ?_
            refine e_iloadn (pc := 240) dX7_eRead_240 rfl ?_
            refine e_cvX (pc := 241) (sp_y_between h4 ht hP1 (by have := k3 (fun w => c_236 (by rw [w]; decide)); omega)) dX7_eRead_241 kX7_142 rfl rfl rfl rfl rfl (mc_CR_of (Nat.le_of_ble_eq_true rfl) (Nat.le_of_ble_eq_true rfl) (Nat.le_refl _) (Nat.le_refl _)) (Nat.le_of_ble_eq_true rfl) (fun w1 hw1 => ?_)
            obtain ⟨b2, n2, d2, hP2, hK2, rfl⟩ := hw1
            refine e_if_ne (pc := 244) dX7_eRead_244 (t := 249) (by decide) (fun c_244 => ?_) (fun c_244 => ?_)
            · skip
              refine e_iconst (v := 1) (pc := 249) dX7_eRead_249 (by decide) ?_
              refine e_isn1 (pc := 250) dX7_eRead_250 (Nat.le_of_ble_eq_true rfl) rfl ?_
              refine e_iloadn (pc := 251) dX7_eRead_251 rfl ?_
              refine e_bipush (v := 12) (pc := 252) dX7_eRead_252 (by decide) ?_
              refine e_icmp_gt (pc := 254) dX7_eRead_254 (t := 261) (by decide) (fun c_254 => ?_) (fun c_254 => ?_)
              · skip
                refine e_iconst (v := 0) (pc := 261) dX7_eRead_261 (by decide) ?_
                refine e_isn2 (pc := 262) dX7_eRead_262 (Nat.le_of_ble_eq_true rfl) rfl ?_
                refine e_goto (pc := 263) dX7_eRead_263 (t := 14) (by decide) ?_
                have tk0 : tk ≠ 0 := fun w => c_236 (by rw [w]; decide)
                rw [if_neg c_156, if_neg c_183, if_neg c_236, if_neg (nbf (mc_b1.mp c_244)), show decide (ysg tk ≤ 12) = false from decide_eq_false (Int32.not_le.mpr c_254)] at hV
                exact ih A1 true false _ _ _ _ _ _ _ (by have := k3 tk0; omega) k2 (hK2.1.trans j0) hP2 (by have := ybt_len (ysg tk) st o op; have := k3 tk0; omega) hV
              · skip
                refine e_iconst (v := 1) (pc := 257) dX7_eRead_257 (by decide) ?_
                refine e_goto (pc := 258) dX7_eRead_258 (t := 262) (by decide) ?_
                refine e_isn2 (pc := 262) dX7_eRead_262 (Nat.le_of_ble_eq_true rfl) rfl ?_
                refine e_goto (pc := 263) dX7_eRead_263 (t := 14) (by decide) ?_
                have tk0 : tk ≠ 0 := fun w => c_236 (by rw [w]; decide)
                rw [if_neg c_156, if_neg c_183, if_neg c_236, if_neg (nbf (mc_b1.mp c_244)), show decide (ysg tk ≤ 12) = true from decide_eq_true (Int32.not_lt.mp c_254)] at hV
                exact ih A1 true true _ _ _ _ _ _ _ (by have := k3 tk0; omega) k2 (hK2.1.trans j0) hP2 (by have := ybt_len (ysg tk) st o op; have := k3 tk0; omega) hV
            · skip
              refine e_iconst (v := 0) (pc := 247) dX7_eRead_247 (by decide) ?_
              exact e_zret (pc := 248) dX7_eRead_248 rfl (by rfl) (Nat.le_refl _) (Nat.le_refl _) (by rw [if_neg c_156, if_neg c_183, if_neg c_236, if_pos (mc_b0.mp c_244)] at hV; subst hV; exact ⟨rfl, b2, n2, d2, hP2, hK2.1.trans j0, hK2.2.1.trans j1, rfl⟩)
        · skip
          refine e_aloadn (pc := 186) dX7_eRead_186 rfl ?_
          refine e_iconst (v := 1) (pc := 187) dX7_eRead_187 (by decide) ?_
          refine e_cvY (pc := 188) (sp_y_unwinds h4 ht hP1) dX7_eRead_188 kX7_129 rfl rfl rfl rfl rfl (mc_CR_of (Nat.le_of_ble_eq_true rfl) (Nat.le_of_ble_eq_true rfl) (Nat.le_refl _) (Nat.le_refl _)) (Nat.le_of_ble_eq_true rfl) (fun w1 hw1 => ?_)
          obtain ⟨b2, n2, hP2, hK2, rfl⟩ := hw1
          refine e_aloadn (pc := 191) dX7_eRead_191 rfl ?_
          refine e_get (pc := 192) dX7_eRead_192 fX7_112 rfl rfl ?_
          refine e_if_ne (pc := 195) dX7_eRead_195 (t := 200) (by decide) (fun c_195 => ?_) (fun c_195 => ?_)
          · skip
            refine e_aloadn (pc := 200) dX7_eRead_200 rfl ?_
            obtain ⟨y0, r0, hU⟩ : ∃ y0 r0, (yuw 1 st o op).1 = y0 :: r0 := emC hP2 c_195
            have hP2b := hP2
            rw [hU] at hP2b
            have eN : n2 4 - 1 = nI r0.length := by rw [hP2b.2.2.1]; exact nI_sub1 (n := r0.length + 1) (by omega)
            have hPP : yPS t B b2 (mc_up (mc_up n2 4 (n2 4 - 1)) 5 ((yuw 1 st o op).2.2 - 1)) d (yuw 1 st o op).1.tail (yuw 1 st o op).2.1 ((yuw 1 st o op).2.2 - 1) := by rw [hU]; exact yPS_pop hP2b eN rfl rfl
            have e5 : n2 5 = (yuw 1 st o op).2.2 := hP2.2.2.2.2.1
            refine e_dup (pc := 201) dX7_eRead_201 rfl ?_
            refine e_get (pc := 202) dX7_eRead_202 fX7_112 rfl rfl ?_
            refine e_iconst (v := 1) (pc := 205) dX7_eRead_205 (by decide) ?_
            refine e_isub (pc := 206) dX7_eRead_206 ?_
            refine put_y_heldMany (pc := 207) dX7_eRead_207 pX7_112 ?_
            refine e_aloadn (pc := 210) dX7_eRead_210 rfl ?_
            refine e_dup (pc := 211) dX7_eRead_211 rfl ?_
            refine e_get (pc := 212) dX7_eRead_212 fX7_119 rfl rfl ?_
            refine e_iconst (v := 1) (pc := 215) dX7_eRead_215 (by decide) ?_
            refine e_isub (pc := 216) dX7_eRead_216 ?_
            refine put_y_opens (pc := 217) dX7_eRead_217 pX7_119 ?_
            rw [show (mc_up n2 4 (n2 4 - 1)) 5 = (yuw 1 st o op).2.2 from e5]
            refine e_aloadn (pc := 220) dX7_eRead_220 rfl ?_
            refine e_bipush (v := 7) (pc := 221) dX7_eRead_221 (by decide) ?_
            refine e_cvY (pc := 223) (sp_y_unwinds h4 ht hPP) dX7_eRead_223 kX7_129 rfl rfl rfl rfl rfl (mc_CR_of (Nat.le_of_ble_eq_true rfl) (Nat.le_of_ble_eq_true rfl) (Nat.le_refl _) (Nat.le_refl _)) (Nat.le_of_ble_eq_true rfl) (fun w1 hw1 => ?_)
            obtain ⟨b3, n3, hP3, hK3, rfl⟩ := hw1
            refine e_goto (pc := 226) dX7_eRead_226 (t := 14) (by decide) ?_
            rw [if_neg c_156, if_pos c_183, if_neg (nbt (emF hP2 c_195))] at hV
            exact ih A1 false my _ _ _ _ _ _ _ (by have := k3 (by rw [c_183]; decide); omega) k2 (hK3.1.trans (hK2.1.trans j0)) hP3 (by have := yuw_len 1 st o op; rw [yuw_len, List.length_tail]; omega) hV
          · skip
            refine e_iconst (v := 0) (pc := 198) dX7_eRead_198 (by decide) ?_
            exact e_zret (pc := 199) dX7_eRead_199 rfl (by rfl) (Nat.le_refl _) (Nat.le_refl _) (by rw [if_neg c_156, if_pos c_183, if_pos (emT hP2 c_195)] at hV; subst hV; exact ⟨rfl, b2, n2, d, hP2, hK2.1.trans j0, hK2.2.1.trans j1, rfl⟩)
      · skip
        refine e_aloadn (pc := 159) dX7_eRead_159 rfl ?_
        refine e_iconst (v := 1) (pc := 160) dX7_eRead_160 (by decide) ?_
        refine e_cvY (pc := 161) (sp_y_unwinds h4 ht hP1) dX7_eRead_161 kX7_129 rfl rfl rfl rfl rfl (mc_CR_of (Nat.le_of_ble_eq_true rfl) (Nat.le_of_ble_eq_true rfl) (Nat.le_refl _) (Nat.le_refl _)) (Nat.le_of_ble_eq_true rfl) (fun w1 hw1 => ?_)
        obtain ⟨b2, n2, hP2, hK2, rfl⟩ := hw1
        refine e_aloadn (pc := 164) dX7_eRead_164 rfl ?_
        refine e_get (pc := 165) dX7_eRead_165 fX7_112 rfl rfl ?_
        refine e_if_ne (pc := 168) dX7_eRead_168 (t := 175) (by decide) (fun c_168 => ?_) (fun c_168 => ?_)
        · skip
          refine e_iconst (v := 0) (pc := 175) dX7_eRead_175 (by decide) ?_
          exact e_zret (pc := 176) dX7_eRead_176 rfl (by rfl) (Nat.le_refl _) (Nat.le_refl _) (by rw [if_pos c_156] at hV; subst hV; exact ⟨by show _ = some (Value.int (mc_b (yuw 1 st o op).1.isEmpty)); rw [emF hP2 c_168]; rfl, b2, n2, d, hP2, hK2.1.trans j0, hK2.2.1.trans j1, rfl⟩)
        · skip
          refine e_iconst (v := 1) (pc := 171) dX7_eRead_171 (by decide) ?_
          refine e_goto (pc := 172) dX7_eRead_172 (t := 176) (by decide) ?_
          exact e_zret (pc := 176) dX7_eRead_176 rfl (by rfl) (Nat.le_refl _) (Nat.le_refl _) (by rw [if_pos c_156] at hV; subst hV; exact ⟨by show _ = some (Value.int (mc_b (yuw 1 st o op).1.isEmpty)); rw [emT hP2 c_168]; rfl, b2, n2, d, hP2, hK2.1.trans j0, hK2.2.1.trans j1, rfl⟩)
theorem sp_y_eRead {s u m n : Nat → Int32} {a c b d : Nat → List Int32} {q : List (Option Nat)} {h : Nat} {z : mc_W} {t : Nat} {B : Nat → List Int32} {N A0 : Nat} {o : List Int32} {op : Int32} {st : List Int32} (hL : yL B) (hN : m 3 = nI N) (hN2 : N ≤ 160) (h4 : m 4 = nI t) (ht : t < 6) (hA : A0 ≤ N) (h0 : n 0 = nI A0) (hP : yPS t B b n d st o op) (hl : o.length ≤ A0) : mc_T yX7_eRead cX7_eRead 4 (some .boolean) 4 [.ref 29] (WW s a q u c h m b n d z) (some (.int (mc_b (yer (yt3 B) N (N + 1) A0 true true [] o 0).1))) (fun w' => ∃ b1 n1 d1, yPS t B b1 n1 d1 (yer (yt3 B) N (N + 1) A0 true true [] o 0).2.2.2.1 (yer (yt3 B) N (N + 1) A0 true true [] o 0).2.2.2.2.1 (yer (yt3 B) N (N + 1) A0 true true [] o 0).2.2.2.2.2 ∧ n1 0 = nI (yer (yt3 B) N (N + 1) A0 true true [] o 0).2.1 ∧ n1 1 = nI (yer (yt3 B) N (N + 1) A0 true true [] o 0).2.2.1 ∧ w' = WW s a q u c h m b1 n1 d1 z) := by
  refine mc_start (own := RX7) (ini := false) rfl (by decide +kernel) (fun h => by cases h) (Nat.le_of_ble_eq_true rfl) ?_
  show mc_E _ _ _ _ _ [some (.ref 29), none, none, none] [] _ _ _
  refine e_aloadn (pc := 0) dX7_eRead_0 rfl ?_
  refine e_iconst (v := 0) (pc := 1) dX7_eRead_1 (by decide) ?_
  refine put_y_heldMany (pc := 2) dX7_eRead_2 pX7_112 ?_
  refine e_aloadn (pc := 5) dX7_eRead_5 rfl ?_
  refine e_iconst (v := 0) (pc := 6) dX7_eRead_6 (by decide) ?_
  refine put_y_opens (pc := 7) dX7_eRead_7 pX7_119 ?_
  refine e_iconst (v := 1) (pc := 10) dX7_eRead_10 (by decide) ?_
  refine e_isn1 (pc := 11) dX7_eRead_11 (Nat.le_of_ble_eq_true rfl) rfl ?_
  refine e_iconst (v := 1) (pc := 12) dX7_eRead_12 (by decide) ?_
  refine e_isn2 (pc := 13) dX7_eRead_13 (Nat.le_of_ble_eq_true rfl) rfl ?_
  exact lp_y_er hL hN hN2 h4 ht (N + 1) A0 true true [] o 0 b _ d none (by omega) hA h0 ⟨hP.1, hP.2.1, rfl, rfl, rfl, hP.2.2.2.2.2.1, by simp; omega⟩ (by simp; omega) rfl
