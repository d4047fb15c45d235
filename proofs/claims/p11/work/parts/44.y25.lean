/-! the held signs -/
/-- the world of a reading: t the text, st the held (the last first), o what is put, op the opens -/
def yPS (t : Nat) (B b : Nat → List Int32) (n : Nat → Int32) (d : Nat → List Int32) (st o : List Int32) (op : Int32) : Prop :=
  (∃ l, b = mc_up B 4 l ∧ l.length = 1200 ∧ (∀ i, i < o.length → l.getD (200 * t + i) 0 = o.getD i 0) ∧ ∀ i, i < 200 * t ∨ 200 * t + 200 ≤ i → l.getD i 0 = (B 4).getD i 0) ∧
  yD d ∧ n 4 = nI st.length ∧ (d 0).take st.length = st.reverse ∧ n 5 = op ∧ n 6 = nI o.length ∧ o.length + st.length ≤ 160
def yuw (le : Int32) : List Int32 → List Int32 → Int32 → List Int32 × List Int32 × Int32
  | [], o, op => ([], o, op)
  | x :: r, o, op => if yy_rk x < le then (x :: r, o, op) else yuw le r (o ++ [x]) (op - (if x = 13 ∨ x = 19 then 1 else 0))
def yK4 (n n1 : Nat → Int32) : Prop := n1 0 = n 0 ∧ n1 1 = n 1 ∧ n1 2 = n 2 ∧ n1 3 = n 3 ∧ n1 7 = n 7
theorem ps_idx {t : Nat} {m n : Nat → Int32} {k : Nat} (h4 : m 4 = nI t) (h6 : n 6 = nI k) : 200 * m 4 + n 6 = nI (200 * t + k) := by
  rw [h4, h6, show (200 : Int32) * nI t = nI (200 * t) from pk_mul 200 t, nI_add]
/-- one more is put -/
theorem yPS_puts {t : Nat} {B b : Nat → List Int32} {m n n1 : Nat → Int32} {d : Nat → List Int32} {st st1 o : List Int32} {op op1 x : Int32} (h : yPS t B b n d st o op) (h4 : m 4 = nI t) (ht : t < 6)
    (k4 : n1 4 = nI st1.length) (k5 : n1 5 = op1) (k6 : n1 6 = n 6) (ks : (d 0).take st1.length = st1.reverse) (kl : o.length + 1 + st1.length ≤ 160) :
    vp_in (200 * m 4 + n1 6) (b 4).length ∧ yPS t B (ypb m b n1 x) (ypn n1) d st1 (o ++ [x]) op1 := by
  obtain ⟨⟨l, hb, hl, ho, hx⟩, hD, g4, gs, g5, g6, gl⟩ := h
  subst hb
  have e : 200 * m 4 + n1 6 = nI (200 * t + o.length) := ps_idx h4 (k6.trans g6)
  have ec : (200 * m 4 + n1 6).toNatClampNeg = 200 * t + o.length := by rw [e, nIc (by omega)]
  refine ⟨by rw [e]; show vp_in _ l.length; rw [hl]; exact vp_in_nI (by omega) (by decide), ⟨l.set (200 * t + o.length) x, ?_, by rw [List.length_set]; exact hl, fun i hi => ?_, fun i hi => ?_⟩, hD, k4, ks, k5, ?_, by rw [List.length_append]; simp; omega⟩
  · unfold ypb; rw [up_setl, ec]
  · rw [List.length_append] at hi
    rw [gD_set (by rw [hl]; omega)]
    by_cases e1 : i = o.length
    · rw [if_pos (by omega), e1, List.getD_eq_getElem?_getD, List.getElem?_append_right (Nat.le_refl _), Nat.sub_self]; rfl
    · simp at hi
      rw [if_neg (by omega), ho i (by omega), List.getD_eq_getElem?_getD, List.getD_eq_getElem?_getD, List.getElem?_append_left (by omega)]
  · rw [gD_set (by rw [hl]; omega), if_neg (by omega)]; exact hx i hi
  · show n1 6 + 1 = _
    rw [k6, g6, nI_1, List.length_append]; rfl
theorem lp_y_unwinds {s u m : Nat → Int32} {a c d : Nat → List Int32} {q : List (Option Nat)} {h : Nat} {z : mc_W} {t : Nat} {B : Nat → List Int32} {n0 : Nat → Int32} {le : Int32} {V : List Int32 × List Int32 × Int32} (h4 : m 4 = nI t) (ht : t < 6) :
    ∀ (st o : List Int32) (op : Int32) (b : Nat → List Int32) (n : Nat → Int32) (x2 : Option Value), yPS t B b n d st o op → yK4 n0 n → yuw le st o op = V →
      mc_E RX7 cX7_unwinds 3 (mc_JM none false 2 0 0 (fun r' w' => r' = none ∧ ∃ b1 n1, yPS t B b1 n1 d V.1 V.2.1 V.2.2 ∧ yK4 n0 n1 ∧ w' = WW s a q u c h m b1 n1 d z)) 0 [some (.ref 29), some (.int le), x2] [] (WW s a q u c h m b n d z) 0 0 := by
  intro st
  induction st with
  | nil =>
    intro o op b n x2 hP hK hV
    have hV : ([], o, op) = V := hV
    subst hV
    have g4 : n 4 = nI 0 := hP.2.2.1
    refine e_aloadn (pc := 0) dX7_unwinds_0 rfl ?_
    refine e_get (pc := 1) dX7_unwinds_1 fX7_112 rfl rfl ?_
    refine e_top (g4) ?_
    refine e_if_le (pc := 4) dX7_unwinds_4 (t := 79) (by decide) (fun _ => ?_) (fun c_4 => absurd (by decide) c_4)
    exact e_vret (pc := 79) dX7_unwinds_79 rfl (Nat.le_refl _) (Nat.le_refl _) ⟨rfl, b, n, hP, hK, rfl⟩
  | cons x r ih =>
    intro o op b n x2 hP hK hV
    simp only [yuw] at hV
    have g4 : n 4 = nI (r.length + 1) := hP.2.2.1
    have gl : o.length + (r.length + 1) ≤ 160 := hP.2.2.2.2.2.2
    have gs : (d 0).take (r.length + 1) = (x :: r).reverse := hP.2.2.2.1
    obtain ⟨t1, t2, t3⟩ := tk_last gs rfl
    simp only [Nat.add_sub_cancel] at t1 t2 t3
    have es : nI (r.length + 1) - 1 = nI r.length := nI_sub1 (by omega)
    have iv : vp_in (nI r.length) (d 0).length := by rw [hP.2.1.1]; exact vp_in_nI (by omega) (by decide)
    have ex : (d 0).getD (nI r.length).toNatClampNeg 0 = x := by rw [nIc (by omega)]; exact t2
    have e4 : (mc_up n 4 (nI r.length)) 4 = nI r.length := rfl
    have g5 : n 5 = op := hP.2.2.2.2.1
    have PP : ∀ y : Int32, vp_in (200 * m 4 + (mc_up (mc_up n 4 (nI r.length)) 5 y) 6) (b 4).length ∧ yPS t B (ypb m b (mc_up (mc_up n 4 (nI r.length)) 5 y) x) (ypn (mc_up (mc_up n 4 (nI r.length)) 5 y)) d r (o ++ [x]) y :=
      fun y => yPS_puts hP h4 ht rfl rfl rfl t1 (by omega)
    have KK : ∀ y : Int32, yK4 n0 (ypn (mc_up (mc_up n 4 (nI r.length)) 5 y)) := fun y => hK
    refine e_aloadn (pc := 0) dX7_unwinds_0 rfl ?_
    refine e_get (pc := 1) dX7_unwinds_1 fX7_112 rfl rfl ?_
    refine e_top (g4) ?_
    refine e_if_le (pc := 4) dX7_unwinds_4 (t := 79) (by decide) (fun c_4 => absurd c_4 (by rw [Int32.le_iff_toInt_le, nI_toInt (by omega), show (0 : Int32).toInt = 0 from rfl]; omega)) (fun _ => ?_)
    refine e_aloadn (pc := 7) dX7_unwinds_7 rfl ?_
    refine e_get (pc := 8) dX7_unwinds_8 fX7_53 rfl rfl ?_
    refine e_aloadn (pc := 11) dX7_unwinds_11 rfl ?_
    refine e_get (pc := 12) dX7_unwinds_12 fX7_112 rfl rfl ?_
    refine e_top (g4) ?_
    refine e_iconst (v := 1) (pc := 15) dX7_unwinds_15 (by decide) ?_
    refine e_isub (pc := 16) dX7_unwinds_16 ?_
    refine e_top (es) ?_
    refine aldv_held (pc := 17) dX7_unwinds_17 iv ex ?_
    refine e_csD (pc := 18) (sp_y_rank) dX7_unwinds_18 kX7_115 rfl rfl (mc_CR_of (Nat.le_of_ble_eq_true rfl) (Nat.le_of_ble_eq_true rfl) (Nat.le_refl _) (Nat.le_refl _)) (Nat.le_of_ble_eq_true rfl) ?_
    refine e_iloadn (pc := 21) dX7_unwinds_21 rfl ?_
    refine e_icmp_lt (pc := 22) dX7_unwinds_22 (t := 79) (by decide) (fun c_22 => ?_) (fun c_22 => ?_)
    · skip
      exact e_vret (pc := 79) dX7_unwinds_79 rfl (Nat.le_refl _) (Nat.le_refl _) ⟨rfl, b, n, (by rw [if_pos c_22] at hV; subst hV; exact hP), hK, rfl⟩
    · skip
      refine e_aloadn (pc := 25) dX7_unwinds_25 rfl ?_
      refine e_dup (pc := 26) dX7_unwinds_26 rfl ?_
      refine e_get (pc := 27) dX7_unwinds_27 fX7_112 rfl rfl ?_
      refine e_top (g4) ?_
      refine e_iconst (v := 1) (pc := 30) dX7_unwinds_30 (by decide) ?_
      refine e_isub (pc := 31) dX7_unwinds_31 ?_
      refine e_top (es) ?_
      refine put_y_heldMany (pc := 32) dX7_unwinds_32 pX7_112 ?_
      refine e_aloadn (pc := 35) dX7_unwinds_35 rfl ?_
      refine e_get (pc := 36) dX7_unwinds_36 fX7_53 rfl rfl ?_
      refine e_aloadn (pc := 39) dX7_unwinds_39 rfl ?_
      refine e_get (pc := 40) dX7_unwinds_40 fX7_112 rfl rfl ?_
      refine e_top (e4) ?_
      refine aldv_held (pc := 43) dX7_unwinds_43 iv ex ?_
      refine e_isn2 (pc := 44) dX7_unwinds_44 (Nat.le_of_ble_eq_true rfl) rfl ?_
      refine e_aloadn (pc := 45) dX7_unwinds_45 rfl ?_
      refine e_dup (pc := 46) dX7_unwinds_46 rfl ?_
      refine e_get (pc := 47) dX7_unwinds_47 fX7_119 rfl rfl ?_
      refine e_iloadn (pc := 50) dX7_unwinds_50 rfl ?_
      refine e_bipush (v := 13) (pc := 51) dX7_unwinds_51 (by decide) ?_
      refine e_icmp_eq (pc := 53) dX7_unwinds_53 (t := 62) (by decide) (fun c_53 => ?_) (fun c_53 => ?_)
      · skip
        refine e_iconst (v := 1) (pc := 62) dX7_unwinds_62 (by decide) ?_
        refine e_goto (pc := 63) dX7_unwinds_63 (t := 67) (by decide) ?_
        refine e_isub (pc := 67) dX7_unwinds_67 ?_
        refine put_y_opens (pc := 68) dX7_unwinds_68 pX7_119 ?_
        refine e_aloadn (pc := 71) dX7_unwinds_71 rfl ?_
        refine e_iloadn (pc := 72) dX7_unwinds_72 rfl ?_
        refine e_cvU (pc := 73) (sp_y_puts (PP _).1) dX7_unwinds_73 kX7_122 rfl rfl rfl rfl rfl (mc_CR_of (Nat.le_of_ble_eq_true rfl) (Nat.le_of_ble_eq_true rfl) (Nat.le_refl _) (Nat.le_refl _)) (Nat.le_of_ble_eq_true rfl) ?_
        refine e_goto (pc := 76) dX7_unwinds_76 (t := 0) (by decide) ?_
        rw [if_neg c_22, if_pos (Or.inl c_53), ← g5] at hV
        exact ih _ _ _ _ _ (PP (n 5 - 1)).2 (KK (n 5 - 1)) hV
      · skip
        refine e_iloadn (pc := 56) dX7_unwinds_56 rfl ?_
        refine e_bipush (v := 19) (pc := 57) dX7_unwinds_57 (by decide) ?_
        refine e_icmp_ne (pc := 59) dX7_unwinds_59 (t := 66) (by decide) (fun c_59 => ?_) (fun c_59 => ?_)
        · skip
          refine e_iconst (v := 0) (pc := 66) dX7_unwinds_66 (by decide) ?_
          refine e_isub (pc := 67) dX7_unwinds_67 ?_
          refine put_y_opens (pc := 68) dX7_unwinds_68 pX7_119 ?_
          refine e_aloadn (pc := 71) dX7_unwinds_71 rfl ?_
          refine e_iloadn (pc := 72) dX7_unwinds_72 rfl ?_
          refine e_cvU (pc := 73) (sp_y_puts (PP _).1) dX7_unwinds_73 kX7_122 rfl rfl rfl rfl rfl (mc_CR_of (Nat.le_of_ble_eq_true rfl) (Nat.le_of_ble_eq_true rfl) (Nat.le_refl _) (Nat.le_refl _)) (Nat.le_of_ble_eq_true rfl) ?_
          refine e_goto (pc := 76) dX7_unwinds_76 (t := 0) (by decide) ?_
          rw [if_neg c_22, if_neg (fun q => q.elim c_53 c_59), ← g5] at hV
          exact ih _ _ _ _ _ (PP (n 5 - 0)).2 (KK (n 5 - 0)) hV
        · skip
          refine e_iconst (v := 1) (pc := 62) dX7_unwinds_62 (by decide) ?_
          refine e_goto (pc := 63) dX7_unwinds_63 (t := 67) (by decide) ?_
          refine e_isub (pc := 67) dX7_unwinds_67 ?_
          refine put_y_opens (pc := 68) dX7_unwinds_68 pX7_119 ?_
          refine e_aloadn (pc := 71) dX7_unwinds_71 rfl ?_
          refine e_iloadn (pc := 72) dX7_unwinds_72 rfl ?_
          refine e_cvU (pc := 73) (sp_y_puts (PP _).1) dX7_unwinds_73 kX7_122 rfl rfl rfl rfl rfl (mc_CR_of (Nat.le_of_ble_eq_true rfl) (Nat.le_of_ble_eq_true rfl) (Nat.le_refl _) (Nat.le_refl _)) (Nat.le_of_ble_eq_true rfl) ?_
          refine e_goto (pc := 76) dX7_unwinds_76 (t := 0) (by decide) ?_
          rw [if_neg c_22, if_pos (Or.inr c_59), ← g5] at hV
          exact ih _ _ _ _ _ (PP (n 5 - 1)).2 (KK (n 5 - 1)) hV
