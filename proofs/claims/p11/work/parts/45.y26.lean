/-! signs between -/
theorem sp_y_unwinds {s u m n : Nat → Int32} {a c b d : Nat → List Int32} {q : List (Option Nat)} {h : Nat} {z : mc_W} {t : Nat} {B : Nat → List Int32} {le op : Int32} {st o : List Int32} (h4 : m 4 = nI t) (ht : t < 6) (hP : yPS t B b n d st o op) : mc_T yX7_unwinds cX7_unwinds 3 none 2 [.ref 29, .int le] (WW s a q u c h m b n d z) none (fun w' => ∃ b1 n1, yPS t B b1 n1 d (yuw le st o op).1 (yuw le st o op).2.1 (yuw le st o op).2.2 ∧ yK4 n n1 ∧ w' = WW s a q u c h m b1 n1 d z) := by
  refine mc_start (own := RX7) (ini := false) rfl (by decide +kernel) (fun h => by cases h) (Nat.le_of_ble_eq_true rfl) ?_
  show mc_E _ _ _ _ _ [some (.ref 29), some (.int le), none] [] _ _ _
  exact lp_y_unwinds (n0 := n) h4 ht st o op b n none hP ⟨rfl, rfl, rfl, rfl, rfl⟩ rfl
theorem yuw_len (le : Int32) : ∀ st o op, (yuw le st o op).2.1.length + (yuw le st o op).1.length = o.length + st.length := by
  intro st
  induction st with
  | nil => intro o op; rfl
  | cons x r ih =>
    intro o op
    unfold yuw
    split
    · rfl
    · rw [ih, List.length_append]; simp; omega
theorem yK4.tr {n n1 n2 : Nat → Int32} (h : yK4 n n1) (k : yK4 n1 n2) : yK4 n n2 :=
  ⟨k.1.trans h.1, k.2.1.trans h.2.1, k.2.2.1.trans h.2.2.1, k.2.2.2.1.trans h.2.2.2.1, k.2.2.2.2.trans h.2.2.2.2⟩
/-- one more is held -/
theorem yPS_holds {t : Nat} {B b : Nat → List Int32} {n n1 : Nat → Int32} {d : Nat → List Int32} {st o : List Int32} {op op1 x : Int32} (h : yPS t B b n d st o op)
    (k4 : n1 4 = n 4) (k5 : n1 5 = op1) (k6 : n1 6 = n 6) (kl : o.length + st.length < 160) :
    vp_in (n1 4) (d 0).length ∧ yPS t B b (yhn n1) (yhd n1 d x) (x :: st) o op1 := by
  obtain ⟨hl, hD, g4, gs, g5, g6, gl⟩ := h
  have e : n1 4 = nI st.length := k4.trans g4
  refine ⟨by rw [e, hD.1]; exact vp_in_nI (by omega) (by decide), hl, ⟨?_, hD.2.1, hD.2.2.1, hD.2.2.2⟩, ?_, ?_, k5, k6.trans g6, by simp; omega⟩
  · show ((d 0).set _ x).length = 200
    rw [List.length_set]; exact hD.1
  · show n1 4 + 1 = _
    rw [e, nI_1]; rfl
  · show ((d 0).set (n1 4).toNatClampNeg x).take (st.length + 1) = _
    rw [e, nIc (by omega), tk_set _ _ _ (by rw [hD.1]; omega), gs, List.reverse_cons]
def ybt2 (sg : Int32) (o : List Int32) (op : Int32) : List Int32 → Bool × List Int32 × List Int32 × Int32
  | [] => (true, [sg], o, op)
  | x :: r => if yy_rk sg = 4 ∧ yy_rk x = 4 then (false, x :: r, o, op) else (true, sg :: x :: r, o, op)
def ybt (sg : Int32) (st o : List Int32) (op : Int32) : Bool × List Int32 × List Int32 × Int32 :=
  ybt2 sg (yuw (if yy_rk sg = 4 then 5 else yy_rk sg) st o op).2.1 (yuw (if yy_rk sg = 4 then 5 else yy_rk sg) st o op).2.2 (yuw (if yy_rk sg = 4 then 5 else yy_rk sg) st o op).1
theorem lp_y_btw {s u m : Nat → Int32} {a c : Nat → List Int32} {q : List (Option Nat)} {h : Nat} {z : mc_W} {t : Nat} {B : Nat → List Int32} {n0 : Nat → Int32} {sg : Int32} {V : Bool × List Int32 × List Int32 × Int32} :
    ∀ (st o : List Int32) (op : Int32) (b : Nat → List Int32) (n : Nat → Int32) (d : Nat → List Int32), yPS t B b n d st o op → o.length + st.length < 160 → yK4 n0 n → ybt2 sg o op st = V →
      mc_E RX7 cX7_between 2 (mc_JM (some .boolean) false 3 0 0 (fun r' w' => r' = some (.int (mc_b V.1)) ∧ ∃ b1 n1 d1, yPS t B b1 n1 d1 V.2.1 V.2.2.1 V.2.2.2 ∧ yK4 n0 n1 ∧ w' = WW s a q u c h m b1 n1 d1 z)) 20 [some (.ref 29), some (.int sg)] [] (WW s a q u c h m b n d z) 0 0 := by
  intro st o op b n d hP hl hK hV
  have HH := yPS_holds (x := sg) hP rfl hP.2.2.2.2.1 rfl hl
  cases st with
  | nil =>
    have hV : (true, [sg], o, op) = V := hV
    subst hV
    have g4 : n 4 = nI 0 := hP.2.2.1
    refine e_iloadn (pc := 20) dX7_between_20 rfl ?_
    refine e_csD (pc := 21) (sp_y_rank) dX7_between_21 kX7_115 rfl rfl (mc_CR_of (Nat.le_of_ble_eq_true rfl) (Nat.le_of_ble_eq_true rfl) (Nat.le_refl _) (Nat.le_refl _)) (Nat.le_of_ble_eq_true rfl) ?_
    refine e_iconst (v := 4) (pc := 24) dX7_between_24 (by decide) ?_
    refine e_icmp_ne (pc := 25) dX7_between_25 (t := 55) (by decide) (fun c_25 => ?_) (fun c_25 => ?_)
    · skip
      refine e_aloadn (pc := 55) dX7_between_55 rfl ?_
      refine e_iloadn (pc := 56) dX7_between_56 rfl ?_
      refine e_cvU (pc := 57) (sp_y_holds HH.1) dX7_between_57 kX7_126 rfl rfl rfl rfl rfl (mc_CR_of (Nat.le_of_ble_eq_true rfl) (Nat.le_of_ble_eq_true rfl) (Nat.le_refl _) (Nat.le_refl _)) (Nat.le_of_ble_eq_true rfl) ?_
      refine e_iconst (v := 1) (pc := 60) dX7_between_60 (by decide) ?_
      exact e_zret (pc := 61) dX7_between_61 rfl (by rfl) (Nat.le_refl _) (Nat.le_refl _) ⟨rfl, _, _, _, HH.2, hK, rfl⟩
    · skip
      refine e_aloadn (pc := 28) dX7_between_28 rfl ?_
      refine e_get (pc := 29) dX7_between_29 fX7_112 rfl rfl ?_
      refine e_top (g4) ?_
      refine e_if_le (pc := 32) dX7_between_32 (t := 55) (by decide) (fun _ => ?_) (fun c_32 => absurd (by decide) c_32)
      refine e_aloadn (pc := 55) dX7_between_55 rfl ?_
      refine e_iloadn (pc := 56) dX7_between_56 rfl ?_
      refine e_cvU (pc := 57) (sp_y_holds HH.1) dX7_between_57 kX7_126 rfl rfl rfl rfl rfl (mc_CR_of (Nat.le_of_ble_eq_true rfl) (Nat.le_of_ble_eq_true rfl) (Nat.le_refl _) (Nat.le_refl _)) (Nat.le_of_ble_eq_true rfl) ?_
      refine e_iconst (v := 1) (pc := 60) dX7_between_60 (by decide) ?_
      exact e_zret (pc := 61) dX7_between_61 rfl (by rfl) (Nat.le_refl _) (Nat.le_refl _) ⟨rfl, _, _, _, HH.2, hK, rfl⟩
  | cons x r =>
    simp only [ybt2] at hV
    have g4 : n 4 = nI (r.length + 1) := hP.2.2.1
    have gl : o.length + (r.length + 1) ≤ 160 := hP.2.2.2.2.2.2
    have gs : (d 0).take (r.length + 1) = (x :: r).reverse := hP.2.2.2.1
    obtain ⟨t1, t2, t3⟩ := tk_last gs rfl
    simp only [Nat.add_sub_cancel] at t1 t2 t3
    have es : nI (r.length + 1) - 1 = nI r.length := nI_sub1 (by omega)
    have iv : vp_in (nI r.length) (d 0).length := by rw [hP.2.1.1]; exact vp_in_nI (by omega) (by decide)
    have ex : (d 0).getD (nI r.length).toNatClampNeg 0 = x := by rw [nIc (by omega)]; exact t2
    refine e_iloadn (pc := 20) dX7_between_20 rfl ?_
    refine e_csD (pc := 21) (sp_y_rank) dX7_between_21 kX7_115 rfl rfl (mc_CR_of (Nat.le_of_ble_eq_true rfl) (Nat.le_of_ble_eq_true rfl) (Nat.le_refl _) (Nat.le_refl _)) (Nat.le_of_ble_eq_true rfl) ?_
    refine e_iconst (v := 4) (pc := 24) dX7_between_24 (by decide) ?_
    refine e_icmp_ne (pc := 25) dX7_between_25 (t := 55) (by decide) (fun c_25 => ?_) (fun c_25 => ?_)
    · skip
      refine e_aloadn (pc := 55) dX7_between_55 rfl ?_
      refine e_iloadn (pc := 56) dX7_between_56 rfl ?_
      refine e_cvU (pc := 57) (sp_y_holds HH.1) dX7_between_57 kX7_126 rfl rfl rfl rfl rfl (mc_CR_of (Nat.le_of_ble_eq_true rfl) (Nat.le_of_ble_eq_true rfl) (Nat.le_refl _) (Nat.le_refl _)) (Nat.le_of_ble_eq_true rfl) ?_
      refine e_iconst (v := 1) (pc := 60) dX7_between_60 (by decide) ?_
      exact e_zret (pc := 61) dX7_between_61 rfl (by rfl) (Nat.le_refl _) (Nat.le_refl _) (by rw [if_neg (fun q => c_25 q.1)] at hV; subst hV; exact ⟨rfl, _, _, _, HH.2, hK, rfl⟩)
    · skip
      refine e_aloadn (pc := 28) dX7_between_28 rfl ?_
      refine e_get (pc := 29) dX7_between_29 fX7_112 rfl rfl ?_
      refine e_top (g4) ?_
      refine e_if_le (pc := 32) dX7_between_32 (t := 55) (by decide) (fun c_32 => absurd c_32 (by rw [Int32.le_iff_toInt_le, nI_toInt (by omega), show (0 : Int32).toInt = 0 from rfl]; omega)) (fun _ => ?_)
      refine e_aloadn (pc := 35) dX7_between_35 rfl ?_
      refine e_get (pc := 36) dX7_between_36 fX7_53 rfl rfl ?_
      refine e_aloadn (pc := 39) dX7_between_39 rfl ?_
      refine e_get (pc := 40) dX7_between_40 fX7_112 rfl rfl ?_
      refine e_top (g4) ?_
      refine e_iconst (v := 1) (pc := 43) dX7_between_43 (by decide) ?_
      refine e_isub (pc := 44) dX7_between_44 ?_
      refine e_top (es) ?_
      refine aldv_held (pc := 45) dX7_between_45 iv ex ?_
      refine e_csD (pc := 46) (sp_y_rank) dX7_between_46 kX7_115 rfl rfl (mc_CR_of (Nat.le_of_ble_eq_true rfl) (Nat.le_of_ble_eq_true rfl) (Nat.le_refl _) (Nat.le_refl _)) (Nat.le_of_ble_eq_true rfl) ?_
      refine e_iconst (v := 4) (pc := 49) dX7_between_49 (by decide) ?_
      refine e_icmp_ne (pc := 50) dX7_between_50 (t := 55) (by decide) (fun c_50 => ?_) (fun c_50 => ?_)
      · skip
        refine e_aloadn (pc := 55) dX7_between_55 rfl ?_
        refine e_iloadn (pc := 56) dX7_between_56 rfl ?_
        refine e_cvU (pc := 57) (sp_y_holds HH.1) dX7_between_57 kX7_126 rfl rfl rfl rfl rfl (mc_CR_of (Nat.le_of_ble_eq_true rfl) (Nat.le_of_ble_eq_true rfl) (Nat.le_refl _) (Nat.le_refl _)) (Nat.le_of_ble_eq_true rfl) ?_
        refine e_iconst (v := 1) (pc := 60) dX7_between_60 (by decide) ?_
        exact e_zret (pc := 61) dX7_between_61 rfl (by rfl) (Nat.le_refl _) (Nat.le_refl _) (by rw [if_neg (fun q => c_50 q.2)] at hV; subst hV; exact ⟨rfl, _, _, _, HH.2, hK, rfl⟩)
      · skip
        refine e_iconst (v := 0) (pc := 53) dX7_between_53 (by decide) ?_
        exact e_zret (pc := 54) dX7_between_54 rfl (by rfl) (Nat.le_refl _) (Nat.le_refl _) (by rw [if_pos ⟨c_25, c_50⟩] at hV; subst hV; exact ⟨rfl, _, _, _, hP, hK, rfl⟩)
theorem sp_y_between {s u m n : Nat → Int32} {a c b d : Nat → List Int32} {q : List (Option Nat)} {h : Nat} {z : mc_W} {t : Nat} {B : Nat → List Int32} {sg op : Int32} {st o : List Int32} (h4 : m 4 = nI t) (ht : t < 6) (hP : yPS t B b n d st o op) (hl : o.length + st.length < 160) : mc_T yX7_between cX7_between 2 (some .boolean) 3 [.ref 29, .int sg] (WW s a q u c h m b n d z) (some (.int (mc_b (ybt sg st o op).1))) (fun w' => ∃ b1 n1 d1, yPS t B b1 n1 d1 (ybt sg st o op).2.1 (ybt sg st o op).2.2.1 (ybt sg st o op).2.2.2 ∧ yK4 n n1 ∧ w' = WW s a q u c h m b1 n1 d1 z) := by
  refine mc_start (own := RX7) (ini := false) rfl (by decide +kernel) (fun h => by cases h) (Nat.le_of_ble_eq_true rfl) ?_
  show mc_E _ _ _ _ _ [some (.ref 29), some (.int sg)] [] _ _ _
  refine e_aloadn (pc := 0) dX7_between_0 rfl ?_
  refine e_iloadn (pc := 1) dX7_between_1 rfl ?_
  refine e_csD (pc := 2) (sp_y_rank) dX7_between_2 kX7_115 rfl rfl (mc_CR_of (Nat.le_of_ble_eq_true rfl) (Nat.le_of_ble_eq_true rfl) (Nat.le_refl _) (Nat.le_refl _)) (Nat.le_of_ble_eq_true rfl) ?_
  refine e_iconst (v := 4) (pc := 5) dX7_between_5 (by decide) ?_
  refine e_icmp_ne (pc := 6) dX7_between_6 (t := 13) (by decide) (fun c_6 => ?_) (fun c_6 => ?_)
  · skip
    refine e_iloadn (pc := 13) dX7_between_13 rfl ?_
    refine e_csD (pc := 14) (sp_y_rank) dX7_between_14 kX7_115 rfl rfl (mc_CR_of (Nat.le_of_ble_eq_true rfl) (Nat.le_of_ble_eq_true rfl) (Nat.le_refl _) (Nat.le_refl _)) (Nat.le_of_ble_eq_true rfl) ?_
    refine e_cvY (pc := 17) (sp_y_unwinds h4 ht hP) dX7_between_17 kX7_129 rfl rfl rfl rfl rfl (mc_CR_of (Nat.le_of_ble_eq_true rfl) (Nat.le_of_ble_eq_true rfl) (Nat.le_refl _) (Nat.le_refl _)) (Nat.le_of_ble_eq_true rfl) (fun w1 hw1 => ?_)
    obtain ⟨b1, n1, hP1, hK1, rfl⟩ := hw1
    have ele : (if yy_rk sg = 4 then (5 : Int32) else yy_rk sg) = yy_rk sg := if_neg c_6
    exact lp_y_btw (n0 := n) _ _ _ b1 n1 d hP1 (by rw [yuw_len]; exact hl) hK1 (by unfold ybt; rw [ele])
  · skip
    refine e_iconst (v := 5) (pc := 9) dX7_between_9 (by decide) ?_
    refine e_goto (pc := 10) dX7_between_10 (t := 17) (by decide) ?_
    refine e_cvY (pc := 17) (sp_y_unwinds h4 ht hP) dX7_between_17 kX7_129 rfl rfl rfl rfl rfl (mc_CR_of (Nat.le_of_ble_eq_true rfl) (Nat.le_of_ble_eq_true rfl) (Nat.le_refl _) (Nat.le_refl _)) (Nat.le_of_ble_eq_true rfl) (fun w1 hw1 => ?_)
    obtain ⟨b1, n1, hP1, hK1, rfl⟩ := hw1
    have ele : (if yy_rk sg = 4 then (5 : Int32) else yy_rk sg) = 5 := if_pos c_6
    exact lp_y_btw (n0 := n) _ _ _ b1 n1 d hP1 (by rw [yuw_len]; exact hl) hK1 (by unfold ybt; rw [ele])
