/-! a text, the parts -/
/-- what of the world of a reading stands before an E begins -/
def yP0 (t : Nat) (B b : Nat → List Int32) (n : Nat → Int32) (d : Nat → List Int32) (o : List Int32) : Prop :=
  (∃ l, b = mc_up B 4 l ∧ l.length = 1200 ∧ (∀ i, i < o.length → l.getD (200 * t + i) 0 = o.getD i 0) ∧ ∀ i, i < 200 * t ∨ 200 * t + 200 ≤ i → l.getD i 0 = (B 4).getD i 0) ∧ yD d ∧ n 6 = nI o.length
theorem yPS.P0 {t : Nat} {B b : Nat → List Int32} {n : Nat → Int32} {d : Nat → List Int32} {st o : List Int32} {op : Int32} (h : yPS t B b n d st o op) : yP0 t B b n d o := ⟨h.1, h.2.1, h.2.2.2.2.2.1⟩
theorem yP0.L {t : Nat} {B b : Nat → List Int32} {n : Nat → Int32} {d : Nat → List Int32} {o : List Int32} (h : yP0 t B b n d o) (hL : yL B) : yL b ∧ yt3 b = yt3 B := by
  obtain ⟨⟨l, hb, hl, -⟩, -⟩ := h
  subst hb
  exact ⟨⟨hL.1, hL.2.1, hL.2.2.1, hL.2.2.2.1, hl, hL.2.2.2.2.2.1, hL.2.2.2.2.2.2.1, hL.2.2.2.2.2.2.2.1, hL.2.2.2.2.2.2.2.2.1, hL.2.2.2.2.2.2.2.2.2⟩, rfl⟩
theorem yP0_n {t : Nat} {B b : Nat → List Int32} {n n1 : Nat → Int32} {d : Nat → List Int32} {o : List Int32} (h : yP0 t B b n d o) (k : ∀ j, 4 ≤ j → n1 j = n j) : yP0 t B b n1 d o := ⟨h.1, h.2.1, (k 6 (by decide)).trans h.2.2⟩
theorem yP0_5 {t : Nat} {B b : Nat → List Int32} {n : Nat → Int32} {d : Nat → List Int32} {o : List Int32} {l5 r5 : List Int32} (h : yP0 t (mc_up B 5 l5) b n d o) : yP0 t (mc_up B 5 r5) (mc_up b 5 r5) n d o := by
  obtain ⟨⟨l, hb, hl, ho, hx⟩, hr⟩ := h
  subst hb
  refine ⟨⟨l, ?_, hl, ho, hx⟩, hr⟩
  funext j
  unfold mc_up
  by_cases e5 : j = 5
  · subst e5; rfl
  · by_cases e4 : j = 4
    · subst e4; rfl
    · rw [if_neg e5, if_neg e4, if_neg e5, if_neg e4, if_neg e5]
theorem yP0_b5 {t : Nat} {B b : Nat → List Int32} {n : Nat → Int32} {d : Nat → List Int32} {o : List Int32} (h : yP0 t B b n d o) : b 5 = B 5 := by
  obtain ⟨⟨l, hb, -⟩, -⟩ := h
  subst hb; rfl
theorem sp_y_eRead0 {s u m n : Nat → Int32} {a c b d : Nat → List Int32} {q : List (Option Nat)} {h : Nat} {z : mc_W} {t : Nat} {B : Nat → List Int32} {N A0 : Nat} {o : List Int32} (hL : yL B) (hN : m 3 = nI N) (hN2 : N ≤ 160) (h4 : m 4 = nI t) (ht : t < 6) (hA : A0 ≤ N) (h0 : n 0 = nI A0) (hP : yP0 t B b n d o) (hl : o.length ≤ A0) : mc_T yX7_eRead cX7_eRead 4 (some .boolean) 4 [.ref 29] (WW s a q u c h m b n d z) (some (.int (mc_b (yer (yt3 B) N (N + 1) A0 true true [] o 0).1))) (fun w' => ∃ b1 n1 d1, yPS t B b1 n1 d1 (yer (yt3 B) N (N + 1) A0 true true [] o 0).2.2.2.1 (yer (yt3 B) N (N + 1) A0 true true [] o 0).2.2.2.2.1 (yer (yt3 B) N (N + 1) A0 true true [] o 0).2.2.2.2.2 ∧ n1 0 = nI (yer (yt3 B) N (N + 1) A0 true true [] o 0).2.1 ∧ n1 1 = nI (yer (yt3 B) N (N + 1) A0 true true [] o 0).2.2.1 ∧ w' = WW s a q u c h m b1 n1 d1 z) := by
  refine mc_start (own := RX7) (ini := false) rfl (by decide +kernel) (fun h => by cases h) (Nat.le_of_ble_eq_true rfl) ?_
  show mc_E _ _ _ _ _ [some (.ref 29), none, none, none] [] _ _ _
  refine e_aloadn (pc := 0) dX7_eRead_0 rfl ?_
  refine e_iconst (v := 0) (pc := 1) dX7_eRead_1 (by decide) ?_
  refine put_y_heldMany (pc := 2) dX7_eRead_2 pX7_112 ?_
  refine e_aloadn (pc := 5) dX7_eRead_5 rfl ?_
  refine e_iconst (v := 0) (pc := 6) dX7_eRead_6 (by decide) ?_
  refine put_y_opens (pc := 7) dX7_eRead_7 pX7_119 ?_
  refine e_iconst (v := 1) (pc := 10) dX7_eRead_10 (by decide) ?_
  refine e_isn1 (pc := 11) dX7_eRead_11 (Nat.le_of_ble_eq_true rfl) rfl ?_
  refine e_iconst (v := 1) (pc := 12) dX7_eRead_12 (by decide) ?_
  refine e_isn2 (pc := 13) dX7_eRead_13 (Nat.le_of_ble_eq_true rfl) rfl ?_
  exact lp_y_er hL hN hN2 h4 ht (N + 1) A0 true true [] o 0 b _ d none (by omega) hA h0 ⟨hP.1, hP.2.1, rfl, rfl, rfl, hP.2.2, by simp; omega⟩ (by simp; omega) rfl
/-- ok, at, begun, put, where the parts begin -/
def ytp (T : Nat → Int32) (N : Nat) : Nat → Nat → Nat → Nat → List Int32 → List Nat → Bool × Nat × Nat × List Int32 × List Nat
  | 0, _, A, bg, o, S => (true, A, bg, o, S)
  | g + 1, p, A, bg, o, S => if (ynx T N A).2.2.1 = 3 ∧ (ynx T N A).2.2.2 = nI p then
      (if (yer T N (N + 1) (ynx T N A).2.1 true true [] o 0).1 = true then ytp T N g (p + 1) (yer T N (N + 1) (ynx T N A).2.1 true true [] o 0).2.1 (yer T N (N + 1) (ynx T N A).2.1 true true [] o 0).2.2.1 (yer T N (N + 1) (ynx T N A).2.1 true true [] o 0).2.2.2.2.1 (S ++ [o.length])
        else (false, (yer T N (N + 1) (ynx T N A).2.1 true true [] o 0).2.1, (yer T N (N + 1) (ynx T N A).2.1 true true [] o 0).2.2.1, (yer T N (N + 1) (ynx T N A).2.1 true true [] o 0).2.2.2.2.1, S ++ [o.length]))
    else (false, (ynx T N A).2.1, (ynx T N A).1, o, S ++ [o.length])
/-- the world as it stands after some parts -/
def yTS (t N : Nat) (B b : Nat → List Int32) (n : Nat → Int32) (d : Nat → List Int32) (A0 bg : Nat) (o : List Int32) (S : List Nat) : Prop :=
  ∃ l5, l5.length = 24 ∧ (∀ i, i < S.length → l5.getD (4 * t + i) 0 = nI (S.getD i 0)) ∧ (∀ i, i < 4 * t ∨ 4 * t + 4 ≤ i → l5.getD i 0 = (B 5).getD i 0) ∧ yP0 t (mc_up B 5 l5) b n d o ∧ n 0 = nI A0 ∧ (S.length = 0 ∨ n 1 = nI bg) ∧ A0 ≤ N ∧ o.length ≤ A0
theorem yTS_start {t : Nat} {B b : Nat → List Int32} {n : Nat → Int32} {d : Nat → List Int32} {o : List Int32} {S : List Nat} {l5 : List Int32} (hS : S.length < 4) (ht : t < 6)
    (h1 : l5.length = 24) (h2 : ∀ i, i < S.length → l5.getD (4 * t + i) 0 = nI (S.getD i 0)) (h3 : ∀ i, i < 4 * t ∨ 4 * t + 4 ≤ i → l5.getD i 0 = (B 5).getD i 0) (hP : yP0 t (mc_up B 5 l5) b n d o) (x : Nat) :
    (l5.set (4 * t + S.length) (nI x)).length = 24 ∧ (∀ i, i < (S ++ [x]).length → (l5.set (4 * t + S.length) (nI x)).getD (4 * t + i) 0 = nI ((S ++ [x]).getD i 0)) ∧ (∀ i, i < 4 * t ∨ 4 * t + 4 ≤ i → (l5.set (4 * t + S.length) (nI x)).getD i 0 = (B 5).getD i 0) ∧ yP0 t (mc_up B 5 (l5.set (4 * t + S.length) (nI x))) (mc_up b 5 ((b 5).set (4 * t + S.length) (nI x))) n d o := by
  refine ⟨by rw [List.length_set]; exact h1, fun i hi => ?_, fun i hi => ?_, ?_⟩
  · rw [List.length_append] at hi
    rw [gD_set (by omega)]
    by_cases e : i = S.length
    · rw [if_pos (by omega), e, List.getD_eq_getElem?_getD, List.getElem?_append_right (Nat.le_refl _), Nat.sub_self]; rfl
    · simp at hi
      rw [if_neg (by omega), h2 i (by omega), List.getD_eq_getElem?_getD, List.getD_eq_getElem?_getD, List.getElem?_append_left (by omega)]
  · rw [gD_set (by omega), if_neg (by omega)]; exact h3 i hi
  · have e := yP0_b5 hP
    rw [e]
    exact yP0_5 hP
theorem lp_y_txb {s u m : Nat → Int32} {a c : Nat → List Int32} {q : List (Option Nat)} {h : Nat} {z : mc_W} {Post : Option Value → mc_W → Prop} {b : Nat → List Int32} {n : Nat → Int32} {d : Nat → List Int32} {p : Nat} (hK : mc_E RX7 cX7_text 3 (mc_JM (some .int) false 5 0 0 Post) 101 [some (.ref 29), some (.int 0), some (.int (nI p))] [] (WW s a q u c h m b n d z) 0 0) :
    mc_E RX7 cX7_text 3 (mc_JM (some .int) false 5 0 0 Post) 26 [some (.ref 29), some (.int 0), some (.int (nI p))] [] (WW s a q u c h m b n d z) 0 0 := by
  refine e_iloadn (pc := 26) dX7_text_26 rfl ?_
  refine e_iconst (v := 3) (pc := 27) dX7_text_27 (by decide) ?_
  refine e_icmp_ge (pc := 28) dX7_text_28 (t := 101) (by decide) (fun c_28 => ?_) (fun c_28 => ?_)
  · skip
    exact hK
  · skip
    refine e_iloadn (pc := 31) dX7_text_31 rfl ?_
    refine e_if_eq (pc := 32) dX7_text_32 (t := 101) (by decide) (fun _ => ?_) (fun c_32 => absurd (by decide) c_32)
    exact hK
set_option maxHeartbeats 2000000 in
theorem lp_y_tp {s u m : Nat → Int32} {a c : Nat → List Int32} {q : List (Option Nat)} {h : Nat} {z : mc_W} {t : Nat} {B : Nat → List Int32} {Post : Option Value → mc_W → Prop} {N : Nat} {V : Bool × Nat × Nat × List Int32 × List Nat} (hL : yL B) (hN : m 3 = nI N) (hN2 : N ≤ 160) (h4 : m 4 = nI t) (ht : t < 6)
    (hK : ∀ p b n d, yTS t N B b n d V.2.1 V.2.2.1 V.2.2.2.1 V.2.2.2.2 → mc_E RX7 cX7_text 3 (mc_JM (some .int) false 5 0 0 Post) 101 [some (.ref 29), some (.int (mc_b V.1)), some (.int (nI p))] [] (WW s a q u c h m b n d z) 0 0) :
    ∀ (g p A0 bg : Nat) (o : List Int32) (S : List Nat) (b : Nat → List Int32) (n : Nat → Int32) (d : Nat → List Int32), p + g = 3 → S.length = p → yTS t N B b n d A0 bg o S → ytp (yt3 B) N g p A0 bg o S = V →
      mc_E RX7 cX7_text 3 (mc_JM (some .int) false 5 0 0 Post) 26 [some (.ref 29), some (.int 1), some (.int (nI p))] [] (WW s a q u c h m b n d z) 0 0 := by
  intro g
  induction g with
  | zero =>
    intro p A0 bg o S b n d hp hSl hT hV
    have e : p = 3 := by omega
    subst e
    have hV : (true, A0, bg, o, S) = V := hV
    subst hV
    refine e_iloadn (pc := 26) dX7_text_26 rfl ?_
    refine e_iconst (v := 3) (pc := 27) dX7_text_27 (by decide) ?_
    refine e_icmp_ge (pc := 28) dX7_text_28 (t := 101) (by decide) (fun _ => ?_) (fun c_28 => absurd (by decide) c_28)
    exact hK 3 b n d hT
  | succ g ih =>
    intro p A0 bg o S b n d hp hSl hT hV
    have hp3 : p < 3 := by omega
    obtain ⟨l5, g1, g2, g3, hP, h0, h1, hA, hl⟩ := hT
    have hL5 := yL_5 hL g1
    obtain ⟨hLb, eT⟩ := hP.L hL5
    have eT : yt3 b = yt3 B := eT
    obtain ⟨k1, k2, k3⟩ := ynx_lt (yt3 B) N A0 hA
    simp only [ytp] at hV
    refine e_iloadn (pc := 26) dX7_text_26 rfl ?_
    refine e_iconst (v := 3) (pc := 27) dX7_text_27 (by decide) ?_
    refine e_icmp_ge (pc := 28) dX7_text_28 (t := 101) (by decide) (fun c_28 => absurd c_28 (nI_ge hp3 (by decide))) (fun _ => ?_)
    refine e_iloadn (pc := 31) dX7_text_31 rfl ?_
    refine e_if_eq (pc := 32) dX7_text_32 (t := 101) (by decide) (fun c_32 => absurd c_32 (by decide)) (fun _ => ?_)
    refine e_aloadn (pc := 35) dX7_text_35 rfl ?_
    refine e_cvY (pc := 36) (sp_y_next hLb hN hN2 hA h0) dX7_text_36 kX7_132 rfl rfl rfl rfl rfl (mc_CR_of (Nat.le_of_ble_eq_true rfl) (Nat.le_of_ble_eq_true rfl) (Nat.le_refl _) (Nat.le_refl _)) (Nat.le_of_ble_eq_true rfl) (fun w1 hw1 => ?_)
    obtain ⟨n1, hX, rfl⟩ := hw1
    rw [eT] at hX
    generalize ynx (yt3 B) N A0 = R at hX hV k1 k2 k3
    obtain ⟨bg1, A1, tk, vl⟩ := R
    obtain ⟨j0, j1, j2, j3, j4⟩ := hX
    simp only at j0 j1 j2 j3 hV k1 k2 k3
    have hP1 := yP0_n hP j4
    have g6 : n1 6 = nI o.length := hP1.2.2
    have b5 : (b 5).length = 24 := by rw [yP0_b5 hP1]; exact g1
    have ei : 4 * m 4 + nI p = nI (4 * t + p) := by rw [h4, show (4 : Int32) * nI t = nI (4 * t) from pk_mul 4 t, nI_add]
    have ii : vp_in (4 * m 4 + nI p) (b 5).length := by rw [ei, b5]; exact vp_in_nI (by omega) (by decide)
    have ec : (4 * m 4 + nI p).toNatClampNeg = 4 * t + S.length := by rw [ei, nIc (by omega), hSl]
    obtain ⟨y1, y2, y3, y4⟩ := yTS_start (by omega) ht g1 g2 g3 hP1 o.length
    refine e_aloadn (pc := 39) dX7_text_39 rfl ?_
    refine e_get (pc := 40) dX7_text_40 fX7_99 rfl rfl ?_
    refine e_top (j2) ?_
    refine e_iconst (v := 3) (pc := 43) dX7_text_43 (by decide) ?_
    refine e_icmp_ne (pc := 44) dX7_text_44 (t := 59) (by decide) (fun c_44 => ?_) (fun c_44 => ?_)
    · skip
      refine e_iconst (v := 0) (pc := 59) dX7_text_59 (by decide) ?_
      refine e_isn1 (pc := 60) dX7_text_60 (Nat.le_of_ble_eq_true rfl) rfl ?_
      refine e_aloadn (pc := 61) dX7_text_61 rfl ?_
      refine e_get (pc := 62) dX7_text_62 fX7_32 rfl rfl ?_
      refine e_iconst (v := 4) (pc := 65) dX7_text_65 (by decide) ?_
      refine e_aloadn (pc := 66) dX7_text_66 rfl ?_
      refine e_get (pc := 67) dX7_text_67 fX7_80 rfl rfl ?_
      refine e_imul (pc := 70) dX7_text_70 ?_
      refine e_iloadn (pc := 71) dX7_text_71 rfl ?_
      refine e_iadd (pc := 72) dX7_text_72 ?_
      refine e_aloadn (pc := 73) dX7_text_73 rfl ?_
      refine e_get (pc := 74) dX7_text_74 fX7_109 rfl rfl ?_
      refine e_top (g6) ?_
      refine ast_starts (pc := 77) dX7_text_77 ii ?_
      rw [ec]
      refine e_iloadn (pc := 78) dX7_text_78 rfl ?_
      refine e_if_eq (pc := 79) dX7_text_79 (t := 93) (by decide) (fun _ => ?_) (fun c_79 => absurd (by decide) c_79)
      refine e_iconst (v := 0) (pc := 93) dX7_text_93 (by decide) ?_
      refine e_isn1 (pc := 94) dX7_text_94 (Nat.le_of_ble_eq_true rfl) rfl ?_
      refine e_incC2 (pc := 95) dX7_text_95 (nI_1 p) (Nat.le_of_ble_eq_true rfl) rfl ?_
      refine e_goto (pc := 98) dX7_text_98 (t := 26) (by decide) ?_
      rw [if_neg (fun q => c_44 q.1)] at hV
      subst hV
      exact lp_y_txb (hK (p + 1) _ _ _ ⟨_, y1, y2, y3, y4, j0, Or.inr j1, k2, by show o.length ≤ A1; omega⟩)
    · skip
      refine e_aloadn (pc := 47) dX7_text_47 rfl ?_
      refine e_get (pc := 48) dX7_text_48 fX7_102 rfl rfl ?_
      refine e_top (j3) ?_
      refine e_iloadn (pc := 51) dX7_text_51 rfl ?_
      refine e_icmp_ne (pc := 52) dX7_text_52 (t := 59) (by decide) (fun c_52 => ?_) (fun c_52 => ?_)
      · skip
        refine e_iconst (v := 0) (pc := 59) dX7_text_59 (by decide) ?_
        refine e_isn1 (pc := 60) dX7_text_60 (Nat.le_of_ble_eq_true rfl) rfl ?_
        refine e_aloadn (pc := 61) dX7_text_61 rfl ?_
        refine e_get (pc := 62) dX7_text_62 fX7_32 rfl rfl ?_
        refine e_iconst (v := 4) (pc := 65) dX7_text_65 (by decide) ?_
        refine e_aloadn (pc := 66) dX7_text_66 rfl ?_
        refine e_get (pc := 67) dX7_text_67 fX7_80 rfl rfl ?_
        refine e_imul (pc := 70) dX7_text_70 ?_
        refine e_iloadn (pc := 71) dX7_text_71 rfl ?_
        refine e_iadd (pc := 72) dX7_text_72 ?_
        refine e_aloadn (pc := 73) dX7_text_73 rfl ?_
        refine e_get (pc := 74) dX7_text_74 fX7_109 rfl rfl ?_
        refine e_top (g6) ?_
        refine ast_starts (pc := 77) dX7_text_77 ii ?_
        rw [ec]
        refine e_iloadn (pc := 78) dX7_text_78 rfl ?_
        refine e_if_eq (pc := 79) dX7_text_79 (t := 93) (by decide) (fun _ => ?_) (fun c_79 => absurd (by decide) c_79)
        refine e_iconst (v := 0) (pc := 93) dX7_text_93 (by decide) ?_
        refine e_isn1 (pc := 94) dX7_text_94 (Nat.le_of_ble_eq_true rfl) rfl ?_
        refine e_incC2 (pc := 95) dX7_text_95 (nI_1 p) (Nat.le_of_ble_eq_true rfl) rfl ?_
        refine e_goto (pc := 98) dX7_text_98 (t := 26) (by decide) ?_
        rw [if_neg (fun q => c_52 q.2)] at hV
        subst hV
        exact lp_y_txb (hK (p + 1) _ _ _ ⟨_, y1, y2, y3, y4, j0, Or.inr j1, k2, by show o.length ≤ A1; omega⟩)
      · skip
        refine e_iconst (v := 1) (pc := 55) dX7_text_55 (by decide) ?_
        refine e_goto (pc := 56) dX7_text_56 (t := 60) (by decide) ?_
        refine e_isn1 (pc := 60) dX7_text_60 (Nat.le_of_ble_eq_true rfl) rfl ?_
        refine e_aloadn (pc := 61) dX7_text_61 rfl ?_
        refine e_get (pc := 62) dX7_text_62 fX7_32 rfl rfl ?_
        refine e_iconst (v := 4) (pc := 65) dX7_text_65 (by decide) ?_
        refine e_aloadn (pc := 66) dX7_text_66 rfl ?_
        refine e_get (pc := 67) dX7_text_67 fX7_80 rfl rfl ?_
        refine e_imul (pc := 70) dX7_text_70 ?_
        refine e_iloadn (pc := 71) dX7_text_71 rfl ?_
        refine e_iadd (pc := 72) dX7_text_72 ?_
        refine e_aloadn (pc := 73) dX7_text_73 rfl ?_
        refine e_get (pc := 74) dX7_text_74 fX7_109 rfl rfl ?_
        refine e_top (g6) ?_
        refine ast_starts (pc := 77) dX7_text_77 ii ?_
        rw [ec]
        refine e_iloadn (pc := 78) dX7_text_78 rfl ?_
        refine e_if_eq (pc := 79) dX7_text_79 (t := 93) (by decide) (fun c_79 => absurd c_79 (by decide)) (fun _ => ?_)
        refine e_aloadn (pc := 82) dX7_text_82 rfl ?_
        refine e_cvX (pc := 83) (sp_y_eRead0 (yL_5 hL y1) hN hN2 h4 ht k2 j0 y4 (by omega)) dX7_text_83 kX7_145 rfl rfl rfl rfl rfl (mc_CR_of (Nat.le_of_ble_eq_true rfl) (Nat.le_of_ble_eq_true rfl) (Nat.le_refl _) (Nat.le_refl _)) (Nat.le_of_ble_eq_true rfl) (fun w1 hw1 => ?_)
        obtain ⟨b2, n2, d2, hP2, m0, m1, rfl⟩ := hw1
        have yl := yer_le (yt3 B) N (N + 1) A1 true true [] o 0 (by omega) k2 (by simp; omega)
        have eT2 : yt3 (mc_up B 5 (l5.set (4 * t + S.length) (nI o.length))) = yt3 B := rfl
        rw [eT2] at hP2 m0 m1 ⊢
        generalize yer (yt3 B) N (N + 1) A1 true true [] o 0 = E at hP2 m0 m1 yl hV ⊢
        refine e_if_eq (pc := 86) dX7_text_86 (t := 93) (by decide) (fun c_86 => ?_) (fun c_86 => ?_)
        · skip
          refine e_iconst (v := 0) (pc := 93) dX7_text_93 (by decide) ?_
          refine e_isn1 (pc := 94) dX7_text_94 (Nat.le_of_ble_eq_true rfl) rfl ?_
          refine e_incC2 (pc := 95) dX7_text_95 (nI_1 p) (Nat.le_of_ble_eq_true rfl) rfl ?_
          refine e_goto (pc := 98) dX7_text_98 (t := 26) (by decide) ?_
          rw [if_pos ⟨c_44, c_52⟩, if_neg (nbt (mc_b0.mp c_86))] at hV
          subst hV
          exact lp_y_txb (hK (p + 1) _ _ _ ⟨_, y1, y2, y3, hP2.P0, m0, Or.inr m1, yl.2.1, by show E.2.2.2.2.1.length ≤ E.2.1; omega⟩)
        · skip
          refine e_iconst (v := 1) (pc := 89) dX7_text_89 (by decide) ?_
          refine e_goto (pc := 90) dX7_text_90 (t := 94) (by decide) ?_
          refine e_isn1 (pc := 94) dX7_text_94 (Nat.le_of_ble_eq_true rfl) rfl ?_
          refine e_incC2 (pc := 95) dX7_text_95 (nI_1 p) (Nat.le_of_ble_eq_true rfl) rfl ?_
          refine e_goto (pc := 98) dX7_text_98 (t := 26) (by decide) ?_
          rw [if_pos ⟨c_44, c_52⟩, if_pos (mc_b1.mp c_86)] at hV
          exact ih (p + 1) _ _ _ _ _ _ _ (by omega) (by rw [List.length_append, hSl]; rfl) ⟨_, y1, y2, y3, hP2.P0, m0, Or.inr m1, yl.2.1, by omega⟩ hV
