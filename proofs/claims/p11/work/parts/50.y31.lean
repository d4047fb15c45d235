/-! a text, whole -/
theorem ytp_S (T : Nat → Int32) (N : Nat) : ∀ g p A0 bg o S, (1 ≤ g → S.length < (ytp T N g p A0 bg o S).2.2.2.2.length) ∧ S.length ≤ (ytp T N g p A0 bg o S).2.2.2.2.length ∧ ((ytp T N g p A0 bg o S).1 = true → (ytp T N g p A0 bg o S).2.2.2.2.length = S.length + g) := by
  intro g
  induction g with
  | zero => intro p A0 bg o S; exact ⟨fun q => absurd q (by decide), Nat.le_refl _, fun _ => rfl⟩
  | succ g ih =>
    intro p A0 bg o S
    have e : ∀ x : Nat, (S ++ [x]).length = S.length + 1 := fun x => by rw [List.length_append]; rfl
    simp only [ytp]
    by_cases c1 : (ynx T N A0).2.2.1 = 3 ∧ (ynx T N A0).2.2.2 = nI p
    · rw [if_pos c1]
      by_cases c2 : (yer T N (N + 1) (ynx T N A0).2.1 true true [] o 0).1 = true
      · rw [if_pos c2]
        have K := ih (p + 1) (yer T N (N + 1) (ynx T N A0).2.1 true true [] o 0).2.1 (yer T N (N + 1) (ynx T N A0).2.1 true true [] o 0).2.2.1 (yer T N (N + 1) (ynx T N A0).2.1 true true [] o 0).2.2.2.2.1 (S ++ [o.length])
        rw [e] at K
        exact ⟨fun _ => by omega, by omega, fun q => by have := K.2.2 q; omega⟩
      · rw [if_neg c2]
        exact ⟨fun _ => by show S.length < (S ++ [o.length]).length; rw [e]; omega, by show S.length ≤ (S ++ [o.length]).length; rw [e]; omega, fun q => Bool.noConfusion (show false = true from q)⟩
    · rw [if_neg c1]
      exact ⟨fun _ => by show S.length < (S ++ [o.length]).length; rw [e]; omega, by show S.length ≤ (S ++ [o.length]).length; rw [e]; omega, fun q => Bool.noConfusion (show false = true from q)⟩
/-- the reading of what is on the tape: ok, begun, put, where the parts begin -/
def ytxV (T : Nat → Int32) (N : Nat) : Bool × Nat × List Int32 × List Nat :=
  if (ytp T N 3 0 0 0 [] []).1 = true then (decide ((ynx T N (ytp T N 3 0 0 0 [] []).2.1).2.2.1 = 0), (ynx T N (ytp T N 3 0 0 0 [] []).2.1).1, (ytp T N 3 0 0 0 [] []).2.2.2.1, (ytp T N 3 0 0 0 [] []).2.2.2.2)
  else (false, (ytp T N 3 0 0 0 [] []).2.2.1, (ytp T N 3 0 0 0 [] []).2.2.2.1, (ytp T N 3 0 0 0 [] []).2.2.2.2)
/-- the rows of texts as they stand afterwards -/
def yTX (t : Nat) (B b : Nat → List Int32) (ok : Bool) (o : List Int32) (S : List Nat) : Prop :=
  ∃ l l5, b = mc_up (mc_up B 5 l5) 4 l ∧ l.length = 1200 ∧ l5.length = 24 ∧ (∀ i, i < 200 * t ∨ 200 * t + 200 ≤ i → l.getD i 0 = (B 4).getD i 0) ∧ (∀ i, i < 4 * t ∨ 4 * t + 4 ≤ i → l5.getD i 0 = (B 5).getD i 0) ∧
    (ok = true → (∀ i, i < o.length → l.getD (200 * t + i) 0 = o.getD i 0) ∧ (∀ i, i < 3 → l5.getD (4 * t + i) 0 = nI (S.getD i 0)) ∧ l5.getD (4 * t + 3) 0 = nI o.length)
theorem yTX_of {t N : Nat} {B b : Nat → List Int32} {n : Nat → Int32} {d : Nat → List Int32} {A0 bg : Nat} {o : List Int32} {S : List Nat} {ok : Bool} (ht : t < 6) (h : yTS t N B b n d A0 bg o S) (hS : ok = true → S.length = 3) : yTX t B (mc_up b 5 ((b 5).set (4 * t + 3) (nI o.length))) ok o S := by
  obtain ⟨l5, g1, g2, g3, hP, -⟩ := h
  have e := yP0_b5 hP
  have e5 : b 5 = l5 := e
  have K := yP0_5 (r5 := l5.set (4 * t + 3) (nI o.length)) hP
  rw [e5]
  obtain ⟨⟨l, hb, hl, ho, hx⟩, -⟩ := K
  refine ⟨l, _, hb, hl, by rw [List.length_set]; exact g1, hx, fun i hi => ?_, fun q => ⟨ho, fun i hi => ?_, ?_⟩⟩
  · rw [gD_set (by omega), if_neg (by omega)]; exact g3 i hi
  · rw [gD_set (by omega), if_neg (by omega)]; exact g2 i (by rw [hS q]; exact hi)
  · rw [gD_set (by omega), if_pos rfl]
theorem lp_y_tx {s u m n : Nat → Int32} {a c b d : Nat → List Int32} {q : List (Option Nat)} {h : Nat} {z : mc_W} {t : Nat} {B : Nat → List Int32} {N p : Nat} {P : Bool × Nat × Nat × List Int32 × List Nat} {V : Bool × Nat × List Int32 × List Nat} (hL : yL B) (hN : m 3 = nI N) (hN2 : N ≤ 160) (h4 : m 4 = nI t) (ht : t < 6)
    (hT : yTS t N B b n d P.2.1 P.2.2.1 P.2.2.2.1 P.2.2.2.2) (hS : P.2.2.2.2.length ≠ 0) (hS3 : P.1 = true → P.2.2.2.2.length = 3)
    (hV : (if P.1 = true then (decide ((ynx (yt3 B) N P.2.1).2.2.1 = 0), (ynx (yt3 B) N P.2.1).1, P.2.2.2.1, P.2.2.2.2) else (false, P.2.2.1, P.2.2.2.1, P.2.2.2.2)) = V) :
      mc_E RX7 cX7_text 3 (mc_JM (some .int) false 5 0 0 (fun r' w' => r' = some (.int (if V.1 = true then m 4 + 1 - 1 else -100 - nI V.2.1)) ∧ ∃ b1 n1 d1, yTX t B b1 V.1 V.2.2.1 V.2.2.2 ∧ yD d1 ∧ w' = WW s a q u c h (if V.1 = true then mc_up (mc_up m 3 0) 4 (m 4 + 1) else mc_up m 3 0) b1 n1 d1 z)) 101 [some (.ref 29), some (.int (mc_b P.1)), some (.int (nI p))] [] (WW s a q u c h m b n d z) 0 0 := by
  have hT0 := hT
  obtain ⟨l5, g1, g2, g3, hP, h0, h1, hA, hl⟩ := hT0
  have h1 := h1.resolve_left hS
  have hL5 := yL_5 hL g1
  obtain ⟨hLb, eT⟩ := hP.L hL5
  have eT : yt3 b = yt3 B := eT
  have b5 : (b 5).length = 24 := by rw [yP0_b5 hP]; exact g1
  have ei : 4 * m 4 + 3 = nI (4 * t + 3) := by rw [h4, show (4 : Int32) * nI t = nI (4 * t) from pk_mul 4 t]; exact nI_add _ 3
  have ii : vp_in (4 * m 4 + 3) (b 5).length := by rw [ei, b5]; exact vp_in_nI (by omega) (by decide)
  have ec : (4 * m 4 + 3).toNatClampNeg = 4 * t + 3 := by rw [ei, nIc (by omega)]
  have g6 : n 6 = nI P.2.2.2.1.length := hP.2.2
  have X1 := yTX_of (ok := P.1) ht hT hS3
  obtain ⟨ok, A1, bg, o, S⟩ := P
  cases ok with
  | false =>
    have hV : (false, bg, o, S) = V := hV
    subst hV
    have g6 : n 6 = nI o.length := g6
    have h1 : n 1 = nI bg := h1
    show mc_E RX7 cX7_text 3 _ 101 [some (.ref 29), some (.int 0), some (.int (nI p))] [] _ 0 0
    refine e_iloadn (pc := 101) dX7_text_101 rfl ?_
    refine e_if_eq (pc := 102) dX7_text_102 (t := 122) (by decide) (fun _ => ?_) (fun c_102 => absurd (by decide) c_102)
    refine e_aloadn (pc := 122) dX7_text_122 rfl ?_
    refine e_get (pc := 123) dX7_text_123 fX7_32 rfl rfl ?_
    refine e_iconst (v := 4) (pc := 126) dX7_text_126 (by decide) ?_
    refine e_aloadn (pc := 127) dX7_text_127 rfl ?_
    refine e_get (pc := 128) dX7_text_128 fX7_80 rfl rfl ?_
    refine e_imul (pc := 131) dX7_text_131 ?_
    refine e_iconst (v := 3) (pc := 132) dX7_text_132 (by decide) ?_
    refine e_iadd (pc := 133) dX7_text_133 ?_
    refine e_aloadn (pc := 134) dX7_text_134 rfl ?_
    refine e_get (pc := 135) dX7_text_135 fX7_109 rfl rfl ?_
    refine e_top (g6) ?_
    refine ast_starts (pc := 138) dX7_text_138 ii ?_
    rw [ec]
    refine e_aloadn (pc := 139) dX7_text_139 rfl ?_
    refine e_iconst (v := 0) (pc := 140) dX7_text_140 (by decide) ?_
    refine put_y_taped (pc := 141) dX7_text_141 pX7_65 ?_
    refine e_iloadn (pc := 144) dX7_text_144 rfl ?_
    refine e_if_ne (pc := 145) dX7_text_145 (t := 156) (by decide) (fun c_145 => absurd c_145 (by decide)) (fun _ => ?_)
    refine e_bipush (v := -100) (pc := 148) dX7_text_148 (by decide) ?_
    refine e_aloadn (pc := 150) dX7_text_150 rfl ?_
    refine e_get (pc := 151) dX7_text_151 fX7_96 rfl rfl ?_
    refine e_top (h1) ?_
    refine e_isub (pc := 154) dX7_text_154 ?_
    exact e_iret (pc := 155) dX7_text_155 rfl (Nat.le_refl _) (Nat.le_refl _) ⟨rfl, _, n, d, X1, hP.2.1, rfl⟩
  | true =>
    have hV : (decide ((ynx (yt3 B) N A1).2.2.1 = 0), (ynx (yt3 B) N A1).1, o, S) = V := hV
    have g6 : n 6 = nI o.length := g6
    have h0 : n 0 = nI A1 := h0
    have hA : A1 ≤ N := hA
    show mc_E RX7 cX7_text 3 _ 101 [some (.ref 29), some (.int 1), some (.int (nI p))] [] _ 0 0
    have X2 := yTX_of (ok := false) ht hT (fun q => absurd q (by decide))
    refine e_iloadn (pc := 101) dX7_text_101 rfl ?_
    refine e_if_eq (pc := 102) dX7_text_102 (t := 122) (by decide) (fun c_102 => absurd c_102 (by decide)) (fun _ => ?_)
    refine e_aloadn (pc := 105) dX7_text_105 rfl ?_
    refine e_cvY (pc := 106) (sp_y_next hLb hN hN2 hA h0) dX7_text_106 kX7_132 rfl rfl rfl rfl rfl (mc_CR_of (Nat.le_of_ble_eq_true rfl) (Nat.le_of_ble_eq_true rfl) (Nat.le_refl _) (Nat.le_refl _)) (Nat.le_of_ble_eq_true rfl) (fun w1 hw1 => ?_)
    obtain ⟨n1, hX, rfl⟩ := hw1
    rw [eT] at hX
    obtain ⟨j0, j1, j2, j3, j4⟩ := hX
    have g6 : n1 6 = nI o.length := (j4 6 (by decide)).trans g6
    refine e_aloadn (pc := 109) dX7_text_109 rfl ?_
    refine e_get (pc := 110) dX7_text_110 fX7_99 rfl rfl ?_
    refine e_top (j2) ?_
    refine e_if_ne (pc := 113) dX7_text_113 (t := 120) (by decide) (fun c_113 => ?_) (fun c_113 => ?_)
    · skip
      refine e_iconst (v := 0) (pc := 120) dX7_text_120 (by decide) ?_
      refine e_isn1 (pc := 121) dX7_text_121 (Nat.le_of_ble_eq_true rfl) rfl ?_
      refine e_aloadn (pc := 122) dX7_text_122 rfl ?_
      refine e_get (pc := 123) dX7_text_123 fX7_32 rfl rfl ?_
      refine e_iconst (v := 4) (pc := 126) dX7_text_126 (by decide) ?_
      refine e_aloadn (pc := 127) dX7_text_127 rfl ?_
      refine e_get (pc := 128) dX7_text_128 fX7_80 rfl rfl ?_
      refine e_imul (pc := 131) dX7_text_131 ?_
      refine e_iconst (v := 3) (pc := 132) dX7_text_132 (by decide) ?_
      refine e_iadd (pc := 133) dX7_text_133 ?_
      refine e_aloadn (pc := 134) dX7_text_134 rfl ?_
      refine e_get (pc := 135) dX7_text_135 fX7_109 rfl rfl ?_
      refine e_top (g6) ?_
      refine ast_starts (pc := 138) dX7_text_138 ii ?_
      rw [ec]
      refine e_aloadn (pc := 139) dX7_text_139 rfl ?_
      refine e_iconst (v := 0) (pc := 140) dX7_text_140 (by decide) ?_
      refine put_y_taped (pc := 141) dX7_text_141 pX7_65 ?_
      refine e_iloadn (pc := 144) dX7_text_144 rfl ?_
      refine e_if_ne (pc := 145) dX7_text_145 (t := 156) (by decide) (fun c_145 => absurd c_145 (by decide)) (fun _ => ?_)
      refine e_bipush (v := -100) (pc := 148) dX7_text_148 (by decide) ?_
      refine e_aloadn (pc := 150) dX7_text_150 rfl ?_
      refine e_get (pc := 151) dX7_text_151 fX7_96 rfl rfl ?_
      refine e_top (j1) ?_
      refine e_isub (pc := 154) dX7_text_154 ?_
      exact e_iret (pc := 155) dX7_text_155 rfl (Nat.le_refl _) (Nat.le_refl _) (by rw [decide_eq_false c_113] at hV; subst hV; exact ⟨rfl, _, n1, d, X2, hP.2.1, rfl⟩)
    · skip
      refine e_iconst (v := 1) (pc := 116) dX7_text_116 (by decide) ?_
      refine e_goto (pc := 117) dX7_text_117 (t := 121) (by decide) ?_
      refine e_isn1 (pc := 121) dX7_text_121 (Nat.le_of_ble_eq_true rfl) rfl ?_
      refine e_aloadn (pc := 122) dX7_text_122 rfl ?_
      refine e_get (pc := 123) dX7_text_123 fX7_32 rfl rfl ?_
      refine e_iconst (v := 4) (pc := 126) dX7_text_126 (by decide) ?_
      refine e_aloadn (pc := 127) dX7_text_127 rfl ?_
      refine e_get (pc := 128) dX7_text_128 fX7_80 rfl rfl ?_
      refine e_imul (pc := 131) dX7_text_131 ?_
      refine e_iconst (v := 3) (pc := 132) dX7_text_132 (by decide) ?_
      refine e_iadd (pc := 133) dX7_text_133 ?_
      refine e_aloadn (pc := 134) dX7_text_134 rfl ?_
      refine e_get (pc := 135) dX7_text_135 fX7_109 rfl rfl ?_
      refine e_top (g6) ?_
      refine ast_starts (pc := 138) dX7_text_138 ii ?_
      rw [ec]
      refine e_aloadn (pc := 139) dX7_text_139 rfl ?_
      refine e_iconst (v := 0) (pc := 140) dX7_text_140 (by decide) ?_
      refine put_y_taped (pc := 141) dX7_text_141 pX7_65 ?_
      refine e_iloadn (pc := 144) dX7_text_144 rfl ?_
      refine e_if_ne (pc := 145) dX7_text_145 (t := 156) (by decide) (fun _ => ?_) (fun c_145 => absurd c_145 (by decide))
      refine e_aloadn (pc := 156) dX7_text_156 rfl ?_
      refine e_dup (pc := 157) dX7_text_157 rfl ?_
      refine e_get (pc := 158) dX7_text_158 fX7_80 rfl rfl ?_
      refine e_iconst (v := 1) (pc := 161) dX7_text_161 (by decide) ?_
      refine e_iadd (pc := 162) dX7_text_162 ?_
      refine put_y_texts (pc := 163) dX7_text_163 pX7_80 ?_
      refine e_aloadn (pc := 166) dX7_text_166 rfl ?_
      refine e_get (pc := 167) dX7_text_167 fX7_80 rfl rfl ?_
      refine e_iconst (v := 1) (pc := 170) dX7_text_170 (by decide) ?_
      refine e_isub (pc := 171) dX7_text_171 ?_
      exact e_iret (pc := 172) dX7_text_172 rfl (Nat.le_refl _) (Nat.le_refl _) (by rw [decide_eq_true c_113] at hV; subst hV; exact ⟨rfl, _, n1, d, X1, hP.2.1, rfl⟩)
theorem sp_y_text_full {s u m n : Nat → Int32} {a c b d : Nat → List Int32} {q : List (Option Nat)} {h : Nat} {z : mc_W} (h6 : m 4 = 6) : mc_D yX7_text cX7_text 3 (some .int) 5 [.ref 29] (WW s a q u c h m b n d z) (some (.int (-4))) (WW s a q u c h m b n d z) := by
  refine mc_start (own := RX7) (ini := false) rfl (by decide +kernel) (fun h => by cases h) (Nat.le_of_ble_eq_true rfl) ?_
  show mc_E _ _ _ _ _ [some (.ref 29), none, none] [] _ _ _
  refine e_aloadn (pc := 0) dX7_text_0 rfl ?_
  refine e_get (pc := 1) dX7_text_1 fX7_80 rfl rfl ?_
  refine e_bipush (v := 6) (pc := 4) dX7_text_4 (by decide) ?_
  refine e_icmp_ne (pc := 6) dX7_text_6 (t := 12) (by decide) (fun c_6 => absurd c_6 (fun q => q h6)) (fun _ => ?_)
  refine e_bipush (v := -4) (pc := 9) dX7_text_9 (by decide) ?_
  exact e_iret (pc := 11) dX7_text_11 rfl (Nat.le_refl _) (Nat.le_refl _) ⟨rfl, rfl⟩
theorem sp_y_text {s u m n : Nat → Int32} {a c b d : Nat → List Int32} {q : List (Option Nat)} {h : Nat} {z : mc_W} {t N : Nat} (hL : yL b) (hN : m 3 = nI N) (hN2 : N ≤ 160) (h4 : m 4 = nI t) (ht : t < 6) (hD : yD d) : mc_T yX7_text cX7_text 3 (some .int) 5 [.ref 29] (WW s a q u c h m b n d z) (some (.int (if (ytxV (yt3 b) N).1 = true then m 4 + 1 - 1 else -100 - nI (ytxV (yt3 b) N).2.1))) (fun w' => ∃ b1 n1 d1, yTX t b b1 (ytxV (yt3 b) N).1 (ytxV (yt3 b) N).2.2.1 (ytxV (yt3 b) N).2.2.2 ∧ yD d1 ∧ w' = WW s a q u c h (if (ytxV (yt3 b) N).1 = true then mc_up (mc_up m 3 0) 4 (m 4 + 1) else mc_up m 3 0) b1 n1 d1 z) := by
  refine mc_start (own := RX7) (ini := false) rfl (by decide +kernel) (fun h => by cases h) (Nat.le_of_ble_eq_true rfl) ?_
  show mc_E _ _ _ _ _ [some (.ref 29), none, none] [] _ _ _
  refine e_aloadn (pc := 0) dX7_text_0 rfl ?_
  refine e_get (pc := 1) dX7_text_1 fX7_80 rfl rfl ?_
  refine e_bipush (v := 6) (pc := 4) dX7_text_4 (by decide) ?_
  refine e_icmp_ne (pc := 6) dX7_text_6 (t := 12) (by decide) (fun _ => ?_) (fun c_6 => absurd c_6 (fun q => absurd ((nI_eq (a := t) (b := 6) (by omega) (by decide)).mp (h4.symm.trans q)) (by omega)))
  refine e_aloadn (pc := 12) dX7_text_12 rfl ?_
  refine e_iconst (v := 0) (pc := 13) dX7_text_13 (by decide) ?_
  refine put_y_at (pc := 14) dX7_text_14 pX7_93 ?_
  refine e_aloadn (pc := 17) dX7_text_17 rfl ?_
  refine e_iconst (v := 0) (pc := 18) dX7_text_18 (by decide) ?_
  refine put_y_out (pc := 19) dX7_text_19 pX7_109 ?_
  refine e_iconst (v := 1) (pc := 22) dX7_text_22 (by decide) ?_
  refine e_isn1 (pc := 23) dX7_text_23 (Nat.le_of_ble_eq_true rfl) rfl ?_
  refine e_iconst (v := 0) (pc := 24) dX7_text_24 (by decide) ?_
  refine e_isn2 (pc := 25) dX7_text_25 (Nat.le_of_ble_eq_true rfl) rfl ?_
  refine lp_y_tp (B := b) (N := N) (V := ytp (yt3 b) N 3 0 0 0 [] []) hL hN hN2 h4 ht (fun p b2 n2 d2 hT => ?_) 3 0 0 0 [] [] b _ d (by omega) rfl ?_ rfl
  · exact lp_y_tx (P := ytp (yt3 b) N 3 0 0 0 [] []) hL hN hN2 h4 ht hT (by have := (ytp_S (yt3 b) N 3 0 0 0 [] []).1 (by decide); simp at this; omega) (fun q => by have := (ytp_S (yt3 b) N 3 0 0 0 [] []).2.2 q; simpa using this) rfl
  · exact ⟨b 5, hL.2.2.2.2.2.1, fun i hi => absurd hi (by simp), fun i _ => rfl, ⟨⟨b 4, (by rw [mc_up_self, mc_up_self]), hL.2.2.2.2.1, fun i hi => absurd hi (by simp), fun i _ => rfl⟩, hD, rfl⟩, rfl, Or.inl rfl, Nat.zero_le _, Nat.zero_le _⟩
