/-! ===== a text is read by descent ===== -/
abbrev xR := Nat × Nat × Int32 × Int32
abbrev xP := xR → List Int32 → Bool × xR × List Int32
def xtk1 (R : xR) : Int32 := xtm R.2.2.1 R.2.2.2
def xput (o : List Int32) (x : Int32) : List Int32 := if o.length < 160 then o ++ [x] else o
def xPS (N : Nat) (R : xR) (o : List Int32) (u : Nat → Int32) (c : Nat → List Int32) : Prop := u 0 = nI R.1 ∧ u 1 = nI R.2.1 ∧ u 2 = xtk1 R ∧ u 3 = nI o.length ∧ (c 0).take o.length = o ∧ (c 0).length = 160 ∧ o.length ≤ 160 ∧ R.2.1 ≤ N
def xPK (u u1 : Nat → Int32) (c c1 : Nat → List Int32) : Prop := (∀ j, 4 ≤ j → u1 j = u j) ∧ ∀ j, 1 ≤ j → c1 j = c j
theorem xPK_refl (u : Nat → Int32) (c : Nat → List Int32) : xPK u u c c := ⟨fun _ _ => rfl, fun _ _ => rfl⟩
theorem xPK.trans {u u1 u2 : Nat → Int32} {c c1 c2 : Nat → List Int32} (h : xPK u u1 c c1) (h1 : xPK u1 u2 c1 c2) : xPK u u2 c c2 := ⟨fun j hj => (h1.1 j hj).trans (h.1 j hj), fun j hj => (h1.2 j hj).trans (h.2 j hj)⟩
theorem xPS.nx {T : Nat → Int32} {N : Nat} {R : xR} {o : List Int32} {u u1 : Nat → Int32} {c : Nat → List Int32} (h : xPS N R o u c) (g : xNx (ynx T N R.2.1) u u1) : xPS N (ynx T N R.2.1) o u1 c ∧ xPK u u1 c c :=
  ⟨⟨g.1, g.2.1, g.2.2.1, (g.2.2.2 3 (by decide)).trans h.2.2.2.1, h.2.2.2.2.1, h.2.2.2.2.2.1, h.2.2.2.2.2.2.1, (ynx_lt T N R.2.1 h.2.2.2.2.2.2.2).2.1⟩, fun j hj => g.2.2.2 j (by omega), fun _ _ => rfl⟩
theorem mc_S_mono {y : MethodName} {cc : ByteArray} {nL : Nat} {ret : Option FieldType} {d mc ms : Nat} {av : List Value} {w : mc_W} {P P' : Option Value → mc_W → Prop} (h : mc_S y cc nL ret d mc ms av w P) (hm : ∀ r w, P r w → P' r w) : mc_S y cc nL ret d mc ms av w P' := by
  intro l g p e ha hc hk s m args below hf happ hP hK
  obtain ⟨k, o, h1, h2, h3, ⟨⟨r, w', a1, a2, a3⟩, a4⟩, a5⟩ := h l g p e ha hc hk s m args below hf happ hP hK
  exact ⟨k, o, h1, h2, h3, ⟨⟨r, w', a1, hm _ _ a2, a3⟩, a4⟩, a5⟩
theorem mc_T_w {y : MethodName} {cc : ByteArray} {nL : Nat} {ret : Option FieldType} {d : Nat} {av : List Value} {w : mc_W} {r : Option Value} {Q Q1 : mc_W → Prop} (h : mc_T y cc nL ret d av w r Q) (g : ∀ w1, Q w1 → Q1 w1) : mc_T y cc nL ret d av w r Q1 :=
  mc_S_mono h (fun r1 w1 hh => ⟨hh.1, g w1 hh.2⟩)
theorem sp_x_goOnP {s u m n : Nat → Int32} {a c b d : Nat → List Int32} {q : List (Option Nat)} {h : Nat} {z : mc_W} (hL : xL a) {N : Nat} (hN : s 5 = nI N) (hN1 : N ≤ 160) {R : xR} {o : List Int32} (hP : xPS N R o u c) : mc_T yX4_goOn cX4_goOn 2 none 7 [.ref 6] (WW s a q u c h m b n d z) none (fun w1 => ∃ u1 c1, xPS N (ynx (xT a) N R.2.1) o u1 c1 ∧ xPK u u1 c c1 ∧ w1 = (WW s a q u1 c1 h m b n d z)) := by
  have K := sp_x_goOn (s := s) (u := u) (m := m) (n := n) (a := a) (c := c) (b := b) (d := d) (q := q) (h := h) (z := z) hL hN hN1 hP.2.1 hP.2.2.2.2.2.2.2
  exact mc_T_w K (fun w1 ⟨u1, h1, h2⟩ => ⟨u1, c, (hP.nx h1).1, (hP.nx h1).2, h2⟩)
theorem xput_ps {N : Nat} {R : xR} {o : List Int32} {u : Nat → Int32} {c : Nat → List Int32} {x : Int32} (h : xPS N R o u c) (hl : o.length < 160) : xPS N R (xput o x) (mc_up u 3 (u 3 + 1)) (mc_up c 0 ((c 0).set (u 3).toNatClampNeg x)) := by
  obtain ⟨p0, p1, p2, p3, p4, p5, p6, p7⟩ := h
  have ex : xput o x = o ++ [x] := if_pos hl
  have el : (xput o x).length = o.length + 1 := by rw [ex, List.length_append]; rfl
  refine ⟨by rw [upn (by decide)]; exact p0, by rw [upn (by decide)]; exact p1, by rw [upn (by decide)]; exact p2, by rw [up_at, p3, nI_1, el], ?_, by rw [up_at, List.length_set]; exact p5, by rw [el]; omega, p7⟩
  rw [up_at, el, p3, nIc (by omega), ex]
  refine List.ext_getElem? fun i => ?_
  have g4 : ∀ j, j < o.length → (c 0)[j]? = o[j]? := fun j hj => by
    have := congrArg (fun l : List Int32 => l[j]?) p4
    simp only [List.getElem?_take, if_pos hj] at this
    exact this
  rw [List.getElem?_take, List.getElem?_set]
  by_cases h1 : i < o.length
  · rw [if_pos (by omega), if_neg (by omega), List.getElem?_append_left h1]; exact g4 i h1
  · by_cases h2 : i = o.length
    · subst h2
      rw [if_pos (by omega), if_pos rfl, if_pos (by omega), List.getElem?_append_right (Nat.le_refl _)]
      simp
    · rw [if_neg (by omega), List.getElem?_eq_none (by rw [List.length_append]; simp; omega)]
theorem xput_pk {N : Nat} {R : xR} {o : List Int32} {u : Nat → Int32} {c : Nat → List Int32} {x : Int32} {l : List Int32} (_ : xPS N R o u c) : xPK u (mc_up u 3 x) c (mc_up c 0 l) := ⟨fun j hj => upn (by omega), fun j hj => upn (by omega)⟩
theorem sp_x_putP {s u m n : Nat → Int32} {a c b d : Nat → List Int32} {q : List (Option Nat)} {h : Nat} {z : mc_W} {N : Nat} {R : xR} {o : List Int32} (hP : xPS N R o u c) {x : Int32} : mc_T yX4_put cX4_put 2 none 1 [.ref 6, .int x] (WW s a q u c h m b n d z) none (fun w1 => ∃ u1 c1, xPS N R (xput o x) u1 c1 ∧ xPK u u1 c c1 ∧ w1 = (WW s a q u1 c1 h m b n d z)) := by
  refine mc_start (own := RX4) (ini := false) rfl (by decide +kernel) (fun h => by cases h) (Nat.le_of_ble_eq_true rfl) ?_
  show mc_E _ _ _ _ _ [some (.ref 6), some (.int x)] [] _ _ _
  obtain ⟨p0, p1, p2, p3, p4, p5, p6, p7⟩ := id hP
  have c3 : nI 160 ≤ u 3 ↔ ¬ o.length < 160 := by rw [p3]; exact (xi_s (p := o.length) (N := 160) (by omega) (by omega)).1
  refine e_aloadn (pc := 0) dX4_put_0 rfl ?_
  refine e_get (pc := 1) dX4_put_1 fX4_25 rfl rfl ?_
  refine e_if_lt (pc := 4) dX4_put_4 (t := 39) (by decide) (fun c_4 => absurd c_4 (by rw [p3]; exact nI_pos (by omega))) (fun _ => ?_)
  refine e_aloadn (pc := 7) dX4_put_7 rfl ?_
  refine e_get (pc := 8) dX4_put_8 fX4_25 rfl rfl ?_
  refine e_aloadn (pc := 11) dX4_put_11 rfl ?_
  refine e_get (pc := 12) dX4_put_12 fX4_15 rfl rfl ?_
  refine e_alen (pc := 15) dX4_put_15 rfl (show Int32.ofNat (c 0).length = nI 160 by rw [p5]; rfl) ?_
  refine e_icmp_ge (pc := 16) dX4_put_16 (t := 39) (by decide) (fun c_16 => ?_) (fun c_16 => ?_)
  · skip
    exact e_vret (pc := 39) dX4_put_39 rfl (Nat.le_refl _) (Nat.le_refl _) ⟨rfl, u, c, by unfold xput; rw [if_neg (c3.mp c_16)]; exact hP, xPK_refl u c, rfl⟩
  · skip
    refine e_aloadn (pc := 19) dX4_put_19 rfl ?_
    refine e_get (pc := 20) dX4_put_20 fX4_15 rfl rfl ?_
    refine e_aloadn (pc := 23) dX4_put_23 rfl ?_
    refine e_get (pc := 24) dX4_put_24 fX4_25 rfl rfl ?_
    refine e_iloadn (pc := 27) dX4_put_27 rfl ?_
    refine ast_code (pc := 28) dX4_put_28 (by rw [p3, p5]; exact vp_in_nI (by have := Classical.not_not.mp (fun q => c_16 (c3.mpr q)); omega) (by decide)) ?_
    refine e_aloadn (pc := 29) dX4_put_29 rfl ?_
    refine e_dup (pc := 30) dX4_put_30 rfl ?_
    refine e_get (pc := 31) dX4_put_31 fX4_25 rfl rfl ?_
    refine e_iconst (v := 1) (pc := 34) dX4_put_34 (by decide) ?_
    refine e_iadd (pc := 35) dX4_put_35 ?_
    refine put_tape_codeSize (pc := 36) dX4_put_36 pX4_25 ?_
    exact e_vret (pc := 39) dX4_put_39 rfl (Nat.le_refl _) (Nat.le_refl _) ⟨rfl, _, _, xput_ps hP (Classical.not_not.mp (fun q => c_16 (c3.mpr q))), xput_pk hP, rfl⟩
/-- what stands behind, as often as it does -/
def xlp (T : Nat → Int32) (N : Nat) (p : xP) (M : Int32 → Bool) : Nat → xP
  | 0, R, o => (true, R, o)
  | f + 1, R, o => if M (xtk1 R) = true then (if (p (ynx T N R.2.1) o).1 = true then xlp T N p M f (p (ynx T N R.2.1) o).2.1 (xput (p (ynx T N R.2.1) o).2.2 (xtk1 R)) else (false, (p (ynx T N R.2.1) o).2)) else (true, R, o)
def xrow1 (T : Nat → Int32) (N : Nat) (p : xP) (M : Int32 → Bool) : xP := fun R o => if (p R o).1 = true then xlp T N p M 160 (p R o).2.1 (p R o).2.2 else (false, (p R o).2)
def xM18 (t : Int32) : Bool := t == -18
def xM16 (t : Int32) : Bool := t == -16 || t == -17
def xM12 (t : Int32) : Bool := t == -12
def xM11 (t : Int32) : Bool := t == -11
def xM14 (t : Int32) : Bool := t == -14 || t == -15
/-- not: by the one beneath (none, where no more may be opened) and a sum -/
def xnot (T : Nat → Int32) (N : Nat) (nb : Option xP) (sm : xP) : xP := fun R o =>
  if xtk1 R = -13 then (match nb with | none => (false, R, o) | some nb => if (nb (ynx T N R.2.1) o).1 = true then (true, (nb (ynx T N R.2.1) o).2.1, xput (nb (ynx T N R.2.1) o).2.2 (-13)) else (false, (nb (ynx T N R.2.1) o).2))
  else if (sm R o).1 = true then (if xM14 (xtk1 (sm R o).2.1) = true then (if (sm (ynx T N (sm R o).2.1.2.1) (sm R o).2.2).1 = true then (true, (sm (ynx T N (sm R o).2.1.2.1) (sm R o).2.2).2.1, xput (sm (ynx T N (sm R o).2.1.2.1) (sm R o).2.2).2.2 (xtk1 (sm R o).2.1)) else (false, (sm (ynx T N (sm R o).2.1.2.1) (sm R o).2.2).2)) else (true, (sm R o).2)) else (false, (sm R o).2)
/-- one: by the E and the one beneath -/
def xone (T : Nat → Int32) (N : Nat) (eb : Option (xP × xP)) : xP := fun R o =>
  if -6 ≤ xtk1 R then (true, ynx T N R.2.1, xput o (xtk1 R)) else
  match eb with
  | none => (false, R, o)
  | some (e, b) => if xtk1 R = -20 then (if (e (ynx T N R.2.1) o).1 = true then (if xtk1 (e (ynx T N R.2.1) o).2.1 = -21 then (true, ynx T N (e (ynx T N R.2.1) o).2.1.2.1, (e (ynx T N R.2.1) o).2.2) else (false, (e (ynx T N R.2.1) o).2)) else (false, (e (ynx T N R.2.1) o).2))
    else if xtk1 R = -17 then (if (b (ynx T N R.2.1) o).1 = true then (true, (b (ynx T N R.2.1) o).2.1, xput (b (ynx T N R.2.1) o).2.2 (-19)) else (false, (b (ynx T N R.2.1) o).2)) else (false, R, o)
def xterm (T : Nat → Int32) (N : Nat) (one : xP) : xP := xrow1 T N one xM18
def xsum (T : Nat → Int32) (N : Nat) (one : xP) : xP := xrow1 T N (xterm T N one) xM16
def xand (T : Nat → Int32) (N : Nat) (nt : xP) : xP := xrow1 T N nt xM12
def xE (T : Nat → Int32) (N : Nat) (nt : xP) : xP := xrow1 T N (xand T N nt) xM11
/-- one and not, where g more may be opened -/
def xlv (T : Nat → Int32) (N : Nat) : Nat → xP × xP
  | 0 => (xone T N none, xnot T N none (xsum T N (xone T N none)))
  | g + 1 => (xone T N (some (xE T N (xlv T N g).2, (xlv T N g).1)), xnot T N (some (xlv T N g).2) (xsum T N (xone T N (some (xE T N (xlv T N g).2, (xlv T N g).1)))))
theorem xlv_n0 (T : Nat → Int32) (N : Nat) : (xlv T N 0).2 = xnot T N none (xsum T N (xlv T N 0).1) := by simp only [xlv]
theorem xlv_nS (T : Nat → Int32) (N g : Nat) : (xlv T N (g + 1)).2 = xnot T N (some (xlv T N g).2) (xsum T N (xlv T N (g + 1)).1) := by simp only [xlv]
theorem xlv_o0 (T : Nat → Int32) (N : Nat) : (xlv T N 0).1 = xone T N none := by simp only [xlv]
theorem xlv_oS (T : Nat → Int32) (N g : Nat) : (xlv T N (g + 1)).1 = xone T N (some (xE T N (xlv T N g).2, (xlv T N g).1)) := by simp only [xlv]
theorem sp_x_one0 {s u m n : Nat → Int32} {a c b d : Nat → List Int32} {q : List (Option Nat)} {h : Nat} {z : mc_W} (hL : xL a) {N : Nat} (hN : s 5 = nI N) (hN1 : N ≤ 160) {R : xR} {o : List Int32} (hP : xPS N R o u c) : mc_T yX4_isOne cX4_isOne 2 (some .boolean) 8 [.ref 6, .int 5] (WW s a q u c h m b n d z) (some (.int (mc_b ((xlv (xT a) N 0).1 R o).1))) (fun w1 => ∃ u1 c1, xPS N ((xlv (xT a) N 0).1 R o).2.1 ((xlv (xT a) N 0).1 R o).2.2 u1 c1 ∧ xPK u u1 c c1 ∧ w1 = (WW s a q u1 c1 h m b n d z)) := by
  refine mc_start (own := RX4) (ini := false) rfl (by decide +kernel) (fun h => by cases h) (Nat.le_of_ble_eq_true rfl) ?_
  show mc_E _ _ _ _ _ [some (.ref 6), some (.int 5)] [] _ _ _
  have ht := hP.2.2.1
  refine e_aloadn (pc := 0) dX4_isOne_0 rfl ?_
  refine e_get (pc := 1) dX4_isOne_1 fX4_41 rfl rfl ?_
  refine e_bipush (v := -6) (pc := 4) dX4_isOne_4 (by decide) ?_
  refine e_icmp_lt (pc := 6) dX4_isOne_6 (t := 23) (by decide) (fun c_6 => ?_) (fun c_6 => ?_)
  · skip
    refine e_aloadn (pc := 23) dX4_isOne_23 rfl ?_
    refine e_get (pc := 24) dX4_isOne_24 fX4_41 rfl rfl ?_
    refine e_bipush (v := -17) (pc := 27) dX4_isOne_27 (by decide) ?_
    refine e_icmp_eq (pc := 29) dX4_isOne_29 (t := 41) (by decide) (fun c_29 => ?_) (fun c_29 => ?_)
    · skip
      refine e_iloadn (pc := 41) dX4_isOne_41 rfl ?_
      refine e_iconst (v := 5) (pc := 42) dX4_isOne_42 (by decide) ?_
      refine e_icmp_lt (pc := 43) dX4_isOne_43 (t := 48) (by decide) (fun c_43 => absurd c_43 (by decide)) (fun _ => ?_)
      refine e_iconst (v := 0) (pc := 46) dX4_isOne_46 (by decide) ?_
      exact e_zret (pc := 47) dX4_isOne_47 rfl (by rfl) (Nat.le_refl _) (Nat.le_refl _) (have e : (xlv (xT a) N 0).1 R o = (false, R, o) := (by rw [xlv_o0]; unfold xone; rw [if_neg (show ¬ -6 ≤ xtk1 R by rw [← ht]; exact Int32.not_le.mpr c_6)]); ⟨by rw [e]; rfl, u, c, by rw [e]; dsimp only; exact hP, xPK_refl u c, rfl⟩)
    · skip
      refine e_aloadn (pc := 32) dX4_isOne_32 rfl ?_
      refine e_get (pc := 33) dX4_isOne_33 fX4_41 rfl rfl ?_
      refine e_bipush (v := -20) (pc := 36) dX4_isOne_36 (by decide) ?_
      refine e_icmp_ne (pc := 38) dX4_isOne_38 (t := 46) (by decide) (fun c_38 => ?_) (fun c_38 => ?_)
      · skip
        refine e_iconst (v := 0) (pc := 46) dX4_isOne_46 (by decide) ?_
        exact e_zret (pc := 47) dX4_isOne_47 rfl (by rfl) (Nat.le_refl _) (Nat.le_refl _) (have e : (xlv (xT a) N 0).1 R o = (false, R, o) := (by rw [xlv_o0]; unfold xone; rw [if_neg (show ¬ -6 ≤ xtk1 R by rw [← ht]; exact Int32.not_le.mpr c_6)]); ⟨by rw [e]; rfl, u, c, by rw [e]; dsimp only; exact hP, xPK_refl u c, rfl⟩)
      · skip
        refine e_iloadn (pc := 41) dX4_isOne_41 rfl ?_
        refine e_iconst (v := 5) (pc := 42) dX4_isOne_42 (by decide) ?_
        refine e_icmp_lt (pc := 43) dX4_isOne_43 (t := 48) (by decide) (fun c_43 => absurd c_43 (by decide)) (fun _ => ?_)
        refine e_iconst (v := 0) (pc := 46) dX4_isOne_46 (by decide) ?_
        exact e_zret (pc := 47) dX4_isOne_47 rfl (by rfl) (Nat.le_refl _) (Nat.le_refl _) (have e : (xlv (xT a) N 0).1 R o = (false, R, o) := (by rw [xlv_o0]; unfold xone; rw [if_neg (show ¬ -6 ≤ xtk1 R by rw [← ht]; exact Int32.not_le.mpr c_6)]); ⟨by rw [e]; rfl, u, c, by rw [e]; dsimp only; exact hP, xPK_refl u c, rfl⟩)
  · skip
    refine e_aloadn (pc := 9) dX4_isOne_9 rfl ?_
    refine e_aloadn (pc := 10) dX4_isOne_10 rfl ?_
    refine e_get (pc := 11) dX4_isOne_11 fX4_41 rfl rfl ?_
    refine e_cvY (pc := 14) (sp_x_putP hP) dX4_isOne_14 kX4_76 rfl rfl rfl rfl rfl (mc_CR_of (Nat.le_of_ble_eq_true rfl) (Nat.le_of_ble_eq_true rfl) (Nat.le_refl _) (Nat.le_refl _)) (Nat.le_of_ble_eq_true rfl) (fun w1 hw1 => ?_)
    obtain ⟨u1, c1, hP1, hk1, rfl⟩ := hw1
    rw [ht] at hP1
    refine e_aloadn (pc := 17) dX4_isOne_17 rfl ?_
    refine e_cvY (pc := 18) (sp_x_goOnP hL hN hN1 hP1) dX4_isOne_18 kX4_28 rfl rfl rfl rfl rfl (mc_CR_of (Nat.le_of_ble_eq_true rfl) (Nat.le_of_ble_eq_true rfl) (Nat.le_refl _) (Nat.le_refl _)) (Nat.le_of_ble_eq_true rfl) (fun w1 hw1 => ?_)
    obtain ⟨u2, c2, hP2, hk2, rfl⟩ := hw1
    refine e_iconst (v := 1) (pc := 21) dX4_isOne_21 (by decide) ?_
    exact e_zret (pc := 22) dX4_isOne_22 rfl (by rfl) (Nat.le_refl _) (Nat.le_refl _) (have e : (xlv (xT a) N 0).1 R o = (true, ynx (xT a) N R.2.1, xput o (xtk1 R)) := (by rw [xlv_o0]; unfold xone; rw [if_pos (show -6 ≤ xtk1 R by rw [← ht]; exact Int32.not_lt.mp c_6)]); ⟨by rw [e]; rfl, u2, c2, by rw [e]; dsimp only; exact hP2, hk1.trans hk2, rfl⟩)
theorem lp_x_term0 {s m n : Nat → Int32} {a b d : Nat → List Int32} {q : List (Option Nat)} {h : Nat} {z : mc_W} (hL : xL a) {N : Nat} (hN : s 5 = nI N) (hN1 : N ≤ 160) {ub : Nat → Int32} {cb : Nat → List Int32} {V : Bool × xR × List Int32} :
    ∀ (f i : Nat) (R : xR) (o : List Int32) (u : Nat → Int32) (c : Nat → List Int32), i + f = 160 → xPS N R o u c → xPK ub u cb c → xlp (xT a) N (xlv (xT a) N 0).1 xM18 f R o = V →
      mc_E RX4 cX4_isTerm 3 (mc_JM (some .boolean) false 9 0 0 (fun r' w' => r' = some (.int (mc_b V.1)) ∧ ∃ u1 c1, xPS N V.2.1 V.2.2 u1 c1 ∧ xPK ub u1 cb c1 ∧ w' = (WW s a q u1 c1 h m b n d z))) 12 [some (.ref 6), some (.int 5), some (.int (nI i))] [] (WW s a q u c h m b n d z) 0 0 := by
  intro f
  induction f with
  | zero =>
    intro i R o u c hi hP hkb hV
    have e : i = 160 := by omega
    subst e
    simp only [xlp] at hV
    subst hV
    refine e_iloadn (pc := 12) dX4_isTerm_12 rfl ?_
    refine e_sipush (v := 160) (pc := 13) dX4_isTerm_13 (by decide) ?_
    refine e_icmp_ge (pc := 16) dX4_isTerm_16 (t := 54) (by decide) (fun _ => ?_) (fun c_16 => absurd (by decide) c_16)
    refine e_iconst (v := 1) (pc := 54) dX4_isTerm_54 (by decide) ?_
    exact e_zret (pc := 55) dX4_isTerm_55 rfl (by rfl) (Nat.le_refl _) (Nat.le_refl _) ⟨rfl, u, c, hP, hkb, rfl⟩
  | succ f ih =>
    intro i R o u c hi hP hkb hV
    simp only [xlp] at hV
    have hi1 : i < 160 := by omega
    have ht := hP.2.2.1
    refine e_iloadn (pc := 12) dX4_isTerm_12 rfl ?_
    refine e_sipush (v := 160) (pc := 13) dX4_isTerm_13 (by decide) ?_
    refine e_icmp_ge (pc := 16) dX4_isTerm_16 (t := 54) (by decide) (fun c_16 => absurd c_16 (nI_ge hi1 (by decide))) (fun _ => ?_)
    refine e_aloadn (pc := 19) dX4_isTerm_19 rfl ?_
    refine e_get (pc := 20) dX4_isTerm_20 fX4_41 rfl rfl ?_
    refine e_bipush (v := -18) (pc := 23) dX4_isTerm_23 (by decide) ?_
    refine e_icmp_ne (pc := 25) dX4_isTerm_25 (t := 54) (by decide) (fun c_25 => ?_) (fun c_25 => ?_)
    · skip
      refine e_iconst (v := 1) (pc := 54) dX4_isTerm_54 (by decide) ?_
      exact e_zret (pc := 55) dX4_isTerm_55 rfl (by rfl) (Nat.le_refl _) (Nat.le_refl _) ⟨by rw [← hV, if_neg (show ¬ xM18 (xtk1 R) = true by rw [← ht]; unfold xM18; simp [c_25])]; rfl, u, c, by rw [← hV, if_neg (show ¬ xM18 (xtk1 R) = true by rw [← ht]; unfold xM18; simp [c_25])]; exact hP, hkb, rfl⟩
    · skip
      refine e_aloadn (pc := 28) dX4_isTerm_28 rfl ?_
      refine e_cvY (pc := 29) (sp_x_goOnP hL hN hN1 hP) dX4_isTerm_29 kX4_28 rfl rfl rfl rfl rfl (mc_CR_of (Nat.le_of_ble_eq_true rfl) (Nat.le_of_ble_eq_true rfl) (Nat.le_refl _) (Nat.le_refl _)) (Nat.le_of_ble_eq_true rfl) (fun w1 hw1 => ?_)
      obtain ⟨u1, c1, hP1, hk1, rfl⟩ := hw1
      refine e_aloadn (pc := 32) dX4_isTerm_32 rfl ?_
      refine e_iloadn (pc := 33) dX4_isTerm_33 rfl ?_
      refine e_cvX (pc := 34) (sp_x_one0 hL hN hN1 hP1) dX4_isTerm_34 kX4_89 rfl rfl rfl rfl rfl (mc_CR_of (Nat.le_of_ble_eq_true rfl) (Nat.le_of_ble_eq_true rfl) (Nat.le_refl _) (Nat.le_refl _)) (Nat.le_of_ble_eq_true rfl) (fun w1 hw1 => ?_)
      obtain ⟨u2, c2, hP2, hk2, rfl⟩ := hw1
      refine e_if_ne (pc := 37) dX4_isTerm_37 (t := 42) (by decide) (fun c_37 => ?_) (fun c_37 => ?_)
      · skip
        refine e_aloadn (pc := 42) dX4_isTerm_42 rfl ?_
        refine e_bipush (v := -18) (pc := 43) dX4_isTerm_43 (by decide) ?_
        refine e_cvY (pc := 45) (sp_x_putP hP2) dX4_isTerm_45 kX4_76 rfl rfl rfl rfl rfl (mc_CR_of (Nat.le_of_ble_eq_true rfl) (Nat.le_of_ble_eq_true rfl) (Nat.le_refl _) (Nat.le_refl _)) (Nat.le_of_ble_eq_true rfl) (fun w1 hw1 => ?_)
        obtain ⟨u3, c3, hP3, hk3, rfl⟩ := hw1
        refine e_incC2 (pc := 48) dX4_isTerm_48 (nI_1 i) (Nat.le_of_ble_eq_true rfl) rfl ?_
        refine e_goto (pc := 51) dX4_isTerm_51 (t := 12) (by decide) ?_
        exact ih (i + 1) _ _ _ _ (by omega) (by rw [show (-18 : Int32) = xtk1 R from by rw [← ht, c_25]] at hP3; exact hP3) (((hkb.trans hk1).trans hk2).trans hk3) (by rw [← hV, if_pos (show xM18 (xtk1 R) = true by rw [← ht, c_25]; decide), if_pos (mc_b1.mp c_37)])
      · skip
        refine e_iconst (v := 0) (pc := 40) dX4_isTerm_40 (by decide) ?_
        exact e_zret (pc := 41) dX4_isTerm_41 rfl (by rfl) (Nat.le_refl _) (Nat.le_refl _) ⟨by rw [← hV, if_pos (show xM18 (xtk1 R) = true by rw [← ht, c_25]; decide), if_neg (show ¬ ((xlv (xT a) N 0).1 (ynx (xT a) N R.2.1) o).1 = true by rw [mc_b0.mp c_37]; decide)]; rfl, u2, c2, by rw [← hV, if_pos (show xM18 (xtk1 R) = true by rw [← ht, c_25]; decide), if_neg (show ¬ ((xlv (xT a) N 0).1 (ynx (xT a) N R.2.1) o).1 = true by rw [mc_b0.mp c_37]; decide)]; exact hP2, (hkb.trans hk1).trans hk2, rfl⟩
theorem sp_x_term0 {s u m n : Nat → Int32} {a c b d : Nat → List Int32} {q : List (Option Nat)} {h : Nat} {z : mc_W} (hL : xL a) {N : Nat} (hN : s 5 = nI N) (hN1 : N ≤ 160) {R : xR} {o : List Int32} (hP : xPS N R o u c) : mc_T yX4_isTerm cX4_isTerm 3 (some .boolean) 9 [.ref 6, .int 5] (WW s a q u c h m b n d z) (some (.int (mc_b (xterm (xT a) N (xlv (xT a) N 0).1 R o).1))) (fun w1 => ∃ u1 c1, xPS N (xterm (xT a) N (xlv (xT a) N 0).1 R o).2.1 (xterm (xT a) N (xlv (xT a) N 0).1 R o).2.2 u1 c1 ∧ xPK u u1 c c1 ∧ w1 = (WW s a q u1 c1 h m b n d z)) := by
  refine mc_start (own := RX4) (ini := false) rfl (by decide +kernel) (fun h => by cases h) (Nat.le_of_ble_eq_true rfl) ?_
  show mc_E _ _ _ _ _ [some (.ref 6), some (.int 5), none] [] _ _ _
  refine e_aloadn (pc := 0) dX4_isTerm_0 rfl ?_
  refine e_iloadn (pc := 1) dX4_isTerm_1 rfl ?_
  refine e_cvX (pc := 2) (sp_x_one0 hL hN hN1 hP) dX4_isTerm_2 kX4_89 rfl rfl rfl rfl rfl (mc_CR_of (Nat.le_of_ble_eq_true rfl) (Nat.le_of_ble_eq_true rfl) (Nat.le_refl _) (Nat.le_refl _)) (Nat.le_of_ble_eq_true rfl) (fun w1 hw1 => ?_)
  obtain ⟨u1, c1, hP1, hk1, rfl⟩ := hw1
  refine e_if_ne (pc := 5) dX4_isTerm_5 (t := 10) (by decide) (fun c_5 => ?_) (fun c_5 => ?_)
  · skip
    refine e_iconst (v := 0) (pc := 10) dX4_isTerm_10 (by decide) ?_
    refine e_isn2 (pc := 11) dX4_isTerm_11 (Nat.le_of_ble_eq_true rfl) rfl ?_
    have e : xterm (xT a) N (xlv (xT a) N 0).1 R o = xlp (xT a) N (xlv (xT a) N 0).1 xM18 160 ((xlv (xT a) N 0).1 R o).2.1 ((xlv (xT a) N 0).1 R o).2.2 := if_pos (mc_b1.mp c_5)
    rw [e]
    exact lp_x_term0 hL hN hN1 160 0 _ _ u1 c1 (by omega) hP1 hk1 rfl
  · skip
    refine e_iconst (v := 0) (pc := 8) dX4_isTerm_8 (by decide) ?_
    exact e_zret (pc := 9) dX4_isTerm_9 rfl (by rfl) (Nat.le_refl _) (Nat.le_refl _) (have e : xterm (xT a) N (xlv (xT a) N 0).1 R o = (false, ((xlv (xT a) N 0).1 R o).2) := if_neg (show ¬ ((xlv (xT a) N 0).1 R o).1 = true by rw [mc_b0.mp c_5]; decide); ⟨by rw [e]; rfl, u1, c1, by rw [e]; dsimp only; exact hP1, hk1, rfl⟩)
theorem lp_x_sum0 {s m n : Nat → Int32} {a b d : Nat → List Int32} {q : List (Option Nat)} {h : Nat} {z : mc_W} (hL : xL a) {N : Nat} (hN : s 5 = nI N) (hN1 : N ≤ 160) {ub : Nat → Int32} {cb : Nat → List Int32} {V : Bool × xR × List Int32} :
    ∀ (f i : Nat) (R : xR) (o : List Int32) (u : Nat → Int32) (c : Nat → List Int32) (x3 : Option Value), i + f = 160 → xPS N R o u c → xPK ub u cb c → xlp (xT a) N (xterm (xT a) N (xlv (xT a) N 0).1) xM16 f R o = V →
      mc_E RX4 cX4_isSum 4 (mc_JM (some .boolean) false 10 0 0 (fun r' w' => r' = some (.int (mc_b V.1)) ∧ ∃ u1 c1, xPS N V.2.1 V.2.2 u1 c1 ∧ xPK ub u1 cb c1 ∧ w' = (WW s a q u1 c1 h m b n d z))) 12 [some (.ref 6), some (.int 5), some (.int (nI i)), x3] [] (WW s a q u c h m b n d z) 0 0 := by
  intro f
  induction f with
  | zero =>
    intro i R o u c x3 hi hP hkb hV
    have e : i = 160 := by omega
    subst e
    simp only [xlp] at hV
    subst hV
    refine e_iloadn (pc := 12) dX4_isSum_12 rfl ?_
    refine e_sipush (v := 160) (pc := 13) dX4_isSum_13 (by decide) ?_
    refine e_icmp_ge (pc := 16) dX4_isSum_16 (t := 67) (by decide) (fun _ => ?_) (fun c_16 => absurd (by decide) c_16)
    refine e_iconst (v := 1) (pc := 67) dX4_isSum_67 (by decide) ?_
    exact e_zret (pc := 68) dX4_isSum_68 rfl (by rfl) (Nat.le_refl _) (Nat.le_refl _) ⟨rfl, u, c, hP, hkb, rfl⟩
  | succ f ih =>
    intro i R o u c x3 hi hP hkb hV
    simp only [xlp] at hV
    have hi1 : i < 160 := by omega
    have ht := hP.2.2.1
    refine e_iloadn (pc := 12) dX4_isSum_12 rfl ?_
    refine e_sipush (v := 160) (pc := 13) dX4_isSum_13 (by decide) ?_
    refine e_icmp_ge (pc := 16) dX4_isSum_16 (t := 67) (by decide) (fun c_16 => absurd c_16 (nI_ge hi1 (by decide))) (fun _ => ?_)
    refine e_aloadn (pc := 19) dX4_isSum_19 rfl ?_
    refine e_get (pc := 20) dX4_isSum_20 fX4_41 rfl rfl ?_
    refine e_bipush (v := -16) (pc := 23) dX4_isSum_23 (by decide) ?_
    refine e_icmp_eq (pc := 25) dX4_isSum_25 (t := 37) (by decide) (fun c_25 => ?_) (fun c_25 => ?_)
    · skip
      refine e_aloadn (pc := 37) dX4_isSum_37 rfl ?_
      refine e_get (pc := 38) dX4_isSum_38 fX4_41 rfl rfl ?_
      refine e_isn3 (pc := 41) dX4_isSum_41 (Nat.le_of_ble_eq_true rfl) rfl ?_
      refine e_aloadn (pc := 42) dX4_isSum_42 rfl ?_
      refine e_cvY (pc := 43) (sp_x_goOnP hL hN hN1 hP) dX4_isSum_43 kX4_28 rfl rfl rfl rfl rfl (mc_CR_of (Nat.le_of_ble_eq_true rfl) (Nat.le_of_ble_eq_true rfl) (Nat.le_refl _) (Nat.le_refl _)) (Nat.le_of_ble_eq_true rfl) (fun w1 hw1 => ?_)
      obtain ⟨u1, c1, hP1, hk1, rfl⟩ := hw1
      refine e_aloadn (pc := 46) dX4_isSum_46 rfl ?_
      refine e_iloadn (pc := 47) dX4_isSum_47 rfl ?_
      refine e_cvX (pc := 48) (sp_x_term0 hL hN hN1 hP1) dX4_isSum_48 kX4_86 rfl rfl rfl rfl rfl (mc_CR_of (Nat.le_of_ble_eq_true rfl) (Nat.le_of_ble_eq_true rfl) (Nat.le_refl _) (Nat.le_refl _)) (Nat.le_of_ble_eq_true rfl) (fun w1 hw1 => ?_)
      obtain ⟨u2, c2, hP2, hk2, rfl⟩ := hw1
      refine e_if_ne (pc := 51) dX4_isSum_51 (t := 56) (by decide) (fun c_51 => ?_) (fun c_51 => ?_)
      · skip
        refine e_aloadn (pc := 56) dX4_isSum_56 rfl ?_
        refine e_iloadn (pc := 57) dX4_isSum_57 rfl ?_
        refine e_cvY (pc := 58) (sp_x_putP hP2) dX4_isSum_58 kX4_76 rfl rfl rfl rfl rfl (mc_CR_of (Nat.le_of_ble_eq_true rfl) (Nat.le_of_ble_eq_true rfl) (Nat.le_refl _) (Nat.le_refl _)) (Nat.le_of_ble_eq_true rfl) (fun w1 hw1 => ?_)
        obtain ⟨u3, c3, hP3, hk3, rfl⟩ := hw1
        refine e_incC2 (pc := 61) dX4_isSum_61 (nI_1 i) (Nat.le_of_ble_eq_true rfl) rfl ?_
        refine e_goto (pc := 64) dX4_isSum_64 (t := 12) (by decide) ?_
        exact ih (i + 1) _ _ _ _ _ (by omega) (by rw [show u 2 = xtk1 R from ht] at hP3; exact hP3) (((hkb.trans hk1).trans hk2).trans hk3) (by rw [← hV, if_pos (show xM16 (xtk1 R) = true by rw [← ht, c_25]; decide), if_pos (mc_b1.mp c_51)])
      · skip
        refine e_iconst (v := 0) (pc := 54) dX4_isSum_54 (by decide) ?_
        exact e_zret (pc := 55) dX4_isSum_55 rfl (by rfl) (Nat.le_refl _) (Nat.le_refl _) ⟨by rw [← hV, if_pos (show xM16 (xtk1 R) = true by rw [← ht, c_25]; decide), if_neg (show ¬ ((xterm (xT a) N (xlv (xT a) N 0).1) (ynx (xT a) N R.2.1) o).1 = true by rw [mc_b0.mp c_51]; decide)]; rfl, u2, c2, by rw [← hV, if_pos (show xM16 (xtk1 R) = true by rw [← ht, c_25]; decide), if_neg (show ¬ ((xterm (xT a) N (xlv (xT a) N 0).1) (ynx (xT a) N R.2.1) o).1 = true by rw [mc_b0.mp c_51]; decide)]; exact hP2, (hkb.trans hk1).trans hk2, rfl⟩
    · skip
      refine e_aloadn (pc := 28) dX4_isSum_28 rfl ?_
      refine e_get (pc := 29) dX4_isSum_29 fX4_41 rfl rfl ?_
      refine e_bipush (v := -17) (pc := 32) dX4_isSum_32 (by decide) ?_
      refine e_icmp_ne (pc := 34) dX4_isSum_34 (t := 67) (by decide) (fun c_34 => ?_) (fun c_34 => ?_)
      · skip
        refine e_iconst (v := 1) (pc := 67) dX4_isSum_67 (by decide) ?_
        exact e_zret (pc := 68) dX4_isSum_68 rfl (by rfl) (Nat.le_refl _) (Nat.le_refl _) ⟨by rw [← hV, if_neg (show ¬ xM16 (xtk1 R) = true by rw [← ht]; unfold xM16; simp [c_25, c_34])]; rfl, u, c, by rw [← hV, if_neg (show ¬ xM16 (xtk1 R) = true by rw [← ht]; unfold xM16; simp [c_25, c_34])]; exact hP, hkb, rfl⟩
      · skip
        refine e_aloadn (pc := 37) dX4_isSum_37 rfl ?_
        refine e_get (pc := 38) dX4_isSum_38 fX4_41 rfl rfl ?_
        refine e_isn3 (pc := 41) dX4_isSum_41 (Nat.le_of_ble_eq_true rfl) rfl ?_
        refine e_aloadn (pc := 42) dX4_isSum_42 rfl ?_
        refine e_cvY (pc := 43) (sp_x_goOnP hL hN hN1 hP) dX4_isSum_43 kX4_28 rfl rfl rfl rfl rfl (mc_CR_of (Nat.le_of_ble_eq_true rfl) (Nat.le_of_ble_eq_true rfl) (Nat.le_refl _) (Nat.le_refl _)) (Nat.le_of_ble_eq_true rfl) (fun w1 hw1 => ?_)
        obtain ⟨u1, c1, hP1, hk1, rfl⟩ := hw1
        refine e_aloadn (pc := 46) dX4_isSum_46 rfl ?_
        refine e_iloadn (pc := 47) dX4_isSum_47 rfl ?_
        refine e_cvX (pc := 48) (sp_x_term0 hL hN hN1 hP1) dX4_isSum_48 kX4_86 rfl rfl rfl rfl rfl (mc_CR_of (Nat.le_of_ble_eq_true rfl) (Nat.le_of_ble_eq_true rfl) (Nat.le_refl _) (Nat.le_refl _)) (Nat.le_of_ble_eq_true rfl) (fun w1 hw1 => ?_)
        obtain ⟨u2, c2, hP2, hk2, rfl⟩ := hw1
        refine e_if_ne (pc := 51) dX4_isSum_51 (t := 56) (by decide) (fun c_51 => ?_) (fun c_51 => ?_)
        · skip
          refine e_aloadn (pc := 56) dX4_isSum_56 rfl ?_
          refine e_iloadn (pc := 57) dX4_isSum_57 rfl ?_
          refine e_cvY (pc := 58) (sp_x_putP hP2) dX4_isSum_58 kX4_76 rfl rfl rfl rfl rfl (mc_CR_of (Nat.le_of_ble_eq_true rfl) (Nat.le_of_ble_eq_true rfl) (Nat.le_refl _) (Nat.le_refl _)) (Nat.le_of_ble_eq_true rfl) (fun w1 hw1 => ?_)
          obtain ⟨u3, c3, hP3, hk3, rfl⟩ := hw1
          refine e_incC2 (pc := 61) dX4_isSum_61 (nI_1 i) (Nat.le_of_ble_eq_true rfl) rfl ?_
          refine e_goto (pc := 64) dX4_isSum_64 (t := 12) (by decide) ?_
          exact ih (i + 1) _ _ _ _ _ (by omega) (by rw [show u 2 = xtk1 R from ht] at hP3; exact hP3) (((hkb.trans hk1).trans hk2).trans hk3) (by rw [← hV, if_pos (show xM16 (xtk1 R) = true by rw [← ht, c_34]; decide), if_pos (mc_b1.mp c_51)])
        · skip
          refine e_iconst (v := 0) (pc := 54) dX4_isSum_54 (by decide) ?_
          exact e_zret (pc := 55) dX4_isSum_55 rfl (by rfl) (Nat.le_refl _) (Nat.le_refl _) ⟨by rw [← hV, if_pos (show xM16 (xtk1 R) = true by rw [← ht, c_34]; decide), if_neg (show ¬ ((xterm (xT a) N (xlv (xT a) N 0).1) (ynx (xT a) N R.2.1) o).1 = true by rw [mc_b0.mp c_51]; decide)]; rfl, u2, c2, by rw [← hV, if_pos (show xM16 (xtk1 R) = true by rw [← ht, c_34]; decide), if_neg (show ¬ ((xterm (xT a) N (xlv (xT a) N 0).1) (ynx (xT a) N R.2.1) o).1 = true by rw [mc_b0.mp c_51]; decide)]; exact hP2, (hkb.trans hk1).trans hk2, rfl⟩
theorem sp_x_sum0 {s u m n : Nat → Int32} {a c b d : Nat → List Int32} {q : List (Option Nat)} {h : Nat} {z : mc_W} (hL : xL a) {N : Nat} (hN : s 5 = nI N) (hN1 : N ≤ 160) {R : xR} {o : List Int32} (hP : xPS N R o u c) : mc_T yX4_isSum cX4_isSum 4 (some .boolean) 10 [.ref 6, .int 5] (WW s a q u c h m b n d z) (some (.int (mc_b (xsum (xT a) N (xlv (xT a) N 0).1 R o).1))) (fun w1 => ∃ u1 c1, xPS N (xsum (xT a) N (xlv (xT a) N 0).1 R o).2.1 (xsum (xT a) N (xlv (xT a) N 0).1 R o).2.2 u1 c1 ∧ xPK u u1 c c1 ∧ w1 = (WW s a q u1 c1 h m b n d z)) := by
  refine mc_start (own := RX4) (ini := false) rfl (by decide +kernel) (fun h => by cases h) (Nat.le_of_ble_eq_true rfl) ?_
  show mc_E _ _ _ _ _ [some (.ref 6), some (.int 5), none, none] [] _ _ _
  refine e_aloadn (pc := 0) dX4_isSum_0 rfl ?_
  refine e_iloadn (pc := 1) dX4_isSum_1 rfl ?_
  refine e_cvX (pc := 2) (sp_x_term0 hL hN hN1 hP) dX4_isSum_2 kX4_86 rfl rfl rfl rfl rfl (mc_CR_of (Nat.le_of_ble_eq_true rfl) (Nat.le_of_ble_eq_true rfl) (Nat.le_refl _) (Nat.le_refl _)) (Nat.le_of_ble_eq_true rfl) (fun w1 hw1 => ?_)
  obtain ⟨u1, c1, hP1, hk1, rfl⟩ := hw1
  refine e_if_ne (pc := 5) dX4_isSum_5 (t := 10) (by decide) (fun c_5 => ?_) (fun c_5 => ?_)
  · skip
    refine e_iconst (v := 0) (pc := 10) dX4_isSum_10 (by decide) ?_
    refine e_isn2 (pc := 11) dX4_isSum_11 (Nat.le_of_ble_eq_true rfl) rfl ?_
    have e : xsum (xT a) N (xlv (xT a) N 0).1 R o = xlp (xT a) N (xterm (xT a) N (xlv (xT a) N 0).1) xM16 160 ((xterm (xT a) N (xlv (xT a) N 0).1) R o).2.1 ((xterm (xT a) N (xlv (xT a) N 0).1) R o).2.2 := if_pos (mc_b1.mp c_5)
    rw [e]
    exact lp_x_sum0 hL hN hN1 160 0 _ _ u1 c1 _ (by omega) hP1 hk1 rfl
  · skip
    refine e_iconst (v := 0) (pc := 8) dX4_isSum_8 (by decide) ?_
    exact e_zret (pc := 9) dX4_isSum_9 rfl (by rfl) (Nat.le_refl _) (Nat.le_refl _) (have e : xsum (xT a) N (xlv (xT a) N 0).1 R o = (false, ((xterm (xT a) N (xlv (xT a) N 0).1) R o).2) := if_neg (show ¬ ((xterm (xT a) N (xlv (xT a) N 0).1) R o).1 = true by rw [mc_b0.mp c_5]; decide); ⟨by rw [e]; rfl, u1, c1, by rw [e]; dsimp only; exact hP1, hk1, rfl⟩)
theorem sp_x_not0 {s u m n : Nat → Int32} {a c b d : Nat → List Int32} {q : List (Option Nat)} {h : Nat} {z : mc_W} (hL : xL a) {N : Nat} (hN : s 5 = nI N) (hN1 : N ≤ 160) {R : xR} {o : List Int32} (hP : xPS N R o u c) : mc_T yX4_isNot cX4_isNot 3 (some .boolean) 11 [.ref 6, .int 5] (WW s a q u c h m b n d z) (some (.int (mc_b ((xlv (xT a) N 0).2 R o).1))) (fun w1 => ∃ u1 c1, xPS N ((xlv (xT a) N 0).2 R o).2.1 ((xlv (xT a) N 0).2 R o).2.2 u1 c1 ∧ xPK u u1 c c1 ∧ w1 = (WW s a q u1 c1 h m b n d z)) := by
  refine mc_start (own := RX4) (ini := false) rfl (by decide +kernel) (fun h => by cases h) (Nat.le_of_ble_eq_true rfl) ?_
  show mc_E _ _ _ _ _ [some (.ref 6), some (.int 5), none] [] _ _ _
  have ht := hP.2.2.1
  refine e_aloadn (pc := 0) dX4_isNot_0 rfl ?_
  refine e_get (pc := 1) dX4_isNot_1 fX4_41 rfl rfl ?_
  refine e_bipush (v := -13) (pc := 4) dX4_isNot_4 (by decide) ?_
  refine e_icmp_ne (pc := 6) dX4_isNot_6 (t := 40) (by decide) (fun c_6 => ?_) (fun c_6 => ?_)
  · skip
    refine e_aloadn (pc := 40) dX4_isNot_40 rfl ?_
    refine e_iloadn (pc := 41) dX4_isNot_41 rfl ?_
    refine e_cvX (pc := 42) (sp_x_sum0 hL hN hN1 hP) dX4_isNot_42 kX4_83 rfl rfl rfl rfl rfl (mc_CR_of (Nat.le_of_ble_eq_true rfl) (Nat.le_of_ble_eq_true rfl) (Nat.le_refl _) (Nat.le_refl _)) (Nat.le_of_ble_eq_true rfl) (fun w1 hw1 => ?_)
    obtain ⟨u1, c1, hP1, hk1, rfl⟩ := hw1
    refine e_if_ne (pc := 45) dX4_isNot_45 (t := 50) (by decide) (fun c_45 => ?_) (fun c_45 => ?_)
    · skip
      refine e_aloadn (pc := 50) dX4_isNot_50 rfl ?_
      refine e_get (pc := 51) dX4_isNot_51 fX4_41 rfl rfl ?_
      refine e_isn2 (pc := 54) dX4_isNot_54 (Nat.le_of_ble_eq_true rfl) rfl ?_
      refine e_iloadn (pc := 55) dX4_isNot_55 rfl ?_
      refine e_bipush (v := -14) (pc := 56) dX4_isNot_56 (by decide) ?_
      refine e_icmp_eq (pc := 58) dX4_isNot_58 (t := 67) (by decide) (fun c_58 => ?_) (fun c_58 => ?_)
      · skip
        refine e_aloadn (pc := 67) dX4_isNot_67 rfl ?_
        refine e_cvY (pc := 68) (sp_x_goOnP hL hN hN1 hP1) dX4_isNot_68 kX4_28 rfl rfl rfl rfl rfl (mc_CR_of (Nat.le_of_ble_eq_true rfl) (Nat.le_of_ble_eq_true rfl) (Nat.le_refl _) (Nat.le_refl _)) (Nat.le_of_ble_eq_true rfl) (fun w1 hw1 => ?_)
        obtain ⟨u2, c2, hP2, hk2, rfl⟩ := hw1
        refine e_aloadn (pc := 71) dX4_isNot_71 rfl ?_
        refine e_iloadn (pc := 72) dX4_isNot_72 rfl ?_
        refine e_cvX (pc := 73) (sp_x_sum0 hL hN hN1 hP2) dX4_isNot_73 kX4_83 rfl rfl rfl rfl rfl (mc_CR_of (Nat.le_of_ble_eq_true rfl) (Nat.le_of_ble_eq_true rfl) (Nat.le_refl _) (Nat.le_refl _)) (Nat.le_of_ble_eq_true rfl) (fun w1 hw1 => ?_)
        obtain ⟨u3, c3, hP3, hk3, rfl⟩ := hw1
        refine e_if_ne (pc := 76) dX4_isNot_76 (t := 81) (by decide) (fun c_76 => ?_) (fun c_76 => ?_)
        · skip
          refine e_aloadn (pc := 81) dX4_isNot_81 rfl ?_
          refine e_iloadn (pc := 82) dX4_isNot_82 rfl ?_
          refine e_cvY (pc := 83) (sp_x_putP hP3) dX4_isNot_83 kX4_76 rfl rfl rfl rfl rfl (mc_CR_of (Nat.le_of_ble_eq_true rfl) (Nat.le_of_ble_eq_true rfl) (Nat.le_refl _) (Nat.le_refl _)) (Nat.le_of_ble_eq_true rfl) (fun w1 hw1 => ?_)
          obtain ⟨u4, c4, hP4, hk4, rfl⟩ := hw1
          refine e_iconst (v := 1) (pc := 86) dX4_isNot_86 (by decide) ?_
          exact e_zret (pc := 87) dX4_isNot_87 rfl (by rfl) (Nat.le_refl _) (Nat.le_refl _) (have e : (xlv (xT a) N 0).2 R o = (true, (xsum (xT a) N (xlv (xT a) N 0).1 (ynx (xT a) N (xsum (xT a) N (xlv (xT a) N 0).1 R o).2.1.2.1) (xsum (xT a) N (xlv (xT a) N 0).1 R o).2.2).2.1, xput (xsum (xT a) N (xlv (xT a) N 0).1 (ynx (xT a) N (xsum (xT a) N (xlv (xT a) N 0).1 R o).2.1.2.1) (xsum (xT a) N (xlv (xT a) N 0).1 R o).2.2).2.2 (xtk1 (xsum (xT a) N (xlv (xT a) N 0).1 R o).2.1)) := (by rw [xlv_n0]; simp only [xnot]; rw [if_neg (show ¬ xtk1 R = -13 by rw [← ht]; exact c_6), if_pos (mc_b1.mp c_45), if_pos (show xM14 (xtk1 (xsum (xT a) N (xlv (xT a) N 0).1 R o).2.1) = true by rw [← hP1.2.2.1, c_58]; decide), if_pos (mc_b1.mp c_76)]); ⟨by rw [e]; rfl, u4, c4, (hP1.2.2.1 ▸ hP4 : xPS N (xsum (xT a) N (xlv (xT a) N 0).1 (ynx (xT a) N (xsum (xT a) N (xlv (xT a) N 0).1 R o).2.1.2.1) (xsum (xT a) N (xlv (xT a) N 0).1 R o).2.2).2.1 (xput (xsum (xT a) N (xlv (xT a) N 0).1 (ynx (xT a) N (xsum (xT a) N (xlv (xT a) N 0).1 R o).2.1.2.1) (xsum (xT a) N (xlv (xT a) N 0).1 R o).2.2).2.2 (xtk1 (xsum (xT a) N (xlv (xT a) N 0).1 R o).2.1)) u4 c4) |> (fun t => by rw [e]; dsimp only; exact t), ((hk1.trans hk2).trans hk3).trans hk4, rfl⟩)
        · skip
          refine e_iconst (v := 0) (pc := 79) dX4_isNot_79 (by decide) ?_
          exact e_zret (pc := 80) dX4_isNot_80 rfl (by rfl) (Nat.le_refl _) (Nat.le_refl _) (have e : (xlv (xT a) N 0).2 R o = (false, (xsum (xT a) N (xlv (xT a) N 0).1 (ynx (xT a) N (xsum (xT a) N (xlv (xT a) N 0).1 R o).2.1.2.1) (xsum (xT a) N (xlv (xT a) N 0).1 R o).2.2).2) := (by rw [xlv_n0]; simp only [xnot]; rw [if_neg (show ¬ xtk1 R = -13 by rw [← ht]; exact c_6), if_pos (mc_b1.mp c_45), if_pos (show xM14 (xtk1 (xsum (xT a) N (xlv (xT a) N 0).1 R o).2.1) = true by rw [← hP1.2.2.1, c_58]; decide), if_neg (show ¬ (xsum (xT a) N (xlv (xT a) N 0).1 (ynx (xT a) N (xsum (xT a) N (xlv (xT a) N 0).1 R o).2.1.2.1) (xsum (xT a) N (xlv (xT a) N 0).1 R o).2.2).1 = true by rw [mc_b0.mp c_76]; decide)]); ⟨by rw [e]; rfl, u3, c3, by rw [e]; dsimp only; exact hP3, (hk1.trans hk2).trans hk3, rfl⟩)
      · skip
        refine e_iloadn (pc := 61) dX4_isNot_61 rfl ?_
        refine e_bipush (v := -15) (pc := 62) dX4_isNot_62 (by decide) ?_
        refine e_icmp_ne (pc := 64) dX4_isNot_64 (t := 86) (by decide) (fun c_64 => ?_) (fun c_64 => ?_)
        · skip
          refine e_iconst (v := 1) (pc := 86) dX4_isNot_86 (by decide) ?_
          exact e_zret (pc := 87) dX4_isNot_87 rfl (by rfl) (Nat.le_refl _) (Nat.le_refl _) (have e : (xlv (xT a) N 0).2 R o = (true, (xsum (xT a) N (xlv (xT a) N 0).1 R o).2) := (by rw [xlv_n0]; simp only [xnot]; rw [if_neg (show ¬ xtk1 R = -13 by rw [← ht]; exact c_6), if_pos (mc_b1.mp c_45), if_neg (show ¬ xM14 (xtk1 (xsum (xT a) N (xlv (xT a) N 0).1 R o).2.1) = true by rw [← hP1.2.2.1]; unfold xM14; simp [c_58, c_64])]); ⟨by rw [e]; rfl, u1, c1, by rw [e]; dsimp only; exact hP1, hk1, rfl⟩)
        · skip
          refine e_aloadn (pc := 67) dX4_isNot_67 rfl ?_
          refine e_cvY (pc := 68) (sp_x_goOnP hL hN hN1 hP1) dX4_isNot_68 kX4_28 rfl rfl rfl rfl rfl (mc_CR_of (Nat.le_of_ble_eq_true rfl) (Nat.le_of_ble_eq_true rfl) (Nat.le_refl _) (Nat.le_refl _)) (Nat.le_of_ble_eq_true rfl) (fun w1 hw1 => ?_)
          obtain ⟨u2, c2, hP2, hk2, rfl⟩ := hw1
          refine e_aloadn (pc := 71) dX4_isNot_71 rfl ?_
          refine e_iloadn (pc := 72) dX4_isNot_72 rfl ?_
          refine e_cvX (pc := 73) (sp_x_sum0 hL hN hN1 hP2) dX4_isNot_73 kX4_83 rfl rfl rfl rfl rfl (mc_CR_of (Nat.le_of_ble_eq_true rfl) (Nat.le_of_ble_eq_true rfl) (Nat.le_refl _) (Nat.le_refl _)) (Nat.le_of_ble_eq_true rfl) (fun w1 hw1 => ?_)
          obtain ⟨u3, c3, hP3, hk3, rfl⟩ := hw1
          refine e_if_ne (pc := 76) dX4_isNot_76 (t := 81) (by decide) (fun c_76 => ?_) (fun c_76 => ?_)
          · skip
            refine e_aloadn (pc := 81) dX4_isNot_81 rfl ?_
            refine e_iloadn (pc := 82) dX4_isNot_82 rfl ?_
            refine e_cvY (pc := 83) (sp_x_putP hP3) dX4_isNot_83 kX4_76 rfl rfl rfl rfl rfl (mc_CR_of (Nat.le_of_ble_eq_true rfl) (Nat.le_of_ble_eq_true rfl) (Nat.le_refl _) (Nat.le_refl _)) (Nat.le_of_ble_eq_true rfl) (fun w1 hw1 => ?_)
            obtain ⟨u4, c4, hP4, hk4, rfl⟩ := hw1
            refine e_iconst (v := 1) (pc := 86) dX4_isNot_86 (by decide) ?_
            exact e_zret (pc := 87) dX4_isNot_87 rfl (by rfl) (Nat.le_refl _) (Nat.le_refl _) (have e : (xlv (xT a) N 0).2 R o = (true, (xsum (xT a) N (xlv (xT a) N 0).1 (ynx (xT a) N (xsum (xT a) N (xlv (xT a) N 0).1 R o).2.1.2.1) (xsum (xT a) N (xlv (xT a) N 0).1 R o).2.2).2.1, xput (xsum (xT a) N (xlv (xT a) N 0).1 (ynx (xT a) N (xsum (xT a) N (xlv (xT a) N 0).1 R o).2.1.2.1) (xsum (xT a) N (xlv (xT a) N 0).1 R o).2.2).2.2 (xtk1 (xsum (xT a) N (xlv (xT a) N 0).1 R o).2.1)) := (by rw [xlv_n0]; simp only [xnot]; rw [if_neg (show ¬ xtk1 R = -13 by rw [← ht]; exact c_6), if_pos (mc_b1.mp c_45), if_pos (show xM14 (xtk1 (xsum (xT a) N (xlv (xT a) N 0).1 R o).2.1) = true by rw [← hP1.2.2.1, c_64]; decide), if_pos (mc_b1.mp c_76)]); ⟨by rw [e]; rfl, u4, c4, (hP1.2.2.1 ▸ hP4 : xPS N (xsum (xT a) N (xlv (xT a) N 0).1 (ynx (xT a) N (xsum (xT a) N (xlv (xT a) N 0).1 R o).2.1.2.1) (xsum (xT a) N (xlv (xT a) N 0).1 R o).2.2).2.1 (xput (xsum (xT a) N (xlv (xT a) N 0).1 (ynx (xT a) N (xsum (xT a) N (xlv (xT a) N 0).1 R o).2.1.2.1) (xsum (xT a) N (xlv (xT a) N 0).1 R o).2.2).2.2 (xtk1 (xsum (xT a) N (xlv (xT a) N 0).1 R o).2.1)) u4 c4) |> (fun t => by rw [e]; dsimp only; exact t), ((hk1.trans hk2).trans hk3).trans hk4, rfl⟩)
          · skip
            refine e_iconst (v := 0) (pc := 79) dX4_isNot_79 (by decide) ?_
            exact e_zret (pc := 80) dX4_isNot_80 rfl (by rfl) (Nat.le_refl _) (Nat.le_refl _) (have e : (xlv (xT a) N 0).2 R o = (false, (xsum (xT a) N (xlv (xT a) N 0).1 (ynx (xT a) N (xsum (xT a) N (xlv (xT a) N 0).1 R o).2.1.2.1) (xsum (xT a) N (xlv (xT a) N 0).1 R o).2.2).2) := (by rw [xlv_n0]; simp only [xnot]; rw [if_neg (show ¬ xtk1 R = -13 by rw [← ht]; exact c_6), if_pos (mc_b1.mp c_45), if_pos (show xM14 (xtk1 (xsum (xT a) N (xlv (xT a) N 0).1 R o).2.1) = true by rw [← hP1.2.2.1, c_64]; decide), if_neg (show ¬ (xsum (xT a) N (xlv (xT a) N 0).1 (ynx (xT a) N (xsum (xT a) N (xlv (xT a) N 0).1 R o).2.1.2.1) (xsum (xT a) N (xlv (xT a) N 0).1 R o).2.2).1 = true by rw [mc_b0.mp c_76]; decide)]); ⟨by rw [e]; rfl, u3, c3, by rw [e]; dsimp only; exact hP3, (hk1.trans hk2).trans hk3, rfl⟩)
    · skip
      refine e_iconst (v := 0) (pc := 48) dX4_isNot_48 (by decide) ?_
      exact e_zret (pc := 49) dX4_isNot_49 rfl (by rfl) (Nat.le_refl _) (Nat.le_refl _) (have e : (xlv (xT a) N 0).2 R o = (false, (xsum (xT a) N (xlv (xT a) N 0).1 R o).2) := (by rw [xlv_n0]; simp only [xnot]; rw [if_neg (show ¬ xtk1 R = -13 by rw [← ht]; exact c_6), if_neg (show ¬ (xsum (xT a) N (xlv (xT a) N 0).1 R o).1 = true by rw [mc_b0.mp c_45]; decide)]); ⟨by rw [e]; rfl, u1, c1, by rw [e]; dsimp only; exact hP1, hk1, rfl⟩)
  · skip
    refine e_iloadn (pc := 9) dX4_isNot_9 rfl ?_
    refine e_iconst (v := 5) (pc := 10) dX4_isNot_10 (by decide) ?_
    refine e_icmp_lt (pc := 11) dX4_isNot_11 (t := 16) (by decide) (fun c_11 => absurd c_11 (by decide)) (fun _ => ?_)
    refine e_iconst (v := 0) (pc := 14) dX4_isNot_14 (by decide) ?_
    exact e_zret (pc := 15) dX4_isNot_15 rfl (by rfl) (Nat.le_refl _) (Nat.le_refl _) (have e : (xlv (xT a) N 0).2 R o = (false, R, o) := (by rw [xlv_n0]; simp only [xnot]; rw [if_pos (show xtk1 R = -13 by rw [← ht]; exact c_6)]); ⟨by rw [e]; rfl, u, c, by rw [e]; dsimp only; exact hP, xPK_refl u c, rfl⟩)
theorem lp_x_and0 {s m n : Nat → Int32} {a b d : Nat → List Int32} {q : List (Option Nat)} {h : Nat} {z : mc_W} (hL : xL a) {N : Nat} (hN : s 5 = nI N) (hN1 : N ≤ 160) {ub : Nat → Int32} {cb : Nat → List Int32} {V : Bool × xR × List Int32} :
    ∀ (f i : Nat) (R : xR) (o : List Int32) (u : Nat → Int32) (c : Nat → List Int32), i + f = 160 → xPS N R o u c → xPK ub u cb c → xlp (xT a) N (xlv (xT a) N 0).2 xM12 f R o = V →
      mc_E RX4 cX4_isAnd 3 (mc_JM (some .boolean) false 12 0 0 (fun r' w' => r' = some (.int (mc_b V.1)) ∧ ∃ u1 c1, xPS N V.2.1 V.2.2 u1 c1 ∧ xPK ub u1 cb c1 ∧ w' = (WW s a q u1 c1 h m b n d z))) 12 [some (.ref 6), some (.int 5), some (.int (nI i))] [] (WW s a q u c h m b n d z) 0 0 := by
  intro f
  induction f with
  | zero =>
    intro i R o u c hi hP hkb hV
    have e : i = 160 := by omega
    subst e
    simp only [xlp] at hV
    subst hV
    refine e_iloadn (pc := 12) dX4_isAnd_12 rfl ?_
    refine e_sipush (v := 160) (pc := 13) dX4_isAnd_13 (by decide) ?_
    refine e_icmp_ge (pc := 16) dX4_isAnd_16 (t := 54) (by decide) (fun _ => ?_) (fun c_16 => absurd (by decide) c_16)
    refine e_iconst (v := 1) (pc := 54) dX4_isAnd_54 (by decide) ?_
    exact e_zret (pc := 55) dX4_isAnd_55 rfl (by rfl) (Nat.le_refl _) (Nat.le_refl _) ⟨rfl, u, c, hP, hkb, rfl⟩
  | succ f ih =>
    intro i R o u c hi hP hkb hV
    simp only [xlp] at hV
    have hi1 : i < 160 := by omega
    have ht := hP.2.2.1
    refine e_iloadn (pc := 12) dX4_isAnd_12 rfl ?_
    refine e_sipush (v := 160) (pc := 13) dX4_isAnd_13 (by decide) ?_
    refine e_icmp_ge (pc := 16) dX4_isAnd_16 (t := 54) (by decide) (fun c_16 => absurd c_16 (nI_ge hi1 (by decide))) (fun _ => ?_)
    refine e_aloadn (pc := 19) dX4_isAnd_19 rfl ?_
    refine e_get (pc := 20) dX4_isAnd_20 fX4_41 rfl rfl ?_
    refine e_bipush (v := -12) (pc := 23) dX4_isAnd_23 (by decide) ?_
    refine e_icmp_ne (pc := 25) dX4_isAnd_25 (t := 54) (by decide) (fun c_25 => ?_) (fun c_25 => ?_)
    · skip
      refine e_iconst (v := 1) (pc := 54) dX4_isAnd_54 (by decide) ?_
      exact e_zret (pc := 55) dX4_isAnd_55 rfl (by rfl) (Nat.le_refl _) (Nat.le_refl _) ⟨by rw [← hV, if_neg (show ¬ xM12 (xtk1 R) = true by rw [← ht]; unfold xM12; simp [c_25])]; rfl, u, c, by rw [← hV, if_neg (show ¬ xM12 (xtk1 R) = true by rw [← ht]; unfold xM12; simp [c_25])]; exact hP, hkb, rfl⟩
    · skip
      refine e_aloadn (pc := 28) dX4_isAnd_28 rfl ?_
      refine e_cvY (pc := 29) (sp_x_goOnP hL hN hN1 hP) dX4_isAnd_29 kX4_28 rfl rfl rfl rfl rfl (mc_CR_of (Nat.le_of_ble_eq_true rfl) (Nat.le_of_ble_eq_true rfl) (Nat.le_refl _) (Nat.le_refl _)) (Nat.le_of_ble_eq_true rfl) (fun w1 hw1 => ?_)
      obtain ⟨u1, c1, hP1, hk1, rfl⟩ := hw1
      refine e_aloadn (pc := 32) dX4_isAnd_32 rfl ?_
      refine e_iloadn (pc := 33) dX4_isAnd_33 rfl ?_
      refine e_cvX (pc := 34) (sp_x_not0 hL hN hN1 hP1) dX4_isAnd_34 kX4_80 rfl rfl rfl rfl rfl (mc_CR_of (Nat.le_of_ble_eq_true rfl) (Nat.le_of_ble_eq_true rfl) (Nat.le_refl _) (Nat.le_refl _)) (Nat.le_of_ble_eq_true rfl) (fun w1 hw1 => ?_)
      obtain ⟨u2, c2, hP2, hk2, rfl⟩ := hw1
      refine e_if_ne (pc := 37) dX4_isAnd_37 (t := 42) (by decide) (fun c_37 => ?_) (fun c_37 => ?_)
      · skip
        refine e_aloadn (pc := 42) dX4_isAnd_42 rfl ?_
        refine e_bipush (v := -12) (pc := 43) dX4_isAnd_43 (by decide) ?_
        refine e_cvY (pc := 45) (sp_x_putP hP2) dX4_isAnd_45 kX4_76 rfl rfl rfl rfl rfl (mc_CR_of (Nat.le_of_ble_eq_true rfl) (Nat.le_of_ble_eq_true rfl) (Nat.le_refl _) (Nat.le_refl _)) (Nat.le_of_ble_eq_true rfl) (fun w1 hw1 => ?_)
        obtain ⟨u3, c3, hP3, hk3, rfl⟩ := hw1
        refine e_incC2 (pc := 48) dX4_isAnd_48 (nI_1 i) (Nat.le_of_ble_eq_true rfl) rfl ?_
        refine e_goto (pc := 51) dX4_isAnd_51 (t := 12) (by decide) ?_
        exact ih (i + 1) _ _ _ _ (by omega) (by rw [show (-12 : Int32) = xtk1 R from by rw [← ht, c_25]] at hP3; exact hP3) (((hkb.trans hk1).trans hk2).trans hk3) (by rw [← hV, if_pos (show xM12 (xtk1 R) = true by rw [← ht, c_25]; decide), if_pos (mc_b1.mp c_37)])
      · skip
        refine e_iconst (v := 0) (pc := 40) dX4_isAnd_40 (by decide) ?_
        exact e_zret (pc := 41) dX4_isAnd_41 rfl (by rfl) (Nat.le_refl _) (Nat.le_refl _) ⟨by rw [← hV, if_pos (show xM12 (xtk1 R) = true by rw [← ht, c_25]; decide), if_neg (show ¬ ((xlv (xT a) N 0).2 (ynx (xT a) N R.2.1) o).1 = true by rw [mc_b0.mp c_37]; decide)]; rfl, u2, c2, by rw [← hV, if_pos (show xM12 (xtk1 R) = true by rw [← ht, c_25]; decide), if_neg (show ¬ ((xlv (xT a) N 0).2 (ynx (xT a) N R.2.1) o).1 = true by rw [mc_b0.mp c_37]; decide)]; exact hP2, (hkb.trans hk1).trans hk2, rfl⟩
theorem sp_x_and0 {s u m n : Nat → Int32} {a c b d : Nat → List Int32} {q : List (Option Nat)} {h : Nat} {z : mc_W} (hL : xL a) {N : Nat} (hN : s 5 = nI N) (hN1 : N ≤ 160) {R : xR} {o : List Int32} (hP : xPS N R o u c) : mc_T yX4_isAnd cX4_isAnd 3 (some .boolean) 12 [.ref 6, .int 5] (WW s a q u c h m b n d z) (some (.int (mc_b (xand (xT a) N (xlv (xT a) N 0).2 R o).1))) (fun w1 => ∃ u1 c1, xPS N (xand (xT a) N (xlv (xT a) N 0).2 R o).2.1 (xand (xT a) N (xlv (xT a) N 0).2 R o).2.2 u1 c1 ∧ xPK u u1 c c1 ∧ w1 = (WW s a q u1 c1 h m b n d z)) := by
  refine mc_start (own := RX4) (ini := false) rfl (by decide +kernel) (fun h => by cases h) (Nat.le_of_ble_eq_true rfl) ?_
  show mc_E _ _ _ _ _ [some (.ref 6), some (.int 5), none] [] _ _ _
  refine e_aloadn (pc := 0) dX4_isAnd_0 rfl ?_
  refine e_iloadn (pc := 1) dX4_isAnd_1 rfl ?_
  refine e_cvX (pc := 2) (sp_x_not0 hL hN hN1 hP) dX4_isAnd_2 kX4_80 rfl rfl rfl rfl rfl (mc_CR_of (Nat.le_of_ble_eq_true rfl) (Nat.le_of_ble_eq_true rfl) (Nat.le_refl _) (Nat.le_refl _)) (Nat.le_of_ble_eq_true rfl) (fun w1 hw1 => ?_)
  obtain ⟨u1, c1, hP1, hk1, rfl⟩ := hw1
  refine e_if_ne (pc := 5) dX4_isAnd_5 (t := 10) (by decide) (fun c_5 => ?_) (fun c_5 => ?_)
  · skip
    refine e_iconst (v := 0) (pc := 10) dX4_isAnd_10 (by decide) ?_
    refine e_isn2 (pc := 11) dX4_isAnd_11 (Nat.le_of_ble_eq_true rfl) rfl ?_
    have e : xand (xT a) N (xlv (xT a) N 0).2 R o = xlp (xT a) N (xlv (xT a) N 0).2 xM12 160 ((xlv (xT a) N 0).2 R o).2.1 ((xlv (xT a) N 0).2 R o).2.2 := if_pos (mc_b1.mp c_5)
    rw [e]
    exact lp_x_and0 hL hN hN1 160 0 _ _ u1 c1 (by omega) hP1 hk1 rfl
  · skip
    refine e_iconst (v := 0) (pc := 8) dX4_isAnd_8 (by decide) ?_
    exact e_zret (pc := 9) dX4_isAnd_9 rfl (by rfl) (Nat.le_refl _) (Nat.le_refl _) (have e : xand (xT a) N (xlv (xT a) N 0).2 R o = (false, ((xlv (xT a) N 0).2 R o).2) := if_neg (show ¬ ((xlv (xT a) N 0).2 R o).1 = true by rw [mc_b0.mp c_5]; decide); ⟨by rw [e]; rfl, u1, c1, by rw [e]; dsimp only; exact hP1, hk1, rfl⟩)
theorem lp_x_E0 {s m n : Nat → Int32} {a b d : Nat → List Int32} {q : List (Option Nat)} {h : Nat} {z : mc_W} (hL : xL a) {N : Nat} (hN : s 5 = nI N) (hN1 : N ≤ 160) {ub : Nat → Int32} {cb : Nat → List Int32} {V : Bool × xR × List Int32} :
    ∀ (f i : Nat) (R : xR) (o : List Int32) (u : Nat → Int32) (c : Nat → List Int32), i + f = 160 → xPS N R o u c → xPK ub u cb c → xlp (xT a) N (xand (xT a) N (xlv (xT a) N 0).2) xM11 f R o = V →
      mc_E RX4 cX4_isE 3 (mc_JM (some .boolean) false 13 0 0 (fun r' w' => r' = some (.int (mc_b V.1)) ∧ ∃ u1 c1, xPS N V.2.1 V.2.2 u1 c1 ∧ xPK ub u1 cb c1 ∧ w' = (WW s a q u1 c1 h m b n d z))) 12 [some (.ref 6), some (.int 5), some (.int (nI i))] [] (WW s a q u c h m b n d z) 0 0 := by
  intro f
  induction f with
  | zero =>
    intro i R o u c hi hP hkb hV
    have e : i = 160 := by omega
    subst e
    simp only [xlp] at hV
    subst hV
    refine e_iloadn (pc := 12) dX4_isE_12 rfl ?_
    refine e_sipush (v := 160) (pc := 13) dX4_isE_13 (by decide) ?_
    refine e_icmp_ge (pc := 16) dX4_isE_16 (t := 54) (by decide) (fun _ => ?_) (fun c_16 => absurd (by decide) c_16)
    refine e_iconst (v := 1) (pc := 54) dX4_isE_54 (by decide) ?_
    exact e_zret (pc := 55) dX4_isE_55 rfl (by rfl) (Nat.le_refl _) (Nat.le_refl _) ⟨rfl, u, c, hP, hkb, rfl⟩
  | succ f ih =>
    intro i R o u c hi hP hkb hV
    simp only [xlp] at hV
    have hi1 : i < 160 := by omega
    have ht := hP.2.2.1
    refine e_iloadn (pc := 12) dX4_isE_12 rfl ?_
    refine e_sipush (v := 160) (pc := 13) dX4_isE_13 (by decide) ?_
    refine e_icmp_ge (pc := 16) dX4_isE_16 (t := 54) (by decide) (fun c_16 => absurd c_16 (nI_ge hi1 (by decide))) (fun _ => ?_)
    refine e_aloadn (pc := 19) dX4_isE_19 rfl ?_
    refine e_get (pc := 20) dX4_isE_20 fX4_41 rfl rfl ?_
    refine e_bipush (v := -11) (pc := 23) dX4_isE_23 (by decide) ?_
    refine e_icmp_ne (pc := 25) dX4_isE_25 (t := 54) (by decide) (fun c_25 => ?_) (fun c_25 => ?_)
    · skip
      refine e_iconst (v := 1) (pc := 54) dX4_isE_54 (by decide) ?_
      exact e_zret (pc := 55) dX4_isE_55 rfl (by rfl) (Nat.le_refl _) (Nat.le_refl _) ⟨by rw [← hV, if_neg (show ¬ xM11 (xtk1 R) = true by rw [← ht]; unfold xM11; simp [c_25])]; rfl, u, c, by rw [← hV, if_neg (show ¬ xM11 (xtk1 R) = true by rw [← ht]; unfold xM11; simp [c_25])]; exact hP, hkb, rfl⟩
    · skip
      refine e_aloadn (pc := 28) dX4_isE_28 rfl ?_
      refine e_cvY (pc := 29) (sp_x_goOnP hL hN hN1 hP) dX4_isE_29 kX4_28 rfl rfl rfl rfl rfl (mc_CR_of (Nat.le_of_ble_eq_true rfl) (Nat.le_of_ble_eq_true rfl) (Nat.le_refl _) (Nat.le_refl _)) (Nat.le_of_ble_eq_true rfl) (fun w1 hw1 => ?_)
      obtain ⟨u1, c1, hP1, hk1, rfl⟩ := hw1
      refine e_aloadn (pc := 32) dX4_isE_32 rfl ?_
      refine e_iloadn (pc := 33) dX4_isE_33 rfl ?_
      refine e_cvX (pc := 34) (sp_x_and0 hL hN hN1 hP1) dX4_isE_34 kX4_73 rfl rfl rfl rfl rfl (mc_CR_of (Nat.le_of_ble_eq_true rfl) (Nat.le_of_ble_eq_true rfl) (Nat.le_refl _) (Nat.le_refl _)) (Nat.le_of_ble_eq_true rfl) (fun w1 hw1 => ?_)
      obtain ⟨u2, c2, hP2, hk2, rfl⟩ := hw1
      refine e_if_ne (pc := 37) dX4_isE_37 (t := 42) (by decide) (fun c_37 => ?_) (fun c_37 => ?_)
      · skip
        refine e_aloadn (pc := 42) dX4_isE_42 rfl ?_
        refine e_bipush (v := -11) (pc := 43) dX4_isE_43 (by decide) ?_
        refine e_cvY (pc := 45) (sp_x_putP hP2) dX4_isE_45 kX4_76 rfl rfl rfl rfl rfl (mc_CR_of (Nat.le_of_ble_eq_true rfl) (Nat.le_of_ble_eq_true rfl) (Nat.le_refl _) (Nat.le_refl _)) (Nat.le_of_ble_eq_true rfl) (fun w1 hw1 => ?_)
        obtain ⟨u3, c3, hP3, hk3, rfl⟩ := hw1
        refine e_incC2 (pc := 48) dX4_isE_48 (nI_1 i) (Nat.le_of_ble_eq_true rfl) rfl ?_
        refine e_goto (pc := 51) dX4_isE_51 (t := 12) (by decide) ?_
        exact ih (i + 1) _ _ _ _ (by omega) (by rw [show (-11 : Int32) = xtk1 R from by rw [← ht, c_25]] at hP3; exact hP3) (((hkb.trans hk1).trans hk2).trans hk3) (by rw [← hV, if_pos (show xM11 (xtk1 R) = true by rw [← ht, c_25]; decide), if_pos (mc_b1.mp c_37)])
      · skip
        refine e_iconst (v := 0) (pc := 40) dX4_isE_40 (by decide) ?_
        exact e_zret (pc := 41) dX4_isE_41 rfl (by rfl) (Nat.le_refl _) (Nat.le_refl _) ⟨by rw [← hV, if_pos (show xM11 (xtk1 R) = true by rw [← ht, c_25]; decide), if_neg (show ¬ ((xand (xT a) N (xlv (xT a) N 0).2) (ynx (xT a) N R.2.1) o).1 = true by rw [mc_b0.mp c_37]; decide)]; rfl, u2, c2, by rw [← hV, if_pos (show xM11 (xtk1 R) = true by rw [← ht, c_25]; decide), if_neg (show ¬ ((xand (xT a) N (xlv (xT a) N 0).2) (ynx (xT a) N R.2.1) o).1 = true by rw [mc_b0.mp c_37]; decide)]; exact hP2, (hkb.trans hk1).trans hk2, rfl⟩
theorem sp_x_E0 {s u m n : Nat → Int32} {a c b d : Nat → List Int32} {q : List (Option Nat)} {h : Nat} {z : mc_W} (hL : xL a) {N : Nat} (hN : s 5 = nI N) (hN1 : N ≤ 160) {R : xR} {o : List Int32} (hP : xPS N R o u c) : mc_T yX4_isE cX4_isE 3 (some .boolean) 13 [.ref 6, .int 5] (WW s a q u c h m b n d z) (some (.int (mc_b (xE (xT a) N (xlv (xT a) N 0).2 R o).1))) (fun w1 => ∃ u1 c1, xPS N (xE (xT a) N (xlv (xT a) N 0).2 R o).2.1 (xE (xT a) N (xlv (xT a) N 0).2 R o).2.2 u1 c1 ∧ xPK u u1 c c1 ∧ w1 = (WW s a q u1 c1 h m b n d z)) := by
  refine mc_start (own := RX4) (ini := false) rfl (by decide +kernel) (fun h => by cases h) (Nat.le_of_ble_eq_true rfl) ?_
  show mc_E _ _ _ _ _ [some (.ref 6), some (.int 5), none] [] _ _ _
  refine e_aloadn (pc := 0) dX4_isE_0 rfl ?_
  refine e_iloadn (pc := 1) dX4_isE_1 rfl ?_
  refine e_cvX (pc := 2) (sp_x_and0 hL hN hN1 hP) dX4_isE_2 kX4_73 rfl rfl rfl rfl rfl (mc_CR_of (Nat.le_of_ble_eq_true rfl) (Nat.le_of_ble_eq_true rfl) (Nat.le_refl _) (Nat.le_refl _)) (Nat.le_of_ble_eq_true rfl) (fun w1 hw1 => ?_)
  obtain ⟨u1, c1, hP1, hk1, rfl⟩ := hw1
  refine e_if_ne (pc := 5) dX4_isE_5 (t := 10) (by decide) (fun c_5 => ?_) (fun c_5 => ?_)
  · skip
    refine e_iconst (v := 0) (pc := 10) dX4_isE_10 (by decide) ?_
    refine e_isn2 (pc := 11) dX4_isE_11 (Nat.le_of_ble_eq_true rfl) rfl ?_
    have e : xE (xT a) N (xlv (xT a) N 0).2 R o = xlp (xT a) N (xand (xT a) N (xlv (xT a) N 0).2) xM11 160 ((xand (xT a) N (xlv (xT a) N 0).2) R o).2.1 ((xand (xT a) N (xlv (xT a) N 0).2) R o).2.2 := if_pos (mc_b1.mp c_5)
    rw [e]
    exact lp_x_E0 hL hN hN1 160 0 _ _ u1 c1 (by omega) hP1 hk1 rfl
  · skip
    refine e_iconst (v := 0) (pc := 8) dX4_isE_8 (by decide) ?_
    exact e_zret (pc := 9) dX4_isE_9 rfl (by rfl) (Nat.le_refl _) (Nat.le_refl _) (have e : xE (xT a) N (xlv (xT a) N 0).2 R o = (false, ((xand (xT a) N (xlv (xT a) N 0).2) R o).2) := if_neg (show ¬ ((xand (xT a) N (xlv (xT a) N 0).2) R o).1 = true by rw [mc_b0.mp c_5]; decide); ⟨by rw [e]; rfl, u1, c1, by rw [e]; dsimp only; exact hP1, hk1, rfl⟩)
