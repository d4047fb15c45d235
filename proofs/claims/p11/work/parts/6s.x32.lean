/-! ===== one, not, and the rows over them ===== -/
theorem cm_num {v : Int32} (h : 0 ≤ v.toInt ∧ v.toInt < 10000) : cm (100000 + v) = v := by
  have e : (100000 + v : Int32).toInt = 100000 + v.toInt := i32_add (x := 100000) (by rw [show (100000 : Int32).toInt = 100000 from rfl]; omega) (by omega)
  unfold cm
  rw [if_pos (by rw [Int32.le_iff_toInt_le, e, show (100000 : Int32).toInt = 100000 from rfl]; omega)]
  apply Int32.toInt_inj.mp
  rw [i32_sub (by rw [e]; omega) (by decide), e, show (100000 : Int32).toInt = 100000 from rfl]
  omega
theorem cm_nam {v : Int32} (h : 0 ≤ v.toInt ∧ v.toInt ≤ 5) : cm v = -1 - v := by
  unfold cm
  rw [if_neg (by rw [Int32.le_iff_toInt_le, show (100000 : Int32).toInt = 100000 from rfl]; omega), if_pos (by rw [Int32.lt_iff_toInt_lt, show (11 : Int32).toInt = 11 from rfl]; omega)]
/-- a value or a name, and what stands for it -/
def xvl (R : xR) : Int32 := if R.2.2.1 = 1 then 100000 + R.2.2.2 else R.2.2.2
theorem xvl_cm {R : xR} (h : xok R) (hv : R.2.2.1 = 1 ∨ R.2.2.1 = 2) : cm (xvl R) = xtk1 R := by
  unfold xvl xtk1
  by_cases h1 : R.2.2.1 = 1
  · rw [if_pos h1, cm_num (h.1 h1), h1]; rfl
  · have h2 : R.2.2.1 = 2 := hv.resolve_left h1
    rw [if_neg h1, cm_nam (h.2.1 h2), h2]; rfl
theorem xput_map {oy : List Int32} {x : Int32} (h : oy.length < 160) : xput (oy.map cm) (cm x) = (oy ++ [x]).map cm := by
  unfold xput; rw [if_pos (by rw [List.length_map]; exact h), List.map_append]; rfl
theorem xFo7 (R : xR) (S O : List Int32) (P : Int32) : xFo 7 R S O P := ⟨fun q => absurd q (by decide), fun q => absurd q (by decide), fun q => absurd q (by decide), fun q => absurd q (by decide), fun q => absurd q (by decide)⟩
theorem addsub1 {x : Int32} : x + 1 - 1 = x := by
  rw [Int32.sub_eq_add_neg, Int32.add_assoc]; simp
theorem yrk_100 (x : Int32) : yy_rk x < 100 := by
  unfold yy_rk
  split; · decide
  split; · decide
  split; · decide
  split; · decide
  split
  · split
    · split <;> decide
    · decide
  · decide
theorem one_go {T : Nat → Int32} {N : Nat} {op : Int32} {eb : Option (xP × xP)} (hN : N ≤ 160) (h0 : eb = none → op = 5)
    (h1 : ∀ e b, eb = some (e, b) → op ≠ 5 ∧ xsim T N 1 1 true (op + 1) e ∧ xsim T N 7 100 false (op + 1) b ∧ xgd T N e ∧ xgd T N b) : xsim T N 7 100 false op (xone T N eb) := by
  intro f A my st oy hA hf hst hmy hmn hl
  have ok := ynx_ok T N A
  have nl := ynx_lt T N A hA
  have nb := ynx_b T N A hA
  obtain ⟨f0, rfl⟩ : ∃ f0, f = f0 + 1 := ⟨f - 1, by omega⟩
  have hv := xtk_val ok
  unfold xone
  by_cases hc : -6 ≤ xtk1 (ynx T N A)
  · rw [if_pos hc]
    have ht := hv.mp hc
    have n0 := nl.2.2 (by rcases ht with q | q <;> (rw [q]; decide))
    refine ⟨fun _ => ⟨f0, (ynx T N A).2.1, my, _, _, _, oy ++ [xvl (ynx T N A)], ?_, rfl, by omega, nl.2.1, by omega, yuw_two (Int32.le_refl _) _ _ _, ?_, xFo7 _ _ _ _⟩, fun q => by cases (show true = false from q)⟩
    · simp only [yer]; rw [if_pos ht]; rfl
    · rw [← xvl_cm ok ht]; exact xput_map (by omega)
  · rw [if_neg hc]
    have ht : ¬ ((ynx T N A).2.2.1 = 1 ∨ (ynx T N A).2.2.1 = 2) := fun q => hc (hv.mpr q)
    have h6 : ¬ ((ynx T N A).2.2.1 = 6 ∧ my = true) := fun q => hmn rfl q.2 (by unfold xtk1; rw [q.1]; rfl)
    cases eb with
    | none =>
      have h5 := h0 rfl
      subst h5
      refine ⟨(fun q => by cases (show false = true from q)), fun _ => ?_⟩
      simp only [yer]
      rw [if_neg ht, if_neg h6]
      by_cases a1 : (ynx T N A).2.2.1 = 45
      · rw [if_pos a1, if_pos trivial]; exact ⟨rfl, rfl⟩
      · rw [if_neg a1]
        by_cases a2 : (ynx T N A).2.2.1 = 40
        · rw [if_pos a2, if_pos trivial]; exact ⟨rfl, rfl⟩
        · rw [if_neg a2]; exact ⟨rfl, rfl⟩
    | some p =>
      obtain ⟨e, b⟩ := p
      obtain ⟨h5, he, hb, ge, gb⟩ := h1 e b rfl
      dsimp only
      have inv := xtk_inv ok
      by_cases c20 : xtk1 (ynx T N A) = -20
      · rw [if_pos c20]
        have t40 := inv.2.2.2.2.1 c20
        have n0 := nl.2.2 (by rw [t40]; decide)
        have b0 := nb.2.2 (by rw [t40]; decide)
        have nb2 := ynx_b T N _ nl.2.1
        have ey : yer T N (f0 + 1) A true my st oy op = yer T N f0 (ynx T N A).2.1 true true (0 :: st) oy (op + 1) := by
          simp only [yer]
          rw [if_neg ht, if_neg h6, if_neg (show ¬ (ynx T N A).2.2.1 = 45 by rw [t40]; decide), if_pos t40, if_neg h5]
        have hs := he f0 (ynx T N A).2.1 true (0 :: st) oy nl.2.1 (by omega) (fun x l q => by cases q; decide) (fun _ => rfl) (fun q => by cases q) (by omega)
        have gg := ge (ynx T N (ynx T N A).2.1) (oy.map cm) 2 ⟨_, nl.2.1, rfl⟩ (by rw [List.length_map]; omega)
        rw [← ey] at hs
        generalize e (ynx T N (ynx T N A).2.1) (oy.map cm) = res at hs gg ⊢
        by_cases h2 : res.1 = true
        · rw [if_pos h2]
          obtain ⟨f2, A2, my2, S2, O2, P2, oy2, e1, e2, e3, e4, e5, e6, e7, e8⟩ := hs.1 h2
          have e6 : yuw 1 S2 O2 P2 = (0 :: st, oy2, op + 1) := e6.trans (yuw_st (fun x l q => by cases q; decide))
          have ok2 := ynx_ok T N A2
          have nl2 := ynx_lt T N A2 e4
          obtain ⟨f3, rfl⟩ : ∃ f3, f2 = f3 + 1 := ⟨f2 - 1, by omega⟩
          rw [e2] at e8 ⊢
          by_cases c21 : xtk1 (ynx T N A2) = -21
          · rw [if_pos c21]
            have t41 := (xtk_inv ok2).2.2.2.2.2.1 c21
            have n2 := nl2.2.2 (by rw [t41]; decide)
            refine ⟨fun _ => ⟨f3, (ynx T N A2).2.1, my2, _, _, _, oy2, ?_, rfl, by omega, nl2.2.1, by omega, yuw_two (st := st) (o := oy2) (op := op) (Int32.le_refl 7), e7, xFo7 _ _ _ _⟩, fun q => by cases (show true = false from q)⟩
            rw [e1]
            simp only [yer]
            rw [if_neg (show ¬ (ynx T N A2).2.2.1 = 59 by rw [t41]; decide), if_pos t41, e6]
            dsimp only
            rw [if_neg (show ¬ (0 :: st).isEmpty = true from fun q => by cases q), addsub1]
            rfl
          · rw [if_neg c21]
            refine ⟨(fun q => by cases (show false = true from q)), fun _ => ?_⟩
            rw [e1, e2]
            have t41 : ¬ (ynx T N A2).2.2.1 = 41 := fun q => c21 (by unfold xtk1; rw [q]; rfl)
            simp only [yer]
            by_cases t59 : (ynx T N A2).2.2.1 = 59
            · rw [if_pos t59, e6]; exact ⟨rfl, rfl⟩
            · rw [if_neg t59, if_neg t41]
              by_cases sg : ysg (ynx T N A2).2.2.1 = -1
              · rw [if_pos sg]; exact ⟨rfl, rfl⟩
              · rw [if_neg sg]
                have hb2 : (ybt (ysg (ynx T N A2).2.2.1) S2 O2 P2).1 = false := by
                  have F := e8
                  by_cases q4 : (ynx T N A2).2.2.1 = 4; · exact absurd (show xtk1 (ynx T N A2) = -11 by unfold xtk1; rw [q4]; rfl) (F.2.2.2.2 (by decide))
                  by_cases q5 : (ynx T N A2).2.2.1 = 5; · exact absurd (show xtk1 (ynx T N A2) = -12 by unfold xtk1; rw [q5]; rfl) (F.2.2.2.1 (by decide))
                  by_cases q6 : (ynx T N A2).2.2.1 = 60; · rw [q6]; exact (F.2.2.1 (by decide)).1 (by unfold xtk1; rw [q6]; rfl)
                  by_cases q7 : (ynx T N A2).2.2.1 = 61; · rw [q7]; exact (F.2.2.1 (by decide)).2 (by unfold xtk1; rw [q7]; rfl)
                  by_cases q8 : (ynx T N A2).2.2.1 = 43; · exact absurd (show xtk1 (ynx T N A2) = -16 by unfold xtk1; rw [q8]; rfl) (F.2.1 (by decide)).1
                  by_cases q9 : (ynx T N A2).2.2.1 = 45; · exact absurd (show xtk1 (ynx T N A2) = -17 by unfold xtk1; rw [q9]; rfl) (F.2.1 (by decide)).2
                  by_cases q1 : (ynx T N A2).2.2.1 = 42; · exact absurd (show xtk1 (ynx T N A2) = -18 by unfold xtk1; rw [q1]; rfl) (F.1 (by decide))
                  exact absurd (by unfold ysg; rw [if_neg q4, if_neg q5, if_neg q6, if_neg q7, if_neg q8, if_neg q9, if_neg q1]) sg
                rw [if_pos hb2]; exact ⟨rfl, rfl⟩
        · rw [if_neg h2]
          have h2f : res.1 = false := by rwa [Bool.not_eq_true] at h2
          exact ⟨(fun q => by cases (show false = true from q)), fun _ => hs.2 h2f⟩
      · rw [if_neg c20]
        by_cases c17 : xtk1 (ynx T N A) = -17
        · rw [if_pos c17]
          have t45 := inv.2.2.2.2.2.2.2.2.1 c17
          have n0 := nl.2.2 (by rw [t45]; decide)
          have b0 := nb.2.2 (by rw [t45]; decide)
          have nb2 := ynx_b T N _ nl.2.1
          have ey : yer T N (f0 + 1) A true my st oy op = yer T N f0 (ynx T N A).2.1 true false (19 :: st) oy (op + 1) := by
            simp only [yer]
            rw [if_neg ht, if_neg h6, if_pos t45, if_neg h5]
          have hs := hb f0 (ynx T N A).2.1 false (19 :: st) oy nl.2.1 (by omega) (fun x l q => yrk_100 x) (fun q => by cases q) (fun _ q => by cases q) (by omega)
          have gg := gb (ynx T N (ynx T N A).2.1) (oy.map cm) 2 ⟨_, nl.2.1, rfl⟩ (by rw [List.length_map]; omega)
          rw [← ey] at hs
          generalize b (ynx T N (ynx T N A).2.1) (oy.map cm) = res at hs gg ⊢
          by_cases h2 : res.1 = true
          · rw [if_pos h2]
            obtain ⟨f2, A2, my2, S2, O2, P2, oy2, e1, e2, e3, e4, e5, e6, e7, e8⟩ := hs.1 h2
            have gl := gg.2
            rw [e7, e2, List.length_map] at gl
            have nb3 := ynx_b T N A2 e4
            refine ⟨fun _ => ⟨f2, A2, my2, S2, O2, P2, oy2 ++ [19], e1, e2, by omega, e4, e5, ?_, ?_, xFo7 _ _ _ _⟩, fun q => by cases (show true = false from q)⟩
            · refine e6.trans ?_
              show yuw 7 (19 :: st) oy2 (op + 1) = _
              rw [yuw, if_neg (show ¬ yy_rk 19 < 7 by decide), if_pos (Or.inr rfl), addsub1]
            · rw [e7]; exact xput_map (x := 19) (by omega)
          · rw [if_neg h2]
            have h2f : res.1 = false := by rwa [Bool.not_eq_true] at h2
            exact ⟨(fun q => by cases (show false = true from q)), fun _ => hs.2 h2f⟩
        · rw [if_neg c17]
          refine ⟨(fun q => by cases (show false = true from q)), fun _ => ?_⟩
          simp only [yer]
          rw [if_neg ht, if_neg h6, if_neg (show ¬ (ynx T N A).2.2.1 = 45 from fun q => c17 (by unfold xtk1; rw [q]; rfl)), if_neg (show ¬ (ynx T N A).2.2.1 = 40 from fun q => c20 (by unfold xtk1; rw [q]; rfl))]
          exact ⟨rfl, rfl⟩
theorem not_go {T : Nat → Int32} {N : Nat} {op : Int32} {nb : Option xP} {sm : xP} (hN : N ≤ 160) (h0 : nb = none → op = 5)
    (h1 : ∀ p, nb = some p → op ≠ 5 ∧ xsim T N 3 4 true (op + 1) p ∧ xgd T N p) (hs : xsim T N 5 5 false op sm) (hg : xgd T N sm) : xsim T N 3 4 true op (xnot T N nb sm) := by
  intro f A my st oy hA hf hst hmy hmn hl
  have ok := ynx_ok T N A
  have nl := ynx_lt T N A hA
  have nbb := ynx_b T N A hA
  have inv := xtk_inv ok
  have m1 := hmy rfl
  subst m1
  unfold xnot
  by_cases c13 : xtk1 (ynx T N A) = -13
  · rw [if_pos c13]
    have t6 := inv.2.2.2.1 c13
    have n0 := nl.2.2 (by rw [t6]; decide)
    have b0 := nbb.2.2 (by rw [t6]; decide)
    have nb2 := ynx_b T N _ nl.2.1
    obtain ⟨f0, rfl⟩ : ∃ f0, f = f0 + 1 := ⟨f - 1, by omega⟩
    have ht : ¬ ((ynx T N A).2.2.1 = 1 ∨ (ynx T N A).2.2.1 = 2) := fun q => by rw [t6] at q; exact absurd q (by decide)
    cases nb with
    | none =>
      have h5 := h0 rfl
      subst h5
      refine ⟨(fun q => by cases (show false = true from q)), fun _ => ?_⟩
      simp only [yer]
      rw [if_neg ht, if_pos ⟨t6, trivial⟩, if_pos trivial]
      exact ⟨rfl, rfl⟩
    | some p =>
      obtain ⟨h5, hp, gp⟩ := h1 p rfl
      dsimp only
      have ey : yer T N (f0 + 1) A true true st oy op = yer T N f0 (ynx T N A).2.1 true true (13 :: st) oy (op + 1) := by
        simp only [yer]
        rw [if_neg ht, if_pos ⟨t6, trivial⟩, if_neg h5]
      have hh := hp f0 (ynx T N A).2.1 true (13 :: st) oy nl.2.1 (by omega) (fun x l q => by cases q; decide) (fun _ => rfl) (fun q => by cases q) (by omega)
      have gg := gp (ynx T N (ynx T N A).2.1) (oy.map cm) 2 ⟨_, nl.2.1, rfl⟩ (by rw [List.length_map]; omega)
      rw [← ey] at hh
      generalize p (ynx T N (ynx T N A).2.1) (oy.map cm) = res at hh gg ⊢
      by_cases h2 : res.1 = true
      · rw [if_pos h2]
        obtain ⟨f2, A2, my2, S2, O2, P2, oy2, e1, e2, e3, e4, e5, e6, e7, e8⟩ := hh.1 h2
        have gl := gg.2
        rw [e7, e2, List.length_map] at gl
        have nb3 := ynx_b T N A2 e4
        refine ⟨fun _ => ⟨f2, A2, my2, S2, O2, P2, oy2 ++ [13], e1, e2, by omega, e4, e5, ?_, ?_, e8⟩, fun q => by cases (show true = false from q)⟩
        · refine e6.trans ?_
          show yuw 3 (13 :: st) oy2 (op + 1) = _
          rw [yuw, if_neg (show ¬ yy_rk 13 < 3 by decide), if_pos (Or.inl rfl), addsub1]
        · rw [e7]; exact xput_map (x := 13) (by omega)
      · rw [if_neg h2]
        have h2f : res.1 = false := by rwa [Bool.not_eq_true] at h2
        exact ⟨(fun q => by cases (show false = true from q)), fun _ => hh.2 h2f⟩
  · rw [if_neg c13]
    have hh := hs f A true st oy hA hf (yst_le hst (by decide)) (fun q => by cases q) (fun _ _ => c13) hl
    have gg := hg (ynx T N A) (oy.map cm) 1 ⟨_, hA, rfl⟩ (by rw [List.length_map]; omega)
    generalize sm (ynx T N A) (oy.map cm) = res at hh gg ⊢
    by_cases h2 : res.1 = true
    · rw [if_pos h2]
      obtain ⟨f2, A2, my2, S2, O2, P2, oy2, e1, e2, e3, e4, e5, e6, e7, e8⟩ := hh.1 h2
      have e6 : yuw 5 S2 O2 P2 = (st, oy2, op) := e6.trans (yuw_st (yst_le hst (by decide)))
      have gl := gg.2
      rw [e7, e2, List.length_map] at gl
      rw [e2, e7]
      have ok2 := ynx_ok T N A2
      have nl2 := ynx_lt T N A2 e4
      have nb3 := ynx_b T N A2 e4
      have inv2 := xtk_inv ok2
      by_cases c14 : xM14 (xtk1 (ynx T N A2)) = true
      · rw [if_pos c14]
        obtain ⟨sg, s1, s2, s3, s4, s5, s6, s0⟩ : ∃ sg, ysg (ynx T N A2).2.2.1 = sg ∧ (sg = 14 ∨ sg = 15) ∧ (ynx T N A2).2.2.1 ≠ 59 ∧ (ynx T N A2).2.2.1 ≠ 41 ∧ yy_rk sg = 4 ∧ cm sg = xtk1 (ynx T N A2) ∧ (ynx T N A2).2.2.1 ≠ 0 := by
          unfold xM14 at c14
          rw [Bool.or_eq_true, beq_iff_eq, beq_iff_eq] at c14
          rcases c14 with q | q
          · have t := inv2.2.2.2.2.2.2.2.2.2.2.1 q
            exact ⟨14, by rw [t]; rfl, Or.inl rfl, by rw [t]; decide, by rw [t]; decide, by decide, by rw [q]; decide, by rw [t]; decide⟩
          · have t := inv2.2.2.2.2.2.2.2.2.2.2.2 q
            exact ⟨15, by rw [t]; rfl, Or.inr rfl, by rw [t]; decide, by rw [t]; decide, by decide, by rw [q]; decide, by rw [t]; decide⟩
        have n2 := nl2.2.2 s0
        have b2 := nb3.2.2 s0
        have nb4 := ynx_b T N _ nl2.2.1
        obtain ⟨f3, rfl⟩ : ∃ f3, f2 = f3 + 1 := ⟨f2 - 1, by omega⟩
        have eb : ybt sg S2 O2 P2 = (true, sg :: st, oy2, op) := by
          unfold ybt
          rw [if_pos s5, e6]
          dsimp only
          cases st with
          | nil => rfl
          | cons x l =>
            simp only [ybt2]
            rw [if_neg (fun q => by have := hst x l rfl; rw [q.2] at this; exact absurd this (by decide))]
        have ey := yer_sg (f := f3) (my := my2) s3 s4 s1 (by rcases s2 with q | q <;> (rw [q]; decide)) (by rw [eb])
        rw [eb] at ey
        dsimp only at ey
        have d12 : decide (sg ≤ 12) = false := by rcases s2 with q | q <;> (rw [q]; decide)
        have hk := hs f3 (ynx T N A2).2.1 (decide (sg ≤ 12)) (sg :: st) oy2 nl2.2.1 (by omega) (fun x l q => by cases q; rw [s5]; decide) (fun q => by cases q) (fun _ q => by rw [d12] at q; cases q) (by omega)
        have g2 := hg (ynx T N (ynx T N A2).2.1) (oy2.map cm) 2 ⟨_, nl2.2.1, rfl⟩ (by rw [List.length_map]; omega)
        rw [← ey, ← e1] at hk
        generalize sm (ynx T N (ynx T N A2).2.1) (oy2.map cm) = rs2 at hk g2 ⊢
        by_cases h3 : rs2.1 = true
        · rw [if_pos h3]
          obtain ⟨f4, A4, my4, S4, O4, P4, oy4, k1, k2, k3, k4, k5, k6, k7, k8⟩ := hk.1 h3
          have k6 : yuw 5 S4 O4 P4 = (sg :: st, oy4, op) := k6.trans (yuw_st (fun x l q => by cases q; rw [s5]; decide))
          have gl2 := g2.2
          rw [k7, k2, List.length_map] at gl2
          have nb5 := ynx_b T N A4 k4
          have nf : ∀ y, yy_rk y = 4 → (ybt y S4 O4 P4).1 = false := fun y hy => by
            unfold ybt
            rw [if_pos hy, k6]
            simp only [ybt2]
            rw [if_pos ⟨hy, s5⟩]
          refine ⟨fun _ => ⟨f4, A4, my4, S4, O4, P4, oy4 ++ [sg], k1, k2, by omega, k4, k5, ?_, ?_, ?_⟩, fun q => by cases (show true = false from q)⟩
          · rw [← yuw_two (le := 3) (r := 5) (by decide) S4 O4 P4, k6]
            show yuw 3 (sg :: st) oy4 op = _
            simp only [yuw]
            rw [if_neg (show ¬ yy_rk sg < 3 by rw [s5]; decide), if_neg (show ¬ (sg = 13 ∨ sg = 19) by rcases s2 with q | q <;> (rw [q]; decide)), Int32.sub_zero]
          · rw [k7, ← s6]; exact xput_map (by omega)
          · exact ⟨fun _ => k8.1 (by decide), fun _ => k8.2.1 (by decide), fun _ => ⟨fun _ => nf 14 (by decide), fun _ => nf 15 (by decide)⟩, fun q => absurd q (by decide), fun q => absurd q (by decide)⟩
        · rw [if_neg h3]
          have h3f : rs2.1 = false := by rwa [Bool.not_eq_true] at h3
          exact ⟨(fun q => by cases (show false = true from q)), fun _ => hk.2 h3f⟩
      · rw [if_neg c14]
        refine ⟨fun _ => ⟨f2, A2, my2, S2, O2, P2, oy2, e1, e2, e3, e4, e5, ?_, e7, ?_⟩, fun q => by cases (show true = false from q)⟩
        · rw [← yuw_two (le := 3) (r := 5) (by decide) S2 O2 P2, e6]
        · rw [e2] at e8 ⊢
          exact ⟨fun _ => e8.1 (by decide), fun _ => e8.2.1 (by decide), fun _ => ⟨fun q => absurd (by rw [q]; decide) c14, fun q => absurd (by rw [q]; decide) c14⟩, fun q => absurd q (by decide), fun q => absurd q (by decide)⟩
    · rw [if_neg h2]
      have h2f : res.1 = false := by rwa [Bool.not_eq_true] at h2
      exact ⟨(fun q => by cases (show false = true from q)), fun _ => hh.2 h2f⟩
