/-! ===== the two readings of a whole text ===== -/
theorem sim_term {T : Nat → Int32} {N : Nat} {op : Int32} {p : xP} (hN : N ≤ 160) (h : xsim T N 7 100 false op p) (hg : xgd T N p) : xsim T N 6 6 false op (xterm T N p) :=
  xrow_go hN h hg (by decide) (by decide) (by decide) (by decide) (fun R ok hm => by
    unfold xM18 at hm
    rw [beq_iff_eq] at hm
    have t := (xtk_inv ok).2.2.2.2.2.2.2.2.2.1 hm
    exact ⟨18, by rw [t]; rfl, by decide, by rw [t]; decide, by rw [t]; decide, by rw [t]; decide, by decide, by rw [hm]; decide, by decide, (fun q => by cases q), fun _ => by decide⟩)
    (fun R S O P F hm => by
      unfold xM18 at hm
      rw [beq_eq_false_iff_ne] at hm
      exact ⟨fun _ => hm, fun q => absurd q (by decide), fun q => absurd q (by decide), fun q => absurd q (by decide), fun q => absurd q (by decide)⟩)
theorem sim_sum {T : Nat → Int32} {N : Nat} {op : Int32} {p : xP} (hN : N ≤ 160) (h : xsim T N 7 100 false op p) (hg : xgd T N p) : xsim T N 5 5 false op (xsum T N p) :=
  xrow_go hN (sim_term hN h hg) (xgd_row hg M_no.1) (by decide) (by decide) (by decide) (by decide) (fun R ok hm => by
    unfold xM16 at hm
    rw [Bool.or_eq_true, beq_iff_eq, beq_iff_eq] at hm
    rcases hm with hm | hm
    · have t := (xtk_inv ok).2.2.2.2.2.2.2.1 hm
      exact ⟨16, by rw [t]; rfl, by decide, by rw [t]; decide, by rw [t]; decide, by rw [t]; decide, by decide, by rw [hm]; decide, by decide, (fun q => by cases q), fun _ => by decide⟩
    · have t := (xtk_inv ok).2.2.2.2.2.2.2.2.1 hm
      exact ⟨17, by rw [t]; rfl, by decide, by rw [t]; decide, by rw [t]; decide, by rw [t]; decide, by decide, by rw [hm]; decide, by decide, (fun q => by cases q), fun _ => by decide⟩)
    (fun R S O P F hm => by
      unfold xM16 at hm
      rw [Bool.or_eq_false_iff, beq_eq_false_iff_ne, beq_eq_false_iff_ne] at hm
      exact ⟨fun _ => F.1 (by decide), fun _ => hm, fun q => absurd q (by decide), fun q => absurd q (by decide), fun q => absurd q (by decide)⟩)
theorem sim_and {T : Nat → Int32} {N : Nat} {op : Int32} {p : xP} (hN : N ≤ 160) (h : xsim T N 3 4 true op p) (hg : xgd T N p) : xsim T N 2 2 true op (xand T N p) :=
  xrow_go hN h hg (by decide) (by decide) (by decide) (by decide) (fun R ok hm => by
    unfold xM12 at hm
    rw [beq_iff_eq] at hm
    have t := (xtk_inv ok).2.2.1 hm
    exact ⟨12, by rw [t]; rfl, by decide, by rw [t]; decide, by rw [t]; decide, by rw [t]; decide, by decide, by rw [hm]; decide, by decide, fun _ => by decide, fun q => by cases q⟩)
    (fun R S O P F hm => by
      unfold xM12 at hm
      rw [beq_eq_false_iff_ne] at hm
      exact ⟨fun _ => F.1 (by decide), fun _ => F.2.1 (by decide), fun _ => F.2.2.1 (by decide), fun _ => hm, fun q => absurd q (by decide)⟩)
theorem sim_E {T : Nat → Int32} {N : Nat} {op : Int32} {p : xP} (hN : N ≤ 160) (h : xsim T N 3 4 true op p) (hg : xgd T N p) : xsim T N 1 1 true op (xE T N p) :=
  xrow_go hN (sim_and hN h hg) (xgd_row hg M_no.2.2.1) (by decide) (by decide) (by decide) (by decide) (fun R ok hm => by
    unfold xM11 at hm
    rw [beq_iff_eq] at hm
    have t := (xtk_inv ok).2.1 hm
    exact ⟨11, by rw [t]; rfl, by decide, by rw [t]; decide, by rw [t]; decide, by rw [t]; decide, by decide, by rw [hm]; decide, by decide, fun _ => by decide, fun q => by cases q⟩)
    (fun R S O P F hm => by
      unfold xM11 at hm
      rw [beq_eq_false_iff_ne] at hm
      exact ⟨fun _ => F.1 (by decide), fun _ => F.2.1 (by decide), fun _ => F.2.2.1 (by decide), fun _ => F.2.2.2.1 (by decide), fun _ => hm⟩)
theorem sim_lv {T : Nat → Int32} {N : Nat} (hN : N ≤ 160) : ∀ g, g ≤ 5 → xsim T N 7 100 false (nI (5 - g)) (xlv T N g).1 ∧ xsim T N 3 4 true (nI (5 - g)) (xlv T N g).2 := by
  intro g
  induction g with
  | zero =>
    intro _
    have h1 : xsim T N 7 100 false (nI 5) (xlv T N 0).1 := by rw [xlv_o0]; exact one_go hN (fun _ => rfl) (fun e b q => by cases q)
    refine ⟨h1, ?_⟩
    rw [xlv_n0]
    exact not_go hN (fun _ => rfl) (fun p q => by cases q) (sim_sum hN h1 (xgd_lv T N 0).1) (xgd_sum (xgd_lv T N 0).1)
  | succ g ih =>
    intro hg
    obtain ⟨i1, i2⟩ := ih (by omega)
    have e1 : nI (5 - (g + 1)) + 1 = nI (5 - g) := by rw [nI_1]; congr 1; omega
    have n5 : nI (5 - (g + 1)) ≠ 5 := fun q => absurd ((nI_eq (a := 5 - (g + 1)) (b := 5) (by omega) (by decide)).mp q) (by omega)
    have gl := xgd_lv T N g
    have h1 : xsim T N 7 100 false (nI (5 - (g + 1))) (xlv T N (g + 1)).1 := by
      rw [xlv_oS]
      refine one_go hN (fun q => by cases q) (fun e b q => ?_)
      cases q
      rw [e1]
      exact ⟨n5, sim_E hN i2 gl.2, i1, xgd_E gl.2, gl.1⟩
    refine ⟨h1, ?_⟩
    rw [xlv_nS]
    refine not_go hN (fun q => by cases q) (fun p q => ?_) (sim_sum hN h1 (xgd_lv T N (g + 1)).1) (xgd_sum (xgd_lv T N (g + 1)).1)
    cases q
    rw [e1]
    exact ⟨n5, i2, gl.2⟩
theorem fol_ybt {R : xR} {S O : List Int32} {P : Int32} (F : xFo 1 R S O P) (sg : ¬ ysg R.2.2.1 = -1) : (ybt (ysg R.2.2.1) S O P).1 = false := by
  by_cases q4 : R.2.2.1 = 4; · exact absurd (show xtk1 R = -11 by unfold xtk1; rw [q4]; rfl) (F.2.2.2.2 (by decide))
  by_cases q5 : R.2.2.1 = 5; · exact absurd (show xtk1 R = -12 by unfold xtk1; rw [q5]; rfl) (F.2.2.2.1 (by decide))
  by_cases q6 : R.2.2.1 = 60; · rw [q6]; exact (F.2.2.1 (by decide)).1 (by unfold xtk1; rw [q6]; rfl)
  by_cases q7 : R.2.2.1 = 61; · rw [q7]; exact (F.2.2.1 (by decide)).2 (by unfold xtk1; rw [q7]; rfl)
  by_cases q8 : R.2.2.1 = 43; · exact absurd (show xtk1 R = -16 by unfold xtk1; rw [q8]; rfl) (F.2.1 (by decide)).1
  by_cases q9 : R.2.2.1 = 45; · exact absurd (show xtk1 R = -17 by unfold xtk1; rw [q9]; rfl) (F.2.1 (by decide)).2
  by_cases q1 : R.2.2.1 = 42; · exact absurd (show xtk1 R = -18 by unfold xtk1; rw [q1]; rfl) (F.1 (by decide))
  exact absurd (by unfold ysg; rw [if_neg q4, if_neg q5, if_neg q6, if_neg q7, if_neg q8, if_neg q9, if_neg q1]) sg
/-- the name of part p -/
theorem key_inv {R : xR} (h : xok R) {p : Nat} (hp : p < 3) : xtk1 R = -23 - nI p ↔ R.2.2.1 = 3 ∧ R.2.2.2 = nI p := by
  have tp := nI_toInt (n := p) (by omega)
  have ek : (-23 - nI p : Int32).toInt = -23 - (p : Int) := by rw [i32_sub (x := -23) (by rw [show (-23 : Int32).toInt = -23 from rfl]; omega) (by omega), tp]; rfl
  constructor
  · intro q
    by_cases n1 : R.2.2.1 = 1
    · have r := h.1 n1
      unfold xtk1 at q
      rw [n1] at q
      have q : R.2.2.2 = -23 - nI p := q
      rw [q, ek] at r; omega
    · by_cases n2 : R.2.2.1 = 2
      · have r := h.2.1 n2
        unfold xtk1 at q
        rw [n2] at q
        have q : -1 - R.2.2.2 = -23 - nI p := q
        have e : (-1 - R.2.2.2 : Int32).toInt = -1 - R.2.2.2.toInt := i32_sub (x := -1) (by rw [show (-1 : Int32).toInt = -1 from rfl]; omega) (by omega)
        rw [q, ek] at e; omega
      · by_cases n3 : R.2.2.1 = 3
        · have r := h.2.2 n3
          refine ⟨n3, ?_⟩
          unfold xtk1 at q
          rw [n3] at q
          have q : -23 - R.2.2.2 = -23 - nI p := q
          have e : (-23 - R.2.2.2 : Int32).toInt = -23 - R.2.2.2.toInt := i32_sub (x := -23) (by rw [show (-23 : Int32).toInt = -23 from rfl]; omega) (by omega)
          rw [q, ek] at e
          apply Int32.toInt_inj.mp
          rw [tp]; omega
        · exfalso
          unfold xtk1 xtm at q
          rw [if_neg n1, if_neg n2, if_neg n3] at q
          rcases (show p = 0 ∨ p = 1 ∨ p = 2 by omega) with rfl | rfl | rfl <;>
          · by_cases a0 : R.2.2.1 = 0; · rw [if_pos a0] at q; exact absurd q (by decide)
            by_cases a1 : R.2.2.1 = 4; · rw [if_neg a0, if_pos a1] at q; exact absurd q (by decide)
            by_cases a2 : R.2.2.1 = 5; · rw [if_neg a0, if_neg a1, if_pos a2] at q; exact absurd q (by decide)
            by_cases a3 : R.2.2.1 = 6; · rw [if_neg a0, if_neg a1, if_neg a2, if_pos a3] at q; exact absurd q (by decide)
            by_cases a4 : R.2.2.1 = 40; · rw [if_neg a0, if_neg a1, if_neg a2, if_neg a3, if_pos a4] at q; exact absurd q (by decide)
            by_cases a5 : R.2.2.1 = 41; · rw [if_neg a0, if_neg a1, if_neg a2, if_neg a3, if_neg a4, if_pos a5] at q; exact absurd q (by decide)
            by_cases a6 : R.2.2.1 = 59; · rw [if_neg a0, if_neg a1, if_neg a2, if_neg a3, if_neg a4, if_neg a5, if_pos a6] at q; exact absurd q (by decide)
            by_cases a7 : R.2.2.1 = 43; · rw [if_neg a0, if_neg a1, if_neg a2, if_neg a3, if_neg a4, if_neg a5, if_neg a6, if_pos a7] at q; exact absurd q (by decide)
            by_cases a8 : R.2.2.1 = 45; · rw [if_neg a0, if_neg a1, if_neg a2, if_neg a3, if_neg a4, if_neg a5, if_neg a6, if_neg a7, if_pos a8] at q; exact absurd q (by decide)
            by_cases a9 : R.2.2.1 = 42; · rw [if_neg a0, if_neg a1, if_neg a2, if_neg a3, if_neg a4, if_neg a5, if_neg a6, if_neg a7, if_neg a8, if_pos a9] at q; exact absurd q (by decide)
            by_cases b1 : R.2.2.1 = 60; · rw [if_neg a0, if_neg a1, if_neg a2, if_neg a3, if_neg a4, if_neg a5, if_neg a6, if_neg a7, if_neg a8, if_neg a9, if_pos b1] at q; exact absurd q (by decide)
            by_cases b2 : R.2.2.1 = 61; · rw [if_neg a0, if_neg a1, if_neg a2, if_neg a3, if_neg a4, if_neg a5, if_neg a6, if_neg a7, if_neg a8, if_neg a9, if_neg b1, if_pos b2] at q; exact absurd q (by decide)
            rw [if_neg a0, if_neg a1, if_neg a2, if_neg a3, if_neg a4, if_neg a5, if_neg a6, if_neg a7, if_neg a8, if_neg a9, if_neg b1, if_neg b2] at q
            exact absurd q (by decide)
  · rintro ⟨q1, q2⟩
    unfold xtk1
    rw [q1, q2]; rfl
/-- a part, on both sides -/
theorem part_go {T : Nat → Int32} {N A p : Nat} {oy : List Int32} (hN : N ≤ 160) (hp : p < 3) (hA : A ≤ N) (hl : oy.length ≤ (ynx T N A).1) :
    ((xpart T N (xE T N (xlv T N 5).2) (-23 - nI p) (ynx T N A) (oy.map cm)).1 = true →
      ((ynx T N A).2.2.1 = 3 ∧ (ynx T N A).2.2.2 = nI p) ∧ (yer T N (N + 1) (ynx T N A).2.1 true true [] oy 0).1 = true ∧
      (xpart T N (xE T N (xlv T N 5).2) (-23 - nI p) (ynx T N A) (oy.map cm)).2.1 = ynx T N (yer T N (N + 1) (ynx T N A).2.1 true true [] oy 0).2.1 ∧
      (xpart T N (xE T N (xlv T N 5).2) (-23 - nI p) (ynx T N A) (oy.map cm)).2.2 = (yer T N (N + 1) (ynx T N A).2.1 true true [] oy 0).2.2.2.2.1.map cm ∧
      (yer T N (N + 1) (ynx T N A).2.1 true true [] oy 0).2.1 ≤ N) ∧
    ((xpart T N (xE T N (xlv T N 5).2) (-23 - nI p) (ynx T N A) (oy.map cm)).1 = false →
      (¬ ((ynx T N A).2.2.1 = 3 ∧ (ynx T N A).2.2.2 = nI p) ∧ (xpart T N (xE T N (xlv T N 5).2) (-23 - nI p) (ynx T N A) (oy.map cm)).2.1.1 = (ynx T N A).1) ∨
      (((ynx T N A).2.2.1 = 3 ∧ (ynx T N A).2.2.2 = nI p) ∧ (yer T N (N + 1) (ynx T N A).2.1 true true [] oy 0).1 = false ∧
        (xpart T N (xE T N (xlv T N 5).2) (-23 - nI p) (ynx T N A) (oy.map cm)).2.1.1 = (yer T N (N + 1) (ynx T N A).2.1 true true [] oy 0).2.2.1)) := by
  have ok := ynx_ok T N A
  have nl := ynx_lt T N A hA
  have nb := ynx_b T N A hA
  have ki := key_inv ok hp
  unfold xpart
  by_cases hk : xtk1 (ynx T N A) = -23 - nI p
  · rw [if_pos hk]
    have kt := ki.mp hk
    have b0 := nb.2.2 (by rw [kt.1]; decide)
    have nb2 := ynx_b T N _ nl.2.1
    have E := sim_E hN (sim_lv (T := T) hN 5 (Nat.le_refl _)).2 (xgd_lv T N 5).2
    have hs := E (N + 1) (ynx T N A).2.1 true [] oy nl.2.1 (by omega) (fun x l q => by cases q) (fun _ => rfl) (fun q => by cases q) (by omega)
    rw [show nI (5 - 5) = 0 from rfl] at hs
    generalize xE T N (xlv T N 5).2 (ynx T N (ynx T N A).2.1) (oy.map cm) = res at hs ⊢
    generalize yer T N (N + 1) (ynx T N A).2.1 true true [] oy 0 = X at hs ⊢
    by_cases h2 : res.1 = true
    · rw [if_pos h2]
      obtain ⟨f2, A2, my2, S2, O2, P2, oy2, e1, e2, e3, e4, e5, e6, e7, e8⟩ := hs.1 h2
      have e6 : yuw 1 S2 O2 P2 = ([], oy2, 0) := e6
      have ok2 := ynx_ok T N A2
      have nl2 := ynx_lt T N A2 e4
      obtain ⟨f3, rfl⟩ : ∃ f3, f2 = f3 + 1 := ⟨f2 - 1, by omega⟩
      rw [e2] at e8 ⊢
      by_cases c22 : xtk1 (ynx T N A2) = -22
      · rw [if_pos c22]
        have t59 := (xtk_inv ok2).2.2.2.2.2.2.1 c22
        have ex : X = (true, (ynx T N A2).2.1, (ynx T N A2).1, [], oy2, 0) := by
          rw [e1]
          simp only [yer]
          rw [if_pos t59, e6]
          rfl
        rw [ex]
        exact ⟨fun _ => ⟨kt, rfl, rfl, e7, nl2.2.1⟩, fun q => by cases (show true = false from q)⟩
      · rw [if_neg c22]
        refine ⟨(fun q => by cases (show false = true from q)), fun _ => Or.inr ⟨kt, ?_⟩⟩
        dsimp only
        rw [e1, e2]
        have t59 : ¬ (ynx T N A2).2.2.1 = 59 := fun q => c22 (by unfold xtk1; rw [q]; rfl)
        simp only [yer]
        rw [if_neg t59]
        by_cases t41 : (ynx T N A2).2.2.1 = 41
        · rw [if_pos t41, e6]; exact ⟨rfl, rfl⟩
        · rw [if_neg t41]
          by_cases sg : ysg (ynx T N A2).2.2.1 = -1
          · rw [if_pos sg]; exact ⟨rfl, rfl⟩
          · rw [if_neg sg, if_pos (fol_ybt e8 sg)]; exact ⟨rfl, rfl⟩
    · rw [if_neg h2]
      have h2f : res.1 = false := by rwa [Bool.not_eq_true] at h2
      exact ⟨(fun q => by cases (show false = true from q)), fun _ => Or.inr ⟨kt, (hs.2 h2f).1, (hs.2 h2f).2.symm⟩⟩
  · rw [if_neg hk]
    exact ⟨(fun q => by cases (show false = true from q)), fun _ => Or.inl ⟨fun q => hk (ki.mpr q), rfl⟩⟩
