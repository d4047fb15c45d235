/-! ===== the reading wants no more than the tape so far as it is written ===== -/
theorem yer_ps (T : Nat → Int32) (N : Nat) : ∀ f A e my st o op, A ≤ N → (yer T N f A e my st o op).2.1 ≤ N := by
  intro f
  induction f with
  | zero => intro A e my st o op hA; exact hA
  | succ f ih =>
    intro A e my st o op hA
    have nl := (ynx_lt T N A hA).2.1
    cases e with
    | true =>
      simp only [yer]
      repeat' split
      all_goals first | exact ih _ _ _ _ _ _ nl | exact nl
    | false =>
      simp only [yer]
      repeat' split
      all_goals first | exact ih _ _ _ _ _ _ nl | exact nl
theorem yer_cg {T U : Nat → Int32} {N : Nat} (h : ∀ p, p < N → T p = U p) : ∀ f A e my st o op, A ≤ N → yer T N f A e my st o op = yer U N f A e my st o op := by
  intro f
  induction f with
  | zero => intro A e my st o op hA; rfl
  | succ f ih =>
    intro A e my st o op hA
    have nl := (ynx_lt U N A hA).2.1
    have ec := ynx_cg h hA
    have ih2 := fun e my st o op => ih (ynx U N A).2.1 e my st o op nl
    cases e with
    | true => simp only [yer, ec, ih2]
    | false => simp only [yer, ec, ih2]
theorem ytp_cg {T U : Nat → Int32} {N : Nat} (h : ∀ p, p < N → T p = U p) : ∀ g p A bg o S, A ≤ N → ytp T N g p A bg o S = ytp U N g p A bg o S ∧ (ytp U N g p A bg o S).2.1 ≤ N := by
  intro g
  induction g with
  | zero => intro p A bg o S hA; exact ⟨rfl, hA⟩
  | succ g ih =>
    intro p A bg o S hA
    have nl := (ynx_lt U N A hA).2.1
    have ec := ynx_cg h hA
    have ey := yer_cg h (N + 1) (ynx U N A).2.1 true true [] o 0 nl
    have yp := yer_ps U N (N + 1) (ynx U N A).2.1 true true [] o 0 nl
    have i2 := fun bg o S => ih (p + 1) _ bg o S yp
    refine ⟨?_, ?_⟩
    · simp only [ytp, ec, ey, fun bg o S => (i2 bg o S).1]
    · rw [ytp]
      split
      · split
        · exact (i2 _ _ _).2
        · exact yp
      · exact nl
theorem ytxV_cg {T U : Nat → Int32} {N : Nat} (h : ∀ p, p < N → T p = U p) : ytxV T N = ytxV U N := by
  have k := ytp_cg h 3 0 0 0 [] [] (Nat.zero_le _)
  unfold ytxV
  rw [k.1, ynx_cg h k.2]
/-- what the class says of a text is what the other side says -/
theorem xtxt_eq {T U : Nat → Int32} {N : Nat} (hN : N ≤ 160) (h : ∀ p, p < N → T p = U p) : xtv T N = ((ytxV U N).1, (ytxV U N).2.1) ∧ ((ytxV U N).1 = true → (xtC T N).2.2 = (ytxV U N).2.2.1.map cm ∧ (ytxV U N).2.2.2 = [0, (xtA T N).2.2.length, (xtB T N).2.2.length]) := by
  rw [← ytxV_cg h]
  exact text_go hN
