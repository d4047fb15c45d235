/-! an E -/
theorem yPS_n {t : Nat} {B b : Nat → List Int32} {n n1 : Nat → Int32} {d : Nat → List Int32} {st o : List Int32} {op : Int32} (h : yPS t B b n d st o op) (k : ∀ j, 4 ≤ j → n1 j = n j) : yPS t B b n1 d st o op :=
  ⟨h.1, h.2.1, (k 4 (by decide)).trans h.2.2.1, h.2.2.2.1, (k 5 (by decide)).trans h.2.2.2.2.1, (k 6 (by decide)).trans h.2.2.2.2.2.1, h.2.2.2.2.2.2⟩
theorem yPS_pop {t : Nat} {B b : Nat → List Int32} {n n1 : Nat → Int32} {d : Nat → List Int32} {x : Int32} {r o : List Int32} {op op1 : Int32} (h : yPS t B b n d (x :: r) o op) (k4 : n1 4 = nI r.length) (k5 : n1 5 = op1) (k6 : n1 6 = n 6) : yPS t B b n1 d r o op1 := by
  obtain ⟨hl, hD, g4, gs, g5, g6, gl⟩ := h
  have t1 := (tk_last (N := r.length + 1) gs rfl).1
  simp only [Nat.add_sub_cancel] at t1
  exact ⟨hl, hD, k4, t1, k5, k6.trans g6, by simp at gl; omega⟩
theorem yPS.L {t : Nat} {B b : Nat → List Int32} {n : Nat → Int32} {d : Nat → List Int32} {st o : List Int32} {op : Int32} (h : yPS t B b n d st o op) (hL : yL B) : yL b ∧ yt3 b = yt3 B := by
  obtain ⟨⟨l, hb, hl, -⟩, -⟩ := h
  subst hb
  exact ⟨⟨hL.1, hL.2.1, hL.2.2.1, hL.2.2.2.1, hl, hL.2.2.2.2.2.1, hL.2.2.2.2.2.2.1, hL.2.2.2.2.2.2.2.1, hL.2.2.2.2.2.2.2.2.1, hL.2.2.2.2.2.2.2.2.2⟩, rfl⟩
theorem ynx_lt (T : Nat → Int32) (N A0 : Nat) (h : A0 ≤ N) : A0 ≤ (ynx T N A0).2.1 ∧ (ynx T N A0).2.1 ≤ N ∧ ((ynx T N A0).2.2.1 ≠ 0 → A0 < (ynx T N A0).2.1) := by
  obtain ⟨p1, p2⟩ := yws_le T N (N - A0) A0 h
  unfold ynx
  generalize yws T N (N - A0) A0 = P at p1 p2
  by_cases e1 : P = N
  · rw [if_pos e1]; exact ⟨h, Nat.le_refl _, fun q => absurd rfl q⟩
  · rw [if_neg e1]
    by_cases e2 : mc_wi (T P) 97 122 = true
    · rw [if_pos e2]
      have g : P < ylt T N (N - P) P := by
        obtain ⟨f, hf⟩ : ∃ f, N - P = f + 1 := ⟨N - P - 1, by omega⟩
        rw [hf, ylt, if_pos ⟨by omega, e2⟩]
        have := (ylt_le T N f (P + 1) (by omega)).1; omega
      have := (ylt_le T N (N - P) P p2).2
      exact ⟨Nat.le_trans p1 (Nat.le_of_lt g), this, fun _ => Nat.lt_of_le_of_lt p1 g⟩
    · rw [if_neg e2]
      by_cases e3 : mc_wi (T P) 48 57 = true
      · rw [if_pos e3]
        have g : P < (yda T N (N - P) P 0 0).1 := by
          obtain ⟨f, hf⟩ : ∃ f, N - P = f + 1 := ⟨N - P - 1, by omega⟩
          rw [hf, yda, if_pos ⟨by omega, e3⟩]
          have := (yda_k T N f (P + 1) (0 + 1) (if 0 < 4 then 10 * 0 + T P - 48 else 0) (by omega)).2.1; omega
        have := (yda_k T N (N - P) P 0 0 p2).2.2
        exact ⟨Nat.le_trans p1 (Nat.le_of_lt g), this, fun _ => Nat.lt_of_le_of_lt p1 g⟩
      · rw [if_neg e3]
        exact ⟨Nat.le_succ_of_le p1, Nat.succ_le_of_lt (Nat.lt_of_le_of_ne p2 e1), fun _ => Nat.lt_succ_of_le p1⟩
/-- ok, at, begun, held, put, opens -/
def yer (T : Nat → Int32) (N : Nat) : Nat → Nat → Bool → Bool → List Int32 → List Int32 → Int32 → Bool × Nat × Nat × List Int32 × List Int32 × Int32
  | 0, A, _, _, st, o, op => (false, A, A, st, o, op)
  | f + 1, A, true, my, st, o, op =>
    if (ynx T N A).2.2.1 = 1 ∨ (ynx T N A).2.2.1 = 2 then
      yer T N f (ynx T N A).2.1 false my (yuw 7 st (o ++ [if (ynx T N A).2.2.1 = 1 then 100000 + (ynx T N A).2.2.2 else (ynx T N A).2.2.2]) op).1
        (yuw 7 st (o ++ [if (ynx T N A).2.2.1 = 1 then 100000 + (ynx T N A).2.2.2 else (ynx T N A).2.2.2]) op).2.1
        (yuw 7 st (o ++ [if (ynx T N A).2.2.1 = 1 then 100000 + (ynx T N A).2.2.2 else (ynx T N A).2.2.2]) op).2.2
    else if (ynx T N A).2.2.1 = 6 ∧ my = true then (if op = 5 then (false, (ynx T N A).2.1, (ynx T N A).1, st, o, op) else yer T N f (ynx T N A).2.1 true my (13 :: st) o (op + 1))
    else if (ynx T N A).2.2.1 = 45 then (if op = 5 then (false, (ynx T N A).2.1, (ynx T N A).1, st, o, op) else yer T N f (ynx T N A).2.1 true false (19 :: st) o (op + 1))
    else if (ynx T N A).2.2.1 = 40 then (if op = 5 then (false, (ynx T N A).2.1, (ynx T N A).1, st, o, op) else yer T N f (ynx T N A).2.1 true true (0 :: st) o (op + 1))
    else (false, (ynx T N A).2.1, (ynx T N A).1, st, o, op)
  | f + 1, A, false, my, st, o, op =>
    if (ynx T N A).2.2.1 = 59 then ((yuw 1 st o op).1.isEmpty, (ynx T N A).2.1, (ynx T N A).1, (yuw 1 st o op).1, (yuw 1 st o op).2.1, (yuw 1 st o op).2.2)
    else if (ynx T N A).2.2.1 = 41 then
      (if (yuw 1 st o op).1.isEmpty = true then (false, (ynx T N A).2.1, (ynx T N A).1, (yuw 1 st o op).1, (yuw 1 st o op).2.1, (yuw 1 st o op).2.2)
       else yer T N f (ynx T N A).2.1 false my (yuw 7 (yuw 1 st o op).1.tail (yuw 1 st o op).2.1 ((yuw 1 st o op).2.2 - 1)).1 (yuw 7 (yuw 1 st o op).1.tail (yuw 1 st o op).2.1 ((yuw 1 st o op).2.2 - 1)).2.1 (yuw 7 (yuw 1 st o op).1.tail (yuw 1 st o op).2.1 ((yuw 1 st o op).2.2 - 1)).2.2)
    else if ysg (ynx T N A).2.2.1 = -1 then (false, (ynx T N A).2.1, (ynx T N A).1, st, o, op)
    else if (ybt (ysg (ynx T N A).2.2.1) st o op).1 = false then (false, (ynx T N A).2.1, (ynx T N A).1, (ybt (ysg (ynx T N A).2.2.1) st o op).2.1, (ybt (ysg (ynx T N A).2.2.1) st o op).2.2.1, (ybt (ysg (ynx T N A).2.2.1) st o op).2.2.2)
    else yer T N f (ynx T N A).2.1 true (decide (ysg (ynx T N A).2.2.1 ≤ 12)) (ybt (ysg (ynx T N A).2.2.1) st o op).2.1 (ybt (ysg (ynx T N A).2.2.1) st o op).2.2.1 (ybt (ysg (ynx T N A).2.2.1) st o op).2.2.2
theorem ybt_len (sg : Int32) (st o : List Int32) (op : Int32) : (ybt sg st o op).2.2.1.length + (ybt sg st o op).2.1.length ≤ o.length + st.length + 1 := by
  unfold ybt
  have := yuw_len (if yy_rk sg = 4 then 5 else yy_rk sg) st o op
  generalize yuw (if yy_rk sg = 4 then 5 else yy_rk sg) st o op = U at this
  obtain ⟨s1, o1, p1⟩ := U
  cases s1 with
  | nil => show o1.length + 1 ≤ _; simp at this; omega
  | cons x r =>
    simp at this
    by_cases hh : yy_rk sg = 4 ∧ yy_rk x = 4
    · simp only [ybt2, if_pos hh]; simp; omega
    · simp only [ybt2, if_neg hh]; simp; omega
