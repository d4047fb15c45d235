/-! ===== the two readings: tokens and held signs ===== -/
theorem ynk_r : ∀ k, k < 13 → ((ynk k = 2 → 3 ≤ k ∧ k < 9) ∧ (ynk k = 3 → k < 3) ∧ ynk k ≠ 1) := by decide
theorem ynv_2 : ∀ k, k < 9 → 3 ≤ k → 0 ≤ (ynv k).toInt ∧ (ynv k).toInt ≤ 5 := by decide
theorem ynv_3 : ∀ k, k < 3 → 0 ≤ (ynv k).toInt ∧ (ynv k).toInt ≤ 2 := by decide
def pw10 (k : Nat) : Int := if k = 0 then 1 else if k = 1 then 10 else if k = 2 then 100 else if k = 3 then 1000 else 10000
theorem yda_v (T : Nat → Int32) (N : Nat) : ∀ f p k v, (k ≤ 4 → 0 ≤ v.toInt ∧ v.toInt < pw10 k) → ((yda T N f p k v).2.1 ≤ 4 → 0 ≤ (yda T N f p k v).2.2.toInt ∧ (yda T N f p k v).2.2.toInt < 10000) := by
  intro f
  induction f with
  | zero =>
    intro p k v h
    simp only [yda]
    intro q
    have := h q
    refine ⟨this.1, Int.lt_of_lt_of_le this.2 ?_⟩
    unfold pw10; split <;> (try split) <;> (try split) <;> (try split) <;> decide
  | succ f ih =>
    intro p k v h
    simp only [yda]
    by_cases g : p < N ∧ mc_wi (T p) 48 57 = true
    · rw [if_pos g]
      refine ih _ _ _ (fun q => ?_)
      rw [if_pos (show k < 4 by omega)]
      have hv := h (by omega)
      have ht := mc_wi_iff.mp g.2
      rw [show (48 : Int32).toInt = 48 from rfl, show (57 : Int32).toInt = 57 from rfl] at ht
      have hp : 10 * pw10 k = pw10 (k + 1) ∧ pw10 k ≤ 1000 := by
        rcases (show k = 0 ∨ k = 1 ∨ k = 2 ∨ k = 3 by omega) with rfl | rfl | rfl | rfl <;> decide
      have e1 : (10 * v).toInt = 10 * v.toInt := by rw [Int32.toInt_mul, show (10 : Int32).toInt = 10 from rfl, Int.bmod_eq_of_le] <;> omega
      have e2 : (10 * v + T p).toInt = 10 * v.toInt + (T p).toInt := by rw [i32_add (by omega) (by omega), e1]
      rw [i32_sub (by omega) (by decide), e2, show (48 : Int32).toInt = 48 from rfl]
      omega
    · rw [if_neg g]
      intro q
      have := h q
      refine ⟨this.1, Int.lt_of_lt_of_le this.2 ?_⟩
      unfold pw10; split <;> (try split) <;> (try split) <;> (try split) <;> decide
/-- what values go with what sorts -/
def xok (R : xR) : Prop := (R.2.2.1 = 1 → 0 ≤ R.2.2.2.toInt ∧ R.2.2.2.toInt < 10000) ∧ (R.2.2.1 = 2 → 0 ≤ R.2.2.2.toInt ∧ R.2.2.2.toInt ≤ 5) ∧ (R.2.2.1 = 3 → 0 ≤ R.2.2.2.toInt ∧ R.2.2.2.toInt ≤ 2)
theorem sgn_1 {x : Int32} : ysgn x = true → x ≠ 1 ∧ x ≠ 2 ∧ x ≠ 3 := by
  intro h
  refine ⟨fun q => ?_, fun q => ?_, fun q => ?_⟩ <;> (rw [q] at h; exact absurd h (by decide))
theorem ynx_ok (T : Nat → Int32) (N A : Nat) : xok (ynx T N A) := by
  unfold ynx
  generalize yws T N (N - A) A = B
  by_cases h1 : B = N
  · rw [if_pos h1]; exact ⟨fun q => absurd (show (0 : Int32) = 1 from q) (by decide), fun q => absurd (show (0 : Int32) = 2 from q) (by decide), fun q => absurd (show (0 : Int32) = 3 from q) (by decide)⟩
  · rw [if_neg h1]
    by_cases h2 : mc_wi (T B) 97 122 = true
    · rw [if_pos h2]
      generalize ylt T N (N - B) B = E
      have hk : ywo T B E 12 0 < 13 := by have := ywo_le T B E 12 0 (by omega); omega
      generalize ywo T B E 12 0 = k at hk
      have r := ynk_r k hk
      exact ⟨fun q => absurd q r.2.2, fun q => ynv_2 k (r.1 q).2 (r.1 q).1, fun q => ynv_3 k (r.2.1 q)⟩
    · rw [if_neg h2]
      by_cases h3 : mc_wi (T B) 48 57 = true
      · rw [if_pos h3]
        have v := yda_v T N (N - B) B 0 0 (fun _ => by decide)
        refine ⟨fun q => ?_, fun q => ?_, fun q => ?_⟩
        · dsimp only at q ⊢
          by_cases g : 4 < (yda T N (N - B) B 0 0).2.1
          · rw [if_pos g] at q; exact absurd q (by decide)
          · exact v (by omega)
        · dsimp only at q; split at q <;> exact absurd q (by decide)
        · dsimp only at q; split at q <;> exact absurd q (by decide)
      · rw [if_neg h3]
        refine ⟨fun q => ?_, fun q => ?_, fun q => ?_⟩ <;>
        · dsimp only at q
          by_cases g : ysgn (T B) = true
          · rw [if_pos g] at q
            first | exact absurd q (sgn_1 g).1 | exact absurd q (sgn_1 g).2.1 | exact absurd q (sgn_1 g).2.2
          · rw [if_neg g] at q; exact absurd q (by decide)
theorem xtm_far {t v c : Int32} (h1 : t = 1 → 0 ≤ v.toInt) (h2 : t = 2 → 0 ≤ v.toInt ∧ v.toInt ≤ 5) (h3 : t = 3 → 0 ≤ v.toInt ∧ v.toInt ≤ 2) (hc : c.toInt ≤ -11 ∧ ¬ (-25 ≤ c.toInt ∧ c.toInt ≤ -23)) (h : xtm t v = c) : t ≠ 1 ∧ t ≠ 2 ∧ t ≠ 3 := by
  refine ⟨fun q => ?_, fun q => ?_, fun q => ?_⟩
  · rw [q] at h
    have h : v = c := h
    rw [← h] at hc
    have := h1 q; omega
  · have r := h2 q
    rw [q] at h
    have h : -1 - v = c := h
    have e : (-1 - v : Int32).toInt = -1 - v.toInt := i32_sub (x := -1) (by rw [show (-1 : Int32).toInt = -1 from rfl]; omega) (by omega)
    rw [h] at e; omega
  · have r := h3 q
    rw [q] at h
    have h : -23 - v = c := h
    have e : (-23 - v : Int32).toInt = -23 - v.toInt := i32_sub (x := -23) (by rw [show (-23 : Int32).toInt = -23 from rfl]; omega) (by omega)
    rw [h] at e; omega
theorem xtm_inv {t v : Int32} (n : t ≠ 1 ∧ t ≠ 2 ∧ t ≠ 3) : (xtm t v = -26 → t = 0) ∧ (xtm t v = -11 → t = 4) ∧ (xtm t v = -12 → t = 5) ∧ (xtm t v = -13 → t = 6) ∧ (xtm t v = -20 → t = 40) ∧ (xtm t v = -21 → t = 41) ∧ (xtm t v = -22 → t = 59) ∧ (xtm t v = -16 → t = 43) ∧ (xtm t v = -17 → t = 45) ∧ (xtm t v = -18 → t = 42) ∧ (xtm t v = -14 → t = 60) ∧ (xtm t v = -15 → t = 61) ∧ xtm t v < -6 := by
  unfold xtm
  rw [if_neg n.1, if_neg n.2.1, if_neg n.2.2]
  by_cases h0 : t = 0; · rw [if_pos h0]; refine ⟨fun _ => h0, ?_, ?_, ?_, ?_, ?_, ?_, ?_, ?_, ?_, ?_, ?_, by decide⟩ <;> exact fun q => absurd q (by decide)
  rw [if_neg h0]
  by_cases h4 : t = 4; · rw [if_pos h4]; refine ⟨?_, fun _ => h4, ?_, ?_, ?_, ?_, ?_, ?_, ?_, ?_, ?_, ?_, by decide⟩ <;> exact fun q => absurd q (by decide)
  rw [if_neg h4]
  by_cases h5 : t = 5; · rw [if_pos h5]; refine ⟨?_, ?_, fun _ => h5, ?_, ?_, ?_, ?_, ?_, ?_, ?_, ?_, ?_, by decide⟩ <;> exact fun q => absurd q (by decide)
  rw [if_neg h5]
  by_cases h6 : t = 6; · rw [if_pos h6]; refine ⟨?_, ?_, ?_, fun _ => h6, ?_, ?_, ?_, ?_, ?_, ?_, ?_, ?_, by decide⟩ <;> exact fun q => absurd q (by decide)
  rw [if_neg h6]
  by_cases h7 : t = 40; · rw [if_pos h7]; refine ⟨?_, ?_, ?_, ?_, fun _ => h7, ?_, ?_, ?_, ?_, ?_, ?_, ?_, by decide⟩ <;> exact fun q => absurd q (by decide)
  rw [if_neg h7]
  by_cases h8 : t = 41; · rw [if_pos h8]; refine ⟨?_, ?_, ?_, ?_, ?_, fun _ => h8, ?_, ?_, ?_, ?_, ?_, ?_, by decide⟩ <;> exact fun q => absurd q (by decide)
  rw [if_neg h8]
  by_cases h9 : t = 59; · rw [if_pos h9]; refine ⟨?_, ?_, ?_, ?_, ?_, ?_, fun _ => h9, ?_, ?_, ?_, ?_, ?_, by decide⟩ <;> exact fun q => absurd q (by decide)
  rw [if_neg h9]
  by_cases g1 : t = 43; · rw [if_pos g1]; refine ⟨?_, ?_, ?_, ?_, ?_, ?_, ?_, fun _ => g1, ?_, ?_, ?_, ?_, by decide⟩ <;> exact fun q => absurd q (by decide)
  rw [if_neg g1]
  by_cases g2 : t = 45; · rw [if_pos g2]; refine ⟨?_, ?_, ?_, ?_, ?_, ?_, ?_, ?_, fun _ => g2, ?_, ?_, ?_, by decide⟩ <;> exact fun q => absurd q (by decide)
  rw [if_neg g2]
  by_cases g3 : t = 42; · rw [if_pos g3]; refine ⟨?_, ?_, ?_, ?_, ?_, ?_, ?_, ?_, ?_, fun _ => g3, ?_, ?_, by decide⟩ <;> exact fun q => absurd q (by decide)
  rw [if_neg g3]
  by_cases g4 : t = 60; · rw [if_pos g4]; refine ⟨?_, ?_, ?_, ?_, ?_, ?_, ?_, ?_, ?_, ?_, fun _ => g4, ?_, by decide⟩ <;> exact fun q => absurd q (by decide)
  rw [if_neg g4]
  by_cases g5 : t = 61; · rw [if_pos g5]; refine ⟨?_, ?_, ?_, ?_, ?_, ?_, ?_, ?_, ?_, ?_, ?_, fun _ => g5, by decide⟩ <;> exact fun q => absurd q (by decide)
  rw [if_neg g5]
  refine ⟨?_, ?_, ?_, ?_, ?_, ?_, ?_, ?_, ?_, ?_, ?_, ?_, by decide⟩ <;> exact fun q => absurd q (by decide)
/-- the sort of a token whose number is known -/
theorem xtk_inv {R : xR} (h : xok R) : (xtk1 R = -26 → R.2.2.1 = 0) ∧ (xtk1 R = -11 → R.2.2.1 = 4) ∧ (xtk1 R = -12 → R.2.2.1 = 5) ∧ (xtk1 R = -13 → R.2.2.1 = 6) ∧ (xtk1 R = -20 → R.2.2.1 = 40) ∧ (xtk1 R = -21 → R.2.2.1 = 41) ∧ (xtk1 R = -22 → R.2.2.1 = 59) ∧ (xtk1 R = -16 → R.2.2.1 = 43) ∧ (xtk1 R = -17 → R.2.2.1 = 45) ∧ (xtk1 R = -18 → R.2.2.1 = 42) ∧ (xtk1 R = -14 → R.2.2.1 = 60) ∧ (xtk1 R = -15 → R.2.2.1 = 61) := by
  have F := fun (c : Int32) (hc : c.toInt ≤ -11 ∧ ¬ (-25 ≤ c.toInt ∧ c.toInt ≤ -23)) (e : xtk1 R = c) => xtm_inv (v := R.2.2.2) (xtm_far (fun q => (h.1 q).1) h.2.1 h.2.2 hc e)
  exact ⟨fun q => (F _ (by decide) q).1 q, fun q => (F _ (by decide) q).2.1 q, fun q => (F _ (by decide) q).2.2.1 q, fun q => (F _ (by decide) q).2.2.2.1 q, fun q => (F _ (by decide) q).2.2.2.2.1 q, fun q => (F _ (by decide) q).2.2.2.2.2.1 q, fun q => (F _ (by decide) q).2.2.2.2.2.2.1 q, fun q => (F _ (by decide) q).2.2.2.2.2.2.2.1 q, fun q => (F _ (by decide) q).2.2.2.2.2.2.2.2.1 q, fun q => (F _ (by decide) q).2.2.2.2.2.2.2.2.2.1 q, fun q => (F _ (by decide) q).2.2.2.2.2.2.2.2.2.2.1 q, fun q => (F _ (by decide) q).2.2.2.2.2.2.2.2.2.2.2.1 q⟩
theorem xtk_val {R : xR} (h : xok R) : -6 ≤ xtk1 R ↔ R.2.2.1 = 1 ∨ R.2.2.1 = 2 := by
  unfold xtk1
  constructor
  · intro g
    by_cases n1 : R.2.2.1 = 1; · exact Or.inl n1
    by_cases n2 : R.2.2.1 = 2; · exact Or.inr n2
    by_cases n3 : R.2.2.1 = 3
    · have r := h.2.2 n3
      rw [n3] at g
      have g : -6 ≤ -23 - R.2.2.2 := g
      have e : (-23 - R.2.2.2 : Int32).toInt = -23 - R.2.2.2.toInt := i32_sub (x := -23) (by rw [show (-23 : Int32).toInt = -23 from rfl]; omega) (by omega)
      rw [Int32.le_iff_toInt_le, e, show (-6 : Int32).toInt = -6 from rfl] at g
      omega
    · exact absurd (xtm_inv (v := R.2.2.2) ⟨n1, n2, n3⟩).2.2.2.2.2.2.2.2.2.2.2.2 (Int32.not_lt.mpr g)
  · rintro (q | q)
    · have r := h.1 q
      rw [q]
      show -6 ≤ R.2.2.2
      rw [Int32.le_iff_toInt_le, show (-6 : Int32).toInt = -6 from rfl]; omega
    · have r := h.2.1 q
      rw [q]
      show -6 ≤ -1 - R.2.2.2
      have e : (-1 - R.2.2.2 : Int32).toInt = -1 - R.2.2.2.toInt := i32_sub (x := -1) (by rw [show (-1 : Int32).toInt = -1 from rfl]; omega) (by omega)
      rw [Int32.le_iff_toInt_le, e, show (-6 : Int32).toInt = -6 from rfl]; omega
/-- held signs let go in two turns -/
theorem yuw_two {le r : Int32} (h : le ≤ r) : ∀ st o op, yuw le (yuw r st o op).1 (yuw r st o op).2.1 (yuw r st o op).2.2 = yuw le st o op := by
  intro st
  induction st with
  | nil => intro o op; rfl
  | cons x l ih =>
    intro o op
    simp only [yuw]
    by_cases g : yy_rk x < r
    · rw [if_pos g]
      rfl
    · rw [if_neg g]
      have g2 : ¬ yy_rk x < le := fun q => g (by rw [Int32.lt_iff_toInt_lt] at q ⊢; rw [Int32.le_iff_toInt_le] at h; omega)
      rw [if_neg g2]
      exact ih _ _
/-- a sign held below stops -/
def yst (r : Int32) (st : List Int32) : Prop := ∀ x l, st = x :: l → yy_rk x < r
theorem yuw_st {r : Int32} {st o : List Int32} {op : Int32} (h : yst r st) : yuw r st o op = (st, o, op) := by
  cases st with
  | nil => rfl
  | cons x l => simp only [yuw]; rw [if_pos (h x l rfl)]
