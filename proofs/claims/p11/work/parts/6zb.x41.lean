/-! ===== how far, on both sides ===== -/
theorem neg_sub64 {x y : Int64} : -(x - y) = y - x := by
  rw [Int64.neg_sub]
theorem far_eq {x y : Int64} (hx : -1000000000000000 ≤ x.toInt ∧ x.toInt ≤ 1000000000000000) (hy : -1000000000000000 ≤ y.toInt ∧ y.toInt ≤ 1000000000000000) : xabl (x - y) = yy_far x y := by
  have e : (x - y).toInt = x.toInt - y.toInt := by
    rw [Int64.toInt_sub, Int.bmod_eq_of_le] <;> omega
  have c : 0 < x - y ↔ y < x := by
    rw [Int64.lt_iff_toInt_lt, Int64.lt_iff_toInt_lt, e, show (0 : Int64).toInt = 0 from rfl]; omega
  unfold xabl yy_far
  by_cases h : y < x
  · rw [if_pos (c.mpr h), if_pos h]
  · rw [if_neg (fun q => h (c.mp q)), if_neg h, neg_sub64]
theorem sum_in {f : Int32 → Int32} : ∀ (l : List Int32) (S : Int64), (∀ v, v ∈ l → 0 ≤ (f v).toInt ∧ (f v).toInt ≤ 200000) → 0 ≤ S.toInt → S.toInt + 200000 * l.length ≤ 1000000000000 →
    0 ≤ (l.foldl (fun S v => S + (f v).toInt64) S).toInt ∧ (l.foldl (fun S v => S + (f v).toInt64) S).toInt ≤ S.toInt + 200000 * l.length := by
  intro l
  induction l with
  | nil => intro S _ h0 _; exact ⟨h0, by show S.toInt ≤ S.toInt + 200000 * 0; omega⟩
  | cons x r ih =>
    intro S hf h0 h1
    have hx := hf x List.mem_cons_self
    rw [List.length_cons] at h1 ⊢
    have e : (S + (f x).toInt64).toInt = S.toInt + (f x).toInt := by
      rw [Int64.toInt_add, Int32.toInt_toInt64, Int.bmod_eq_of_le] <;> omega
    have k := ih (S + (f x).toInt64) (fun v hv => hf v (List.mem_cons_of_mem _ hv)) (by rw [e]; omega) (by rw [e]; omega)
    rw [List.foldl_cons]
    rw [e] at k
    exact ⟨k.1, by omega⟩
theorem bw_mem {s : Nat → Int32} {a : Nat → List Int32} {k : Nat} (h : xbw s a k = 0) : ∀ v, v ∈ xrow s a k → 0 ≤ v.toInt ∧ v.toInt ≤ 99999 := by
  intro v hv
  obtain ⟨i, hi, e⟩ := List.getElem_of_mem hv
  have g := xbw_num h i hi
  rw [List.getD_eq_getElem?_getD, List.getElem?_eq_getElem hi, e] at g
  exact wi_num g
theorem oS_in {s : Nat → Int32} {a : Nat → List Int32} {k : Nat} (hk : k < 4) (hL : xL a) (hS : xS s) (h : xbw s a k = 0) : 0 ≤ (xoS s a k).toInt ∧ (xoS s a k).toInt ≤ 8000000 := by
  have l := (xrow_len hk hL hS).2
  have q := sum_in (f := fun v => v) (xrow s a k) 0 (fun v hv => by have := bw_mem h v hv; omega) (by decide) (by rw [show (0 : Int64).toInt = 0 from rfl]; omega)
  rw [show (0 : Int64).toInt = 0 from rfl] at q
  exact ⟨q.1, by have := q.2; unfold xoS; omega⟩
theorem mS_in {s : Nat → Int32} {a : Nat → List Int32} {sg : Nat → List Int32} {k : Nat} {j : Int32} (hk : k < 4) (hL : xL a) (hS : xS s) (h : xbw s a k = 0) (hm : 0 ≤ (gt (a 1) j).toInt ∧ (gt (a 1) j).toInt ≤ 9) : 0 ≤ (xmS s a sg k j).toInt ∧ (xmS s a sg k j).toInt ≤ 8000000 := by
  have l := (xrow_len hk hL hS).2
  have q := sum_in (f := fun v => hmk (gt (a 0) j) (gt (a 1) j) j (s 0) (s 1) sg v) (xrow s a k) 0 (fun v hv => by
    have := hmk_in (K := gt (a 0) j) (nu := j) (ba := s 0) (ye := s 1) (sg := sg) hm (bw_mem h v hv)
    exact ⟨this.1, by have := this.2; omega⟩) (by decide) (by rw [show (0 : Int64).toInt = 0 from rfl]; omega)
  rw [show (0 : Int64).toInt = 0 from rfl] at q
  exact ⟨q.1, by have := q.2; unfold xmS; omega⟩
