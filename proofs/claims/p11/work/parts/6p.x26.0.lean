/-! ===== a new text ===== -/
theorem rng_take {l : List Int32} {K : Nat} (h : K ≤ l.length) : mc_cpy l (List.replicate K 0) 0 0 K = l.take K := by
  unfold mc_cpy
  rw [List.length_replicate]
  refine List.ext_getElem? fun j => ?_
  rw [List.getElem?_map, List.getElem?_take]
  by_cases q : j < K
  · rw [List.getElem?_range q, if_pos q]
    show some (if 0 ≤ j ∧ j < 0 + K then l.getD (0 + (j - 0)) 0 else _) = _
    rw [if_pos ⟨Nat.zero_le _, by omega⟩, show 0 + (j - 0) = j by omega, List.getD_eq_getElem?_getD, List.getElem?_eq_getElem (by omega)]
    rfl
  · rw [List.getElem?_eq_none (by rw [List.length_range]; omega), if_neg q]; rfl
theorem xmm {x : Int32} {K : Nat} (h : x = nI K) (hK : K ≤ 154) : (if (0 : Int32) < (if (160 : Int32) < x then 160 else x) then (if (160 : Int32) < x then 160 else x) else 0) = nI K := by
  subst h
  rw [if_neg (show ¬ (160 : Int32) < nI K from fun q => by rw [Int32.lt_iff_toInt_lt, nI_toInt (by omega), show (160 : Int32).toInt = 160 from rfl] at q; omega)]
  by_cases g : (0 : Int32) < nI K
  · rw [if_pos g]
  · rw [if_neg g]
    rw [Int32.lt_iff_toInt_lt, nI_toInt (by omega), i0] at g
    have : K = 0 := by omega
    subst this; rfl
theorem set_app {α : Type} {l : List α} {x y : α} : (l ++ [x]).set l.length y = l ++ [y] := by
  rw [List.set_append_right _ _ (Nat.le_refl _)]; simp
theorem WW_zset {s : Nat → Int32} {a : Nat → List Int32} {q : List (Option Nat)} {u : Nat → Int32} {c : Nat → List Int32} {h : Nat} {m : Nat → Int32} {b : Nat → List Int32} {n : Nat → Int32} {d : Nat → List Int32} {z : mc_W} {i : Nat} {v : mc_C} : (WW s a q u c h m b n d z).set (i + 46) v = WW s a q u c h m b n d (z.set i v) := rfl
theorem xm2 {K : Nat} (hK : K ≤ 154) : (if nI K < (160 : Int32) then nI K else 160) = nI K := if_pos (by rw [Int32.lt_iff_toInt_lt, nI_toInt (by omega), show (160 : Int32).toInt = 160 from rfl]; omega)
