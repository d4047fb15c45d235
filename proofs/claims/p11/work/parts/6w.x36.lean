/-! ===== the other side read off the class, step by step ===== -/
theorem Ms_0 {s : Nat → Int32} {x : Int32} : Ms (mc_up s 0 x) = mc_up (Ms s) 0 x := by
  funext k
  match k with
  | 0 => rfl
  | 1 => rfl
  | 2 => rfl
  | 3 => rfl
  | 4 => rfl
  | 5 => rfl
  | 6 => rfl
  | 7 => rfl
  | 8 => rfl
  | 9 => rfl
  | 10 => rfl
  | k + 11 => rfl
theorem Ms_1 {s : Nat → Int32} {x : Int32} : Ms (mc_up s 1 x) = mc_up (Ms s) 1 x := by
  funext k
  match k with
  | 0 => rfl
  | 1 => rfl
  | 2 => rfl
  | 3 => rfl
  | 4 => rfl
  | 5 => rfl
  | 6 => rfl
  | 7 => rfl
  | 8 => rfl
  | 9 => rfl
  | 10 => rfl
  | k + 11 => rfl
theorem Ms_2 {s : Nat → Int32} {x : Int32} : Ms (mc_up s 2 x) = mc_up (Ms s) 2 x := by
  funext k
  match k with
  | 0 => rfl
  | 1 => rfl
  | 2 => rfl
  | 3 => rfl
  | 4 => rfl
  | 5 => rfl
  | 6 => rfl
  | 7 => rfl
  | 8 => rfl
  | 9 => rfl
  | 10 => rfl
  | k + 11 => rfl
theorem Ms_5 {s : Nat → Int32} {x : Int32} : Ms (mc_up s 5 x) = mc_up (Ms s) 3 x := by
  funext k
  match k with
  | 0 => rfl
  | 1 => rfl
  | 2 => rfl
  | 3 => rfl
  | 4 => rfl
  | 5 => rfl
  | 6 => rfl
  | 7 => rfl
  | 8 => rfl
  | 9 => rfl
  | 10 => rfl
  | k + 11 => rfl
theorem Ms_3 {s : Nat → Int32} {x : Int32} : Ms (mc_up s 3 x) = mc_up (Ms s) 4 x := by
  funext k
  match k with
  | 0 => rfl
  | 1 => rfl
  | 2 => rfl
  | 3 => rfl
  | 4 => rfl
  | 5 => rfl
  | 6 => rfl
  | 7 => rfl
  | 8 => rfl
  | 9 => rfl
  | 10 => rfl
  | k + 11 => rfl
theorem Ms_4 {s : Nat → Int32} {x : Int32} : Ms (mc_up s 4 x) = mc_up (Ms s) 5 x := by
  funext k
  match k with
  | 0 => rfl
  | 1 => rfl
  | 2 => rfl
  | 3 => rfl
  | 4 => rfl
  | 5 => rfl
  | 6 => rfl
  | 7 => rfl
  | 8 => rfl
  | 9 => rfl
  | 10 => rfl
  | k + 11 => rfl
theorem Ms_6 {s : Nat → Int32} {x : Int32} : Ms (mc_up s 6 x) = mc_up (Ms s) 6 x := by
  funext k
  match k with
  | 0 => rfl
  | 1 => rfl
  | 2 => rfl
  | 3 => rfl
  | 4 => rfl
  | 5 => rfl
  | 6 => rfl
  | 7 => rfl
  | 8 => rfl
  | 9 => rfl
  | 10 => rfl
  | k + 11 => rfl
theorem Ms_9 {s : Nat → Int32} {x : Int32} : Ms (mc_up s 9 x) = mc_up (Ms s) 7 x := by
  funext k
  match k with
  | 0 => rfl
  | 1 => rfl
  | 2 => rfl
  | 3 => rfl
  | 4 => rfl
  | 5 => rfl
  | 6 => rfl
  | 7 => rfl
  | 8 => rfl
  | 9 => rfl
  | 10 => rfl
  | k + 11 => rfl
theorem Ms_7 {s : Nat → Int32} {x : Int32} : Ms (mc_up s 7 x) = mc_up (Ms s) 8 x := by
  funext k
  match k with
  | 0 => rfl
  | 1 => rfl
  | 2 => rfl
  | 3 => rfl
  | 4 => rfl
  | 5 => rfl
  | 6 => rfl
  | 7 => rfl
  | 8 => rfl
  | 9 => rfl
  | 10 => rfl
  | k + 11 => rfl
theorem Ms_8 {s : Nat → Int32} {x : Int32} : Ms (mc_up s 8 x) = mc_up (Ms s) 9 x := by
  funext k
  match k with
  | 0 => rfl
  | 1 => rfl
  | 2 => rfl
  | 3 => rfl
  | 4 => rfl
  | 5 => rfl
  | 6 => rfl
  | 7 => rfl
  | 8 => rfl
  | 9 => rfl
  | 10 => rfl
  | k + 11 => rfl
theorem Ms_10 {s : Nat → Int32} {x : Int32} : Ms (mc_up s 10 x) = mc_up (Ms s) 10 x := by
  funext k
  match k with
  | 0 => rfl
  | 1 => rfl
  | 2 => rfl
  | 3 => rfl
  | 4 => rfl
  | 5 => rfl
  | 6 => rfl
  | 7 => rfl
  | 8 => rfl
  | 9 => rfl
  | 10 => rfl
  | k + 11 => rfl
theorem Ms_hi {s s1 : Nat → Int32} (h : ∀ j, j ≤ 10 → s1 j = s j) : Ms s1 = Ms s := by
  funext k
  match k with
  | 0 => exact h 0 (by decide)
  | 1 => exact h 1 (by decide)
  | 2 => exact h 2 (by decide)
  | 3 => exact h 5 (by decide)
  | 4 => exact h 3 (by decide)
  | 5 => exact h 4 (by decide)
  | 6 => exact h 6 (by decide)
  | 7 => exact h 9 (by decide)
  | 8 => exact h 7 (by decide)
  | 9 => exact h 8 (by decide)
  | 10 => exact h 10 (by decide)
  | k + 11 => rfl
theorem Bs_0 {s : Nat → Int32} {a : Nat → List Int32} {t3 t4 t5 l : List Int32} : Bs s (mc_up a 0 l) t3 t4 t5 = mc_up (Bs s a t3 t4 t5) 0 l := by
  funext k
  match k with
  | 0 => rfl
  | 1 => rfl
  | 2 => rfl
  | 3 => rfl
  | 4 => rfl
  | 5 => rfl
  | 6 => rfl
  | 7 => rfl
  | 8 => rfl
  | 9 => rfl
  | k + 10 => rfl
theorem Bs_1 {s : Nat → Int32} {a : Nat → List Int32} {t3 t4 t5 l : List Int32} : Bs s (mc_up a 1 l) t3 t4 t5 = mc_up (Bs s a t3 t4 t5) 1 l := by
  funext k
  match k with
  | 0 => rfl
  | 1 => rfl
  | 2 => rfl
  | 3 => rfl
  | 4 => rfl
  | 5 => rfl
  | 6 => rfl
  | 7 => rfl
  | 8 => rfl
  | 9 => rfl
  | k + 10 => rfl
theorem Bs_3 {s : Nat → Int32} {a : Nat → List Int32} {t3 t4 t5 l : List Int32} : Bs s (mc_up a 3 l) t3 t4 t5 = mc_up (Bs s a t3 t4 t5) 2 l := by
  funext k
  match k with
  | 0 => rfl
  | 1 => rfl
  | 2 => rfl
  | 3 => rfl
  | 4 => rfl
  | 5 => rfl
  | 6 => rfl
  | 7 => rfl
  | 8 => rfl
  | 9 => rfl
  | k + 10 => rfl
theorem Bs_4 {s : Nat → Int32} {a : Nat → List Int32} {t3 t4 t5 l : List Int32} : Bs s (mc_up a 4 l) t3 t4 t5 = mc_up (Bs s a t3 t4 t5) 6 l := by
  funext k
  match k with
  | 0 => rfl
  | 1 => rfl
  | 2 => rfl
  | 3 => rfl
  | 4 => rfl
  | 5 => rfl
  | 6 => rfl
  | 7 => rfl
  | 8 => rfl
  | 9 => rfl
  | k + 10 => rfl
theorem Bs_2 {s : Nat → Int32} {a : Nat → List Int32} {t3 t4 t5 l : List Int32} : Bs s (mc_up a 2 l) t3 t4 t5 = Bs s a t3 t4 t5 := by
  funext k
  match k with
  | 0 => rfl
  | 1 => rfl
  | 2 => rfl
  | 3 => rfl
  | 4 => rfl
  | 5 => rfl
  | 6 => rfl
  | 7 => rfl
  | 8 => rfl
  | 9 => rfl
  | k + 10 => rfl
theorem Bs_t3 {s : Nat → Int32} {a : Nat → List Int32} {t3 t4 t5 l : List Int32} : mc_up (Bs s a t3 t4 t5) 3 l = Bs s a l t4 t5 := by
  funext k
  match k with
  | 0 => rfl
  | 1 => rfl
  | 2 => rfl
  | 3 => rfl
  | 4 => rfl
  | 5 => rfl
  | 6 => rfl
  | 7 => rfl
  | 8 => rfl
  | 9 => rfl
  | k + 10 => rfl
theorem Bs_t4 {s : Nat → Int32} {a : Nat → List Int32} {t3 t4 t5 l : List Int32} : mc_up (Bs s a t3 t4 t5) 4 l = Bs s a t3 l t5 := by
  funext k
  match k with
  | 0 => rfl
  | 1 => rfl
  | 2 => rfl
  | 3 => rfl
  | 4 => rfl
  | 5 => rfl
  | 6 => rfl
  | 7 => rfl
  | 8 => rfl
  | 9 => rfl
  | k + 10 => rfl
theorem Bs_t5 {s : Nat → Int32} {a : Nat → List Int32} {t3 t4 t5 l : List Int32} : mc_up (Bs s a t3 t4 t5) 5 l = Bs s a t3 t4 l := by
  funext k
  match k with
  | 0 => rfl
  | 1 => rfl
  | 2 => rfl
  | 3 => rfl
  | 4 => rfl
  | 5 => rfl
  | 6 => rfl
  | 7 => rfl
  | 8 => rfl
  | 9 => rfl
  | k + 10 => rfl
theorem Bs_s {s s1 : Nat → Int32} {a : Nat → List Int32} {t3 t4 t5 : List Int32} (h : ∀ j, 11 ≤ j → s1 j = s j) : Bs s1 a t3 t4 t5 = Bs s a t3 t4 t5 := by
  funext k
  match k with
  | 0 => rfl
  | 1 => rfl
  | 2 => rfl
  | 3 => rfl
  | 4 => rfl
  | 5 => rfl
  | 6 => rfl
  | 7 => show [s1 11, s1 13, s1 15, s1 17] = [s 11, s 13, s 15, s 17]; rw [h 11 (by decide), h 13 (by decide), h 15 (by decide), h 17 (by decide)]
  | 8 => show [s1 12, s1 14, s1 16, s1 18] = [s 12, s 14, s 16, s 18]; rw [h 12 (by decide), h 14 (by decide), h 16 (by decide), h 18 (by decide)]
  | 9 => rfl
  | k + 10 => rfl
theorem eq_set {s : Nat → Int32} {w v : Int32} : Ms (yy_setm s w v) = yy_setm (Ms s) w v ∧ yy_set1 s w v = yy_set1 (Ms s) w v := by
  refine ⟨?_, rfl⟩
  unfold yy_setm
  by_cases h : mc_wi w 0 1 = false
  · rw [if_pos h, if_pos h]
  · rw [if_neg h, if_neg h]
    by_cases h0 : w = 0
    · rw [if_pos h0, if_pos h0]
      by_cases h1 : mc_wi v 2 12 = true
      · rw [if_pos h1, if_pos h1]; exact Ms_0
      · rw [if_neg h1, if_neg h1]
    · rw [if_neg h0, if_neg h0]
      by_cases h1 : yy_yr v = true
      · rw [if_pos h1, if_pos h1]; exact Ms_1
      · rw [if_neg h1, if_neg h1]
theorem eq_setB {s : Nat → Int32} {a : Nat → List Int32} {t3 t4 t5 : List Int32} {w v : Int32} : Bs (yy_setm s w v) a t3 t4 t5 = Bs s a t3 t4 t5 := by
  refine Bs_s (fun j hj => ?_)
  unfold yy_setm
  repeat' split
  all_goals first | rfl | exact upn (by omega)
theorem eq_force {s : Nat → Int32} {t : Int32} : Ms (xx_fos s t) = yy_fo2 (Ms s) t := by
  unfold xx_fos yy_fo2
  by_cases h : mc_wi t 0 (s 3 - 1) = true
  · rw [if_pos h]
    refine Ms_4.trans ?_
    exact (if_pos (c := mc_wi t 0 (Ms s 4 - 1) = true) h).symm
  · rw [if_neg h]
    exact (if_neg (c := mc_wi t 0 (Ms s 4 - 1) = true) h).symm
theorem eq_forceB {s : Nat → Int32} {a : Nat → List Int32} {t3 t4 t5 : List Int32} {t : Int32} : Bs (xx_fos s t) a t3 t4 t5 = Bs s a t3 t4 t5 := by
  refine Bs_s (fun j hj => ?_)
  unfold xx_fos
  split
  · exact upn (by omega)
  · rfl
theorem eq_clerk {s : Nat → Int32} {a : Nat → List Int32} {t3 t4 t5 : List Int32} {k mo : Int32} : Ms (yy_ckm s k mo) = yy_ckm (Ms s) k mo ∧ Bs (yy_ckm s k mo) (yy_ckb s a k mo) t3 t4 t5 = yy_ckb (Ms s) (Bs s a t3 t4 t5) k mo ∧ yy_ck1 s k mo = yy_ck1 (Ms s) k mo := by
  refine ⟨?_, ?_, rfl⟩
  · unfold yy_ckm
    by_cases h : yy_ck s k mo = true ∧ ¬ s 2 = 5
    · rw [if_pos h]
      refine Ms_2.trans ?_
      exact (if_pos (c := yy_ck (Ms s) k mo = true ∧ ¬ Ms s 2 = 5) h).symm
    · rw [if_neg h]
      exact (if_neg (c := yy_ck (Ms s) k mo = true ∧ ¬ Ms s 2 = 5) h).symm
  · refine (Bs_s (fun j hj => ckm_o (by omega))).trans ?_
    unfold yy_ckb
    by_cases h : yy_ck s k mo = true ∧ ¬ s 2 = 5
    · rw [if_pos h, Bs_1, Bs_0]
      exact (if_pos (c := yy_ck (Ms s) k mo = true ∧ ¬ Ms s 2 = 5) h).symm
    · rw [if_neg h]
      exact (if_neg (c := yy_ck (Ms s) k mo = true ∧ ¬ Ms s 2 = 5) h).symm
theorem eq_image {s : Nat → Int32} {a : Nat → List Int32} {t3 t4 t5 : List Int32} : Ms (ximm s) = yimm (Ms s) ∧ Bs (ximm s) (mc_up a 4 (a 3)) t3 t4 t5 = mc_up (Bs s a t3 t4 t5) 6 (Bs s a t3 t4 t5 2) := by
  refine ⟨?_, ?_⟩
  · funext k
    match k with
    | 0 => rfl
    | 1 => rfl
    | 2 => rfl
    | 3 => rfl
    | 4 => rfl
    | 5 => rfl
    | 6 => rfl
    | 7 => rfl
    | 8 => rfl
    | 9 => rfl
    | 10 => rfl
    | k + 11 => rfl
  · rw [Bs_4]
    refine congrArg (fun f => mc_up f 6 (a 3)) (Bs_s (fun j hj => ?_))
    unfold ximm
    rw [upn (by omega), upn (by omega), upn (by omega), upn (by omega), upn (by omega)]
theorem eq_back {s : Nat → Int32} {a : Nat → List Int32} {t3 t4 t5 : List Int32} : Ms (xbkm s) = ybkm (Ms s) ∧ Bs (xbkm s) (xbka s a) t3 t4 t5 = ybkb (Ms s) (Bs s a t3 t4 t5) ∧ (if s 6 = 0 then (-3 : Int32) else s 9) = (if Ms s 6 = 0 then -3 else Ms s 7) := by
  refine ⟨?_, ?_, rfl⟩
  · unfold xbkm ybkm
    by_cases h : s 6 = 0
    · rw [if_pos h]; exact (if_pos (c := Ms s 6 = 0) h).symm
    · rw [if_neg h]
      refine Eq.trans ?_ (if_neg (c := Ms s 6 = 0) h).symm
      funext k
      match k with
      | 0 => rfl
      | 1 => rfl
      | 2 => rfl
      | 3 => rfl
      | 4 => rfl
      | 5 => rfl
      | 6 => rfl
      | 7 => rfl
      | 8 => rfl
      | 9 => rfl
      | 10 => rfl
      | k + 11 => rfl
  · refine (Bs_s (s := s) (fun j hj => ?_)).trans ?_
    · unfold xbkm
      split
      · rfl
      · rw [upn (by omega), upn (by omega), upn (by omega), upn (by omega)]
    · unfold xbka ybkb
      by_cases h : s 6 = 0
      · rw [if_pos h]; exact (if_pos (c := Ms s 6 = 0) h).symm
      · rw [if_neg h, Bs_3]
        exact (if_neg (c := Ms s 6 = 0) h).symm
theorem Bs_so {s : Nat → Int32} {a : Nat → List Int32} {t3 t4 t5 : List Int32} {k : Nat} (hk : k < 4) : gt (Bs s a t3 t4 t5 7) (nI k) = s (11 + 2 * k) ∧ gt (Bs s a t3 t4 t5 8) (nI k) = s (12 + 2 * k) := by
  rcases (show k = 0 ∨ k = 1 ∨ k = 2 ∨ k = 3 by omega) with rfl | rfl | rfl | rfl <;> exact ⟨rfl, rfl⟩
theorem Bs_num {s : Nat → Int32} {a : Nat → List Int32} {t3 t4 t5 : List Int32} {k : Nat} (hk : k < 4) (hL : xL a) : ((Bs s a t3 t4 t5 9).drop (40 * k)).take 40 = a (5 + k) := by
  have l0 := hL.2.2.2.2.2 0 (by decide)
  have l1 := hL.2.2.2.2.2 1 (by decide)
  have l2 := hL.2.2.2.2.2 2 (by decide)
  have l3 := hL.2.2.2.2.2 3 (by decide)
  show ((a 5 ++ (a 6 ++ (a 7 ++ a 8))).drop (40 * k)).take 40 = _
  have dr : ∀ (x r : List Int32) (n : Nat), x.length = 40 → (x ++ r).drop (40 + n) = r.drop n := fun x r n h => by
    rw [← h, List.drop_append]
    simp
  have tk : ∀ (x r : List Int32), x.length = 40 → (x ++ r).take 40 = x := fun x r h => by
    rw [← h]; simp
  rcases (show k = 0 ∨ k = 1 ∨ k = 2 ∨ k = 3 by omega) with rfl | rfl | rfl | rfl
  · exact tk _ _ l0
  · rw [show 40 * 1 = 40 + 0 from rfl, dr _ _ _ l0]; exact tk _ _ l1
  · rw [show 40 * 2 = 40 + (40 + 0) from rfl, dr _ _ _ l0, dr _ _ _ l1]; exact tk _ _ l2
  · rw [show 40 * 3 = 40 + (40 + (40 + 0)) from rfl, dr _ _ _ l0, dr _ _ _ l1, dr _ _ _ l2]
    show (a 8).take 40 = a 8
    rw [List.take_of_length_le (by rw [l3]; exact Nat.le_refl _)]
theorem Bs_row {s : Nat → Int32} {a : Nat → List Int32} {t3 t4 t5 : List Int32} {k : Nat} (hk : k < 4) (hL : xL a) (hS : xS s) : yrow (Bs s a t3 t4 t5) (nI k) = xrow s a k := by
  have h := hS k hk
  have t := tnc h.1
  unfold yrow xrow
  rw [(Bs_so hk).2, nIc (by omega), ← Bs_num (s := s) (t3 := t3) (t4 := t4) (t5 := t5) hk hL, List.take_take]
  congr 1
  omega
theorem eq_bw {s : Nat → Int32} {a : Nat → List Int32} {t3 t4 t5 : List Int32} {k : Nat} (hk : k < 4) (hL : xL a) (hS : xS s) : ybw (Bs s a t3 t4 t5) (nI k) = xbw s a k := by
  unfold ybw xbw
  rw [if_neg (by rw [wi_nk hk]; decide), (Bs_so hk).1, Bs_row hk hL hS]
  by_cases h : s (11 + 2 * k) = -1
  · rw [if_pos h, if_pos (show xmis s k = true by unfold xmis; rw [beq_iff_eq]; exact h)]
  · rw [if_neg h, if_neg (show ¬ xmis s k = true by unfold xmis; rw [beq_iff_eq]; exact h)]
