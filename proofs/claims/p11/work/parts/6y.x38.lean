/-! ===== sheets, on both sides ===== -/
def xcells (a : Nat → List Int32) : List Int32 := a 5 ++ (a 6 ++ (a 7 ++ a 8))
theorem cells_set {a : Nat → List Int32} {k i : Nat} {x : Int32} (hk : k < 4) (hL : xL a) (hi : i < 40) : (xcells a).set (40 * k + i) x = xcells (mc_up a (5 + k) ((a (5 + k)).set i x)) := by
  have l0 := hL.2.2.2.2.2 0 (by decide)
  have l1 := hL.2.2.2.2.2 1 (by decide)
  have l2 := hL.2.2.2.2.2 2 (by decide)
  have l3 := hL.2.2.2.2.2 3 (by decide)
  have sl : ∀ (x r : List Int32) (y : Int32) (n : Nat), x.length = 40 → n < 40 → (x ++ r).set n y = x.set n y ++ r := fun x r y n h hn => List.set_append_left n y (by omega)
  have sr : ∀ (x r : List Int32) (y : Int32) (n : Nat), x.length = 40 → (x ++ r).set (40 + n) y = x ++ r.set n y := fun x r y n h => by
    rw [List.set_append_right _ _ (by omega), h]; congr 2; omega
  unfold xcells
  rcases (show k = 0 ∨ k = 1 ∨ k = 2 ∨ k = 3 by omega) with rfl | rfl | rfl | rfl
  · rw [show 40 * 0 + i = i by omega, sl _ _ _ _ l0 hi]; rfl
  · rw [show 40 * 1 + i = 40 + i by omega, sr _ _ _ _ l0, sl _ _ _ _ l1 hi]; rfl
  · rw [show 40 * 2 + i = 40 + (40 + i) by omega, sr _ _ _ _ l0, sr _ _ _ _ l1, sl _ _ _ _ l2 hi]; rfl
  · rw [show 40 * 3 + i = 40 + (40 + (40 + i)) by omega, sr _ _ _ _ l0, sr _ _ _ _ l1, sr _ _ _ _ l2]; rfl
theorem cells_get {a : Nat → List Int32} {k i : Nat} (hk : k < 4) (hL : xL a) (hi : i < 40) : (xcells a).getD (40 * k + i) 0 = (a (5 + k)).getD i 0 := by
  have l0 := hL.2.2.2.2.2 0 (by decide)
  have l1 := hL.2.2.2.2.2 1 (by decide)
  have l2 := hL.2.2.2.2.2 2 (by decide)
  have l3 := hL.2.2.2.2.2 3 (by decide)
  have gl : ∀ (x r : List Int32) (n : Nat), x.length = 40 → n < 40 → (x ++ r).getD n 0 = x.getD n 0 := fun x r n h hn => by
    rw [List.getD_eq_getElem?_getD, List.getD_eq_getElem?_getD, List.getElem?_append_left (by omega)]
  have gr : ∀ (x r : List Int32) (n : Nat), x.length = 40 → (x ++ r).getD (40 + n) 0 = r.getD n 0 := fun x r n h => by
    rw [List.getD_eq_getElem?_getD, List.getD_eq_getElem?_getD, List.getElem?_append_right (by omega), h, show 40 + n - 40 = n by omega]
  unfold xcells
  rcases (show k = 0 ∨ k = 1 ∨ k = 2 ∨ k = 3 by omega) with rfl | rfl | rfl | rfl
  · rw [show 40 * 0 + i = i by omega]; exact gl _ _ _ l0 hi
  · rw [show 40 * 1 + i = 40 + i by omega, gr _ _ _ l0]; exact gl _ _ _ l1 hi
  · rw [show 40 * 2 + i = 40 + (40 + i) by omega, gr _ _ _ l0, gr _ _ _ l1]; exact gl _ _ _ l2 hi
  · rw [show 40 * 3 + i = 40 + (40 + (40 + i)) by omega, gr _ _ _ l0, gr _ _ _ l1, gr _ _ _ l2]
theorem Bs_9 {s : Nat → Int32} {a : Nat → List Int32} {t3 t4 t5 : List Int32} {k : Nat} {l : List Int32} (hk : k < 4) : Bs s (mc_up a (5 + k) l) t3 t4 t5 = mc_up (Bs s a t3 t4 t5) 9 (xcells (mc_up a (5 + k) l)) := by
  funext j
  rcases (show k = 0 ∨ k = 1 ∨ k = 2 ∨ k = 3 by omega) with rfl | rfl | rfl | rfl <;>
  · match j with
    | 0 => rfl
    | 1 => rfl
    | 2 => rfl
    | 3 => rfl
    | 4 => rfl
    | 5 => rfl
    | 6 => rfl
    | 7 => rfl
    | 8 => rfl
    | 9 => rfl
    | j + 10 => rfl
theorem Bs_78 {s : Nat → Int32} {a : Nat → List Int32} {t3 t4 t5 : List Int32} {k : Nat} {so N : Int32} (hk : k < 4) : Bs (mc_up (mc_up s (11 + 2 * k) so) (12 + 2 * k) N) a t3 t4 t5 = mc_up (mc_up (Bs s a t3 t4 t5) 7 ((Bs s a t3 t4 t5 7).set k so)) 8 ((Bs s a t3 t4 t5 8).set k N) := by
  funext j
  rcases (show k = 0 ∨ k = 1 ∨ k = 2 ∨ k = 3 by omega) with rfl | rfl | rfl | rfl <;>
  · match j with
    | 0 => rfl
    | 1 => rfl
    | 2 => rfl
    | 3 => rfl
    | 4 => rfl
    | 5 => rfl
    | 6 => rfl
    | 7 => rfl
    | 8 => rfl
    | 9 => rfl
    | j + 10 => rfl
theorem Bs_c9 {s : Nat → Int32} {a : Nat → List Int32} {t3 t4 t5 : List Int32} : Bs s a t3 t4 t5 9 = xcells a := rfl
theorem yzr_fil {k : Nat} (hk : k < 4) : ∀ g i (a : Nat → List Int32), xL a → i + g = 40 → yzr k g i (xcells a) = xcells (mc_up a (5 + k) (xfil (a (5 + k)) 0 g i)) := by
  intro g
  induction g with
  | zero => intro i a hL hi; show xcells a = xcells (mc_up a (5 + k) (a (5 + k))); rw [mc_up_self]
  | succ g ih =>
    intro i a hL hi
    show yzr k g (i + 1) ((xcells a).set (40 * k + i) 0) = _
    rw [cells_set hk hL (by omega), ih (i + 1) _ (hL.up (by rw [List.length_set]; exact hL.2.2.2.2.2 k hk)) (by omega), up_up, up_at]
    rfl
theorem eq_sheet {s : Nat → Int32} {a : Nat → List Int32} {t3 t4 t5 : List Int32} {v so N : Int32} (hL : xL a) : Bs (xshs s v so N) (xsha a v so N) t3 t4 t5 = yshb (Bs s a t3 t4 t5) v so N ∧ Ms (xshs s v so N) = Ms s := by
  unfold xshs xsha yshb
  by_cases h : ysh1 v so N = 1
  · rw [if_pos h, if_pos h, if_pos h]
    have hh := h
    unfold ysh1 at hh
    have hv : mc_wi v 0 3 = true ∧ (so = -1 ∨ (0 ≤ N.toInt ∧ N.toInt ≤ 40)) := by
      by_cases h1 : (mc_wi v 0 3 && mc_wi so (-1) 2) = false ∨ (¬ so = -1 ∧ 40 < N)
      · rw [if_pos h1] at hh; exact absurd hh (by decide)
      · rw [if_neg h1] at hh
        have w : (mc_wi v 0 3 && mc_wi so (-1) 2) = true := by
          rw [← Bool.not_eq_false]; exact fun q => h1 (Or.inl q)
        rw [Bool.and_eq_true] at w
        refine ⟨w.1, ?_⟩
        by_cases e : so = -1
        · exact Or.inl e
        · refine Or.inr ?_
          by_cases h2 : ¬ so = -1 ∧ N < 0
          · rw [if_pos h2] at hh; exact absurd hh (by decide)
          · have a1 : ¬ N < 0 := fun q => h2 ⟨e, q⟩
            have a2 : ¬ 40 < N := fun q => h1 (Or.inr ⟨e, q⟩)
            rw [Int32.lt_iff_toInt_lt, i0] at a1
            rw [Int32.lt_iff_toInt_lt, show (40 : Int32).toInt = 40 from rfl] at a2
            omega
    obtain ⟨k, hk, rfl⟩ := wi_k hv.1
    rw [nIc (by omega)]
    have ec : xcl (if so = -1 then 0 else N) = if so = -1 then 0 else N := by
      by_cases e : so = -1
      · rw [if_pos e]; rfl
      · rw [if_neg e]; have := hv.2.resolve_left e; exact xcl_in this.1 this.2
    refine ⟨?_, ?_⟩
    · unfold xbs xba yshx
      rw [ec, nIc (by omega), Bs_9 hk, Bs_78 hk]
      have f := yzr_fil hk 40 0 a hL (by omega)
      have f2 := xfil_all (x := 0) (l := a (5 + k))
      rw [hL.2.2.2.2.2 k hk] at f2
      rw [Bs_c9, f, f2]
    · exact Ms_hi (fun j hj => by unfold xbs; rw [upn (by omega), upn (by omega)])
  · rw [if_neg h, if_neg h, if_neg h]; exact ⟨rfl, rfl⟩
theorem eq_lend {s : Nat → Int32} {a : Nat → List Int32} {t3 t4 t5 : List Int32} {f g mu : Int32} : Bs s (if yy_fo f g = true ∧ mc_wi mu 0 9999 = true then mc_up a 3 ((a 3).set (6 * f + g).toNatClampNeg mu) else a) t3 t4 t5 = yy_lenb (Bs s a t3 t4 t5) f g mu := by
  unfold yy_lenb
  by_cases h : yy_fo f g = true ∧ mc_wi mu 0 9999 = true
  · rw [if_pos h, if_pos h]; exact Bs_3
  · rw [if_neg h, if_neg h]
theorem yflm_fl {m : Nat → Int32} {b : Nat → List Int32} {j : Int32} {k F S : Nat} (hk : k < 4) : ∀ g i (a : Nat → List Int32), xL a → i + g ≤ 20 → yflm m b j k F S g i (xcells a) = xcells (mc_up a (5 + k) (xfl (ypl m b j) F S g i (a (5 + k)))) := by
  intro g
  induction g with
  | zero => intro i a hL hi; show xcells a = xcells (mc_up a (5 + k) (a (5 + k))); rw [mc_up_self]
  | succ g ih =>
    intro i a hL hi
    have l5 := hL.2.2.2.2.2 k hk
    simp only [yflm, xfl]
    have hL1 : xL (mc_up a (5 + k) ((a (5 + k)).set (2 * i) (nI (F + i * S)))) := hL.up (by rw [List.length_set]; exact l5)
    rw [cells_set hk hL (by omega), show 40 * k + 2 * i + 1 = 40 * k + (2 * i + 1) by omega, cells_set hk hL1 (by omega), up_up, up_at, ih (i + 1) _ (hL.up (by rw [List.length_set, List.length_set]; exact l5)) (by omega), up_up, up_at]
