/-! ===== book, who, smuggled, shortest, kinds: one answer ===== -/
theorem gr_eq {x : Int64} : xgr x = yy_gr x := by
  unfold xgr yy_gr
  split <;> rfl
theorem more_in {s : Nat → Int32} {a : Nat → List Int32} {j : Int32} (hC : yC s) (hm : ∀ i, i < 5 → 0 ≤ ((a 1).getD i 0).toInt ∧ ((a 1).getD i 0).toInt ≤ 9) (hj : mc_wi j 0 (s 2 - 1) = true) : 0 ≤ (gt (a 1) j).toInt ∧ (gt (a 1) j).toInt ≤ 9 := by
  have h := mc_wi_iff.mp hj
  obtain ⟨h1, h2⟩ := hC
  rw [i0, i32_sub (by omega) (by decide), i1] at h
  have t := tnc h.1
  exact hm _ (by omega)
theorem eq_book {s : Nat → Int32} {a : Nat → List Int32} {t3 t4 t5 : List Int32} {k : Nat} {j w : Int32} (hk : k < 4) (hL : xL a) (hS : xS s) (hC : yC s) (hm : ∀ i, i < 5 → 0 ≤ ((a 1).getD i 0).toInt ∧ ((a 1).getD i 0).toInt ≤ 9) :
    ybook (Ms s) (Bs s a t3 t4 t5) (nI k) j w = xbook s a (yseg (Bs s a t3 t4 t5) (tl s)) k j w := by
  unfold ybook xbook
  rw [eq_bw hk hL hS]
  by_cases h : xbw s a k = 0
  · rw [if_neg (show ¬ ¬ xbw s a k = 0 from fun q => q h), if_neg (show ¬ ¬ xbw s a k = 0 from fun q => q h)]
    show (if mc_wi j 0 (s 2 - 1) = false then (-5 : Int64) else _) = _
    by_cases c : mc_wi j 0 (s 2 - 1) = false
    · rw [if_pos c, if_pos c]
    · rw [if_neg c, if_neg c]
      rw [Bool.not_eq_false] at c
      have hmj := more_in hC hm c
      have b1 := mS_in (sg := yseg (Bs s a t3 t4 t5) (tl s)) hk hL hS h hmj
      have b2 := oS_in hk hL hS h
      have fe := far_eq (x := xmS s a (yseg (Bs s a t3 t4 t5) (tl s)) k j) (y := xoS s a k) (by omega) (by omega)
      rw [eq_hb hk hL hS, eq_ob hk hL hS, ← fe]
      by_cases w0 : w = 0
      · subst w0; rw [if_pos rfl, if_neg (by decide), if_pos rfl]
      · by_cases w1 : w = 1
        · subst w1; rw [if_neg w0, if_pos rfl, if_neg (show ¬ mc_wi 1 0 3 = false by decide), if_neg w0, if_pos rfl]
        · by_cases w2 : w = 2
          · subst w2; rw [if_neg w0, if_neg w1, if_pos rfl, if_neg (show ¬ mc_wi 2 0 3 = false by decide), if_neg w0, if_neg w1, if_pos rfl]
          · rw [if_neg w0, if_neg w1, if_neg w2]
            by_cases w3 : w = 3
            · subst w3
              rw [if_pos rfl, if_neg (show ¬ mc_wi 3 0 3 = false by decide), if_neg w0, if_neg w1, if_neg w2, gr_eq, gr_eq]
              rfl
            · rw [if_neg w3, if_pos]
              rw [← Bool.not_eq_true, mc_wi_iff, i0, show (3 : Int32).toInt = 3 from rfl]
              intro q
              have n : ∀ v : Int32, ¬ w = v → ¬ w.toInt = v.toInt := fun v g e => g (Int32.toInt_inj.mp e)
              have n0 := n 0 w0
              have n1 := n 1 w1
              have n2 := n 2 w2
              have n3 := n 3 w3
              rw [i0] at n0
              rw [i1] at n1
              rw [show (2 : Int32).toInt = 2 from rfl] at n2
              rw [show (3 : Int32).toInt = 3 from rfl] at n3
              omega
  · rw [if_pos (show ¬ xbw s a k = 0 from h), if_pos (show ¬ xbw s a k = 0 from h)]
theorem ybest_cg {f g : Nat → Int64} : ∀ n i be le, (∀ j, i ≤ j → j < i + n → f j = g j) → ybest f n i be le = ybest g n i be le := by
  intro n
  induction n with
  | zero => intro i be le h; rfl
  | succ n ih =>
    intro i be le h
    simp only [ybest]
    rw [h i (Nat.le_refl _) (by omega), ih _ _ _ (fun j h1 h2 => h j (by omega) (by omega)), ih _ _ _ (fun j h1 h2 => h j (by omega) (by omega))]
theorem eq_who {s : Nat → Int32} {a : Nat → List Int32} {t3 t4 t5 : List Int32} {k : Nat} {w : Int32} (hk : k < 4) (hL : xL a) (hS : xS s) (hC : yC s) (hm : ∀ i, i < 5 → 0 ≤ ((a 1).getD i 0).toInt ∧ ((a 1).getD i 0).toInt ≤ 9) :
    ywho (Ms s) (Bs s a t3 t4 t5) (nI k) w = xwho s a (yseg (Bs s a t3 t4 t5) (tl s)) k w := by
  unfold ywho xwho
  rw [eq_bw hk hL hS]
  by_cases h : xbw s a k = 0
  · rw [if_neg (show ¬ ¬ xbw s a k = 0 from fun q => q h), if_neg (show ¬ ¬ xbw s a k = 0 from fun q => q h)]
    have b2 := oS_in hk hL hS h
    have e : ybest (fun i => yy_far (yhb (Ms s) (Bs s a t3 t4 t5) (nI k) (nI i)) (yob (Bs s a t3 t4 t5) (nI k))) (Ms s 2).toNatClampNeg 0 (-1) (-1) = ybest (fun i => xabl (xmS s a (yseg (Bs s a t3 t4 t5) (tl s)) k (nI i) - xoS s a k)) (s 2).toNatClampNeg 0 (-1) (-1) := by
      show ybest _ (s 2).toNatClampNeg 0 (-1) (-1) = _
      refine ybest_cg _ _ _ _ (fun i _ hi => ?_)
      have t2 := tnc hC.1
      have h5 := hC.2
      have b1 := mS_in (sg := yseg (Bs s a t3 t4 t5) (tl s)) (j := nI i) hk hL hS h (by
        have := hm i (by omega)
        unfold gt; rw [nIc (by omega)]; exact this)
      rw [eq_hb hk hL hS, eq_ob hk hL hS]
      exact (far_eq (by omega) (by omega)).symm
    rw [e]
  · rw [if_pos (show ¬ xbw s a k = 0 from h), if_pos (show ¬ xbw s a k = 0 from h)]
theorem yfew_cg {f g : Nat → Int32} : ∀ n i be le, (∀ j, i ≤ j → j < i + n → f j = g j) → yfew f n i be le = yfew g n i be le := by
  intro n
  induction n with
  | zero => intro i be le h; rfl
  | succ n ih =>
    intro i be le h
    simp only [yfew]
    rw [h i (Nat.le_refl _) (by omega), ih _ _ _ (fun j h1 h2 => h j (by omega) (by omega)), ih _ _ _ (fun j h1 h2 => h j (by omega) (by omega))]
theorem bwy_x {s : Nat → Int32} {a : Nat → List Int32} {k : Nat} {j : Int32} {α : Type} {f : Int32 → α} {z5 : α} {r : α} (h5 : f (-5) = z5) : (if ¬ xbw s a k = 0 then f (xbw s a k) else if mc_wi j 0 (s 2 - 1) = false then z5 else r) = (if ¬ xbwy s a k j = 0 then f (xbwy s a k j) else r) := by
  unfold xbwy
  by_cases h : xbw s a k = 0
  · rw [if_neg (show ¬ ¬ xbw s a k = 0 from fun q => q h)]
    by_cases c : mc_wi j 0 (s 2 - 1) = true
    · rw [if_neg (show ¬ mc_wi j 0 (s 2 - 1) = false by rw [c]; decide)]
      rw [if_neg (show ¬ ¬ xbw s a k = 0 from fun q => q h), if_pos c, if_neg (fun q => q rfl)]
    · have cf : mc_wi j 0 (s 2 - 1) = false := by rwa [Bool.not_eq_true] at c
      rw [if_pos cf, if_neg (show ¬ ¬ xbw s a k = 0 from fun q => q h), if_neg c, if_pos (by decide)]
      exact h5.symm
  · rw [if_pos (show ¬ xbw s a k = 0 from h), if_pos (show ¬ xbw s a k = 0 from h), if_pos (show ¬ xbw s a k = 0 from h)]
theorem eq_short {s : Nat → Int32} {a : Nat → List Int32} {t3 t4 t5 : List Int32} {k : Nat} {j w : Int32} (hk : k < 4) (hL : xL a) (hS : xS s) : yshort (Ms s) (Bs s a t3 t4 t5) (nI k) j w = xshort s a (yseg (Bs s a t3 t4 t5) (tl s)) k j w := by
  unfold yshort xshort
  rw [eq_bw hk hL hS]
  refine (bwy_x (s := s) (a := a) (k := k) (j := j) (f := fun x => x) (z5 := -5) rfl).trans ?_
  have e0 : ∀ le, yfew (ysho (Ms s) (Bs s a t3 t4 t5) (nI k) j) 11 2 (-1) le = yfew (xffo (gt (a 0) j) (gt (a 1) j) j (s 1) (yseg (Bs s a t3 t4 t5) (tl s)) (xrow s a k)) 11 2 (-1) le := fun le => by
    refine yfew_cg _ _ _ _ (fun i _ _ => ?_)
    unfold ysho yfa xffo
    rw [Bs_row hk hL hS]
    rfl
  have e1 : ∀ f : Nat → Int32, yfew f 11 2 (-1) 0 = yfew f 11 2 (-1) (-1) := fun f => by
    show yfew f (10 + 1) 2 (-1) 0 = yfew f (10 + 1) 2 (-1) (-1)
    simp only [yfew]
    rw [if_pos (Or.inl trivial), if_pos (Or.inl trivial)]
  rw [e0, e1]
