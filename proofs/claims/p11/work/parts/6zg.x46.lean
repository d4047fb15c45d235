/-! ===== copy ===== -/
theorem gDs {l : List Int32} {i t : Nat} {v : Int32} (hi : i < l.length) : (l.set i v).getD t 0 = if t = i then v else l.getD t 0 := by
  rw [List.getD_eq_getElem?_getD, List.getElem?_set, List.getD_eq_getElem?_getD]
  by_cases h : i = t
  · subst h; rw [if_pos rfl, if_pos hi, if_pos rfl]; rfl
  · rw [if_neg h, if_neg (fun q => h q.symm)]
theorem run_iff {i g N : Int32} (hN : 0 ≤ N.toInt ∧ N.toInt ≤ 40) : xrun i g N = true ↔ 0 ≤ i.toInt ∧ 0 ≤ g.toInt ∧ i.toInt + g.toInt ≤ N.toInt := by
  unfold xrun
  simp only [Bool.and_eq_true, decide_eq_true_eq, Int32.le_iff_toInt_le, i0]
  constructor
  · rintro ⟨h1, h2, h3, h4⟩
    rw [i32_sub (by omega) (by omega)] at h4
    omega
  · rintro ⟨h1, h2, h3⟩
    refine ⟨h1, h2, by omega, ?_⟩
    rw [i32_sub (by omega) (by omega)]; omega
theorem rnc_iff {i j g N M : Int32} (hN : 0 ≤ N.toInt ∧ N.toInt ≤ 40) (hM : 0 ≤ M.toInt ∧ M.toInt ≤ 40) : ¬ (g < 0 ∨ i < 0 ∨ j < 0 ∨ N < i ∨ M < j ∨ N - i < g ∨ M - j < g) ↔ xrun i g N = true ∧ xrun j g M = true := by
  rw [run_iff hN, run_iff hM]
  simp only [not_or, Int32.lt_iff_toInt_lt, i0]
  constructor
  · rintro ⟨h1, h2, h3, h4, h5, h6, h7⟩
    rw [i32_sub (by omega) (by omega)] at h6
    rw [i32_sub (by omega) (by omega)] at h7
    omega
  · rintro ⟨⟨h1, h2, h3⟩, h4, h5, h6⟩
    refine ⟨by omega, by omega, by omega, by omega, by omega, ?_, ?_⟩
    · rw [i32_sub (by omega) (by omega)]; omega
    · rw [i32_sub (by omega) (by omega)]; omega
theorem ycp_len2 (A C N : Nat) : ∀ g k l, (ycp A C N g k l).length = l.length := by
  intro g
  induction g with
  | zero => intro k l; rfl
  | succ g ih => intro k l; show (ycp A C N g (k + 1) _).length = _; rw [ih, List.length_set]
theorem ycp_get {A C N : Nat} {o : List Int32} (hA : A + N ≤ 160) (hC : C + N ≤ 160) : ∀ g k l, k + g = N → l.length = 160 → (∀ t, l.getD t 0 = if (A < C ∧ C + N - k ≤ t ∧ t < C + N) ∨ (¬ A < C ∧ C ≤ t ∧ t < C + k) then o.getD (A + (t - C)) 0 else o.getD t 0) →
    ∀ t, (ycp A C N g k l).getD t 0 = if C ≤ t ∧ t < C + N then o.getD (A + (t - C)) 0 else o.getD t 0 := by
  intro g
  induction g with
  | zero =>
    intro k l hk hl h t
    show l.getD t 0 = _
    rw [h t]
    by_cases c : C ≤ t ∧ t < C + N
    · rw [if_pos c, if_pos (by omega)]
    · rw [if_neg c, if_neg (by omega)]
  | succ g ih =>
    intro k l hk hl h
    show ∀ t, (ycp A C N g (k + 1) (l.set (C + ycx A C N k) (l.getD (A + ycx A C N k) 0))).getD t 0 = _
    refine ih (k + 1) _ (by omega) (by rw [List.length_set]; exact hl) (fun t => ?_)
    have hx : ycx A C N k = if A < C then N - 1 - k else k := rfl
    have hv : l.getD (A + ycx A C N k) 0 = o.getD (A + ycx A C N k) 0 := by
      rw [h, if_neg]
      rw [hx]
      split <;> omega
    rw [hv]
    have hxl : C + ycx A C N k < l.length := by rw [hl, hx]; split <;> omega
    rw [gDs hxl]
    by_cases e : t = C + ycx A C N k
    · rw [if_pos e, if_pos, e, Nat.add_sub_cancel_left]
      rw [e, hx]
      split <;> omega
    · rw [if_neg e, h t]
      by_cases c : (A < C ∧ C + N - k ≤ t ∧ t < C + N) ∨ (¬ A < C ∧ C ≤ t ∧ t < C + k)
      · rw [if_pos c, if_pos (by omega)]
      · rw [if_neg c, if_neg]
        rw [hx] at e
        split at e <;> omega
theorem cpy_get {xs ys : List Int32} {sp dp n j : Nat} (hj : j < ys.length) : (mc_cpy xs ys sp dp n).getD j 0 = if dp ≤ j ∧ j < dp + n then xs.getD (sp + (j - dp)) 0 else ys.getD j 0 := by
  unfold mc_cpy
  rw [List.getD_eq_getElem?_getD, List.getElem?_map, List.getElem?_range hj]
  rfl
theorem xL_up {a : Nat → List Int32} {p : Nat} {l : List Int32} (hp : p < 4) (hL : xL a) (hl : l.length = 40) : xL (mc_up a (5 + p) l) := by
  obtain ⟨h0, h1, h2, h3, h4, h5⟩ := hL
  refine ⟨?_, ?_, ?_, ?_, ?_, fun k hk => ?_⟩
  · unfold mc_up; rw [if_neg (by omega)]; exact h0
  · unfold mc_up; rw [if_neg (by omega)]; exact h1
  · unfold mc_up; rw [if_neg (by omega)]; exact h2
  · unfold mc_up; rw [if_neg (by omega)]; exact h3
  · unfold mc_up; rw [if_neg (by omega)]; exact h4
  · unfold mc_up
    by_cases e : 5 + k = 5 + p
    · rw [if_pos e]; exact hl
    · rw [if_neg e]; exact h5 k hk
theorem xcells_len {a : Nat → List Int32} (hL : xL a) : (xcells a).length = 160 := by
  have h := hL.2.2.2.2.2
  unfold xcells
  rw [List.length_append, List.length_append, List.length_append, show (a 5).length = 40 from h 0 (by decide), show (a 6).length = 40 from h 1 (by decide), show (a 7).length = 40 from h 2 (by decide), show (a 8).length = 40 from h 3 (by decide)]
theorem cells_cpy {a : Nat → List Int32} {k p I J G : Nat} (hk : k < 4) (hp : p < 4) (hL : xL a) (hI : I + G ≤ 40) (hJ : J + G ≤ 40) : ycp (40 * k + I) (40 * p + J) G G 0 (xcells a) = xcells (mc_up a (5 + p) (mc_cpy (a (5 + k)) (a (5 + p)) I J G)) := by
  have hL2 : xL (mc_up a (5 + p) (mc_cpy (a (5 + k)) (a (5 + p)) I J G)) := xL_up hp hL (by rw [mc_cpy_len]; exact hL.2.2.2.2.2 p hp)
  refine li_ext (by rw [ycp_len2, xcells_len hL, xcells_len hL2]) (fun t ht => ?_)
  rw [ycp_len2, xcells_len hL] at ht
  rw [ycp_get (o := xcells a) (by omega) (by omega) G 0 (xcells a) (by omega) (xcells_len hL) (fun t => by rw [if_neg (by omega)]) t]
  obtain ⟨k2, i2, hk2, hi2, rfl⟩ : ∃ k2 i2, k2 < 4 ∧ i2 < 40 ∧ t = 40 * k2 + i2 := ⟨t / 40, t % 40, by omega, by omega, by omega⟩
  rw [cells_get hk2 hL2 hi2]
  by_cases e : k2 = p
  · subst e
    rw [show mc_up a (5 + k2) (mc_cpy (a (5 + k)) (a (5 + k2)) I J G) (5 + k2) = mc_cpy (a (5 + k)) (a (5 + k2)) I J G from up_at, cpy_get (by rw [hL.2.2.2.2.2 k2 hk2]; exact hi2)]
    by_cases c : J ≤ i2 ∧ i2 < J + G
    · rw [if_pos (by omega), if_pos c, show 40 * k + I + (40 * k2 + i2 - (40 * k2 + J)) = 40 * k + (I + (i2 - J)) by omega, cells_get hk hL (by omega)]
    · rw [if_neg (by omega), if_neg c, cells_get hk2 hL hi2]
  · rw [if_neg (by omega), cells_get hk2 hL hi2]
    unfold mc_up
    rw [if_neg (by omega)]
theorem mis_iff {s : Nat → Int32} {k : Nat} : xmis s k = true ↔ s (11 + 2 * k) = -1 := by unfold xmis; rw [beq_iff_eq]
theorem eq_cyr {s : Nat → Int32} {a : Nat → List Int32} {t3 t4 t5 : List Int32} {k p : Nat} {i j g : Int32} (hk : k < 4) (hp : p < 4) (hS : xS s) : ycyr (Bs s a t3 t4 t5) (nI k) i (nI p) j g = xcyr s k p i j g := by
  unfold ycyr xcyr
  rw [if_neg (show ¬ (mc_wi (nI k) 0 3 = false ∨ mc_wi (nI p) 0 3 = false) by rw [wi_nk hk, wi_nk hp]; decide), (Bs_so hk).1, (Bs_so hp).1, (Bs_so hk).2, (Bs_so hp).2]
  by_cases m : xmis s k = true
  · rw [if_pos (Or.inl (mis_iff.mp m)), if_pos m]
  · rw [if_neg m]
    by_cases m2 : xmis s p = true
    · rw [if_pos (Or.inr (mis_iff.mp m2)), if_pos m2]
    · rw [if_neg m2, if_neg (fun q => q.elim (fun q => m (mis_iff.mpr q)) (fun q => m2 (mis_iff.mpr q)))]
      by_cases e : s (11 + 2 * k) = s (11 + 2 * p)
      · have ee : ¬ ¬ s (11 + 2 * k) = s (11 + 2 * p) := fun q => q e
        rw [if_neg ee, if_neg ee]
        have r := rnc_iff (i := i) (j := j) (g := g) (hS k hk) (hS p hp)
        by_cases c : xrun i g (s (12 + 2 * k)) = true ∧ xrun j g (s (12 + 2 * p)) = true
        · rw [if_neg (r.mpr c), if_neg (by rw [c.1]; decide), if_neg (by rw [c.2]; decide)]
        · rw [if_pos (Classical.not_not.mp (fun q => c (r.mp q)))]
          by_cases c1 : xrun i g (s (12 + 2 * k)) = false
          · rw [if_pos c1]
          · rw [if_neg c1, if_pos]
            rw [← Bool.not_eq_true]
            exact fun q => c ⟨by simpa using c1, q⟩
      · rw [if_pos e, if_pos e]
theorem eq_copy {s : Nat → Int32} {a : Nat → List Int32} {t3 t4 t5 : List Int32} {k p : Nat} {i j g : Int32} (hk : k < 4) (hp : p < 4) (hL : xL a) (hS : xS s) :
    ycy1 (Bs s a t3 t4 t5) (nI k) i (nI p) j g = xcy1 s k p i j g ∧ ycyb (Bs s a t3 t4 t5) (nI k) i (nI p) j g = Bs s (xcya s a k p i j g) t3 t4 t5 := by
  have e := eq_cyr (a := a) (t3 := t3) (t4 := t4) (t5 := t5) (i := i) (j := j) (g := g) hk hp hS
  refine ⟨by unfold ycy1 xcy1; rw [e], ?_⟩
  unfold ycyb xcya
  rw [e]
  by_cases c : xcyr s k p i j g = 0
  · rw [if_pos c, if_pos c]
    have c2 : xrun i g (s (12 + 2 * k)) = true ∧ xrun j g (s (12 + 2 * p)) = true := by
      unfold xcyr at c
      by_cases m : xmis s k = true
      · rw [if_pos m] at c; exact absurd c (by decide)
      · rw [if_neg m] at c
        by_cases m2 : xmis s p = true
        · rw [if_pos m2] at c; exact absurd c (by decide)
        · rw [if_neg m2] at c
          by_cases m3 : s (11 + 2 * k) = s (11 + 2 * p)
          · rw [if_neg (fun q => q m3)] at c
            by_cases m4 : xrun i g (s (12 + 2 * k)) = false
            · rw [if_pos m4] at c; exact absurd c (by decide)
            · rw [if_neg m4] at c
              by_cases m5 : xrun j g (s (12 + 2 * p)) = false
              · rw [if_pos m5] at c; exact absurd c (by decide)
              · exact ⟨by simpa using m4, by simpa using m5⟩
          · rw [if_pos m3] at c; exact absurd c (by decide)
    have r1 := (run_iff (hS k hk)).mp c2.1
    have r2 := (run_iff (hS p hp)).mp c2.2
    have b1 := (hS k hk).2
    have b2 := (hS p hp).2
    obtain ⟨I, hI⟩ : ∃ n, i.toNatClampNeg = n := ⟨_, rfl⟩
    obtain ⟨J, hJ⟩ : ∃ n, j.toNatClampNeg = n := ⟨_, rfl⟩
    obtain ⟨G, hG⟩ : ∃ n, g.toNatClampNeg = n := ⟨_, rfl⟩
    have ti := tnc r1.1
    have tj := tnc r2.1
    have tg := tnc r1.2.1
    have ei : i = nI I := by rw [← hI]; exact nI_back r1.1
    have ej : j = nI J := by rw [← hJ]; exact nI_back r2.1
    have eg : g = nI G := by rw [← hG]; exact nI_back r1.2.1
    have q1 : I + G ≤ 40 := by omega
    have q2 : J + G ≤ 40 := by omega
    unfold xcpa
    rw [hI, hJ, hG, ei, ej, show (40 : Int32) * nI k + nI I = nI (40 * k + I) by rw [show (40 : Int32) * nI k = nI (40 * k) from pk_mul 40 k, nI_add], show (40 : Int32) * nI p + nI J = nI (40 * p + J) by rw [show (40 : Int32) * nI p = nI (40 * p) from pk_mul 40 p, nI_add], nIc (by omega), nIc (by omega), Bs_c9, cells_cpy hk hp hL q1 q2, Bs_9 hp]
  · rw [if_neg c, if_neg c]
