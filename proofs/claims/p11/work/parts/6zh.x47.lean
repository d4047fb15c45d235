/-! ===== debts: clear, pay, taken ===== -/
/-- what folk owe: within bounds, nobody himself -/
def yO (l : List Int32) : Prop := l.length = 36 ∧ (∀ i, i < 36 → 0 ≤ (l.getD i 0).toInt ∧ (l.getD i 0).toInt ≤ 9999) ∧ ∀ f, f < 6 → l.getD (7 * f) 0 = 0
theorem wi_05 : ∀ f, f < 6 → mc_wi (nI f) 0 5 = true := by decide +kernel
theorem fo_nI : ∀ f, f < 6 → ∀ g, g < 6 → yy_fo (nI f) (nI g) = decide (f ≠ g) := by decide +kernel
theorem oo_nI {f g : Nat} (hf : f < 6) (hg : g < 6) : (6 * nI f + nI g).toNatClampNeg = 6 * f + g := by
  rw [show (6 : Int32) * nI f = nI (6 * f) from pk_mul 6 f, nI_add, nIc (by omega)]
theorem xof_yow {o : List Int32} {f g : Nat} (hf : f < 6) (hg : g < 6) : xof o (nI f) (nI g) = yow o f g := by
  unfold xof yow gt
  rw [if_pos (by rw [wi_05 f hf, wi_05 g hg]; rfl), oo_nI hf hg]
theorem xmin_le (x y : Int32) : xmin x y = yy_le x y := by
  unfold xmin yy_le
  by_cases h : x < y
  · rw [if_pos h, if_neg (by rw [Int32.lt_iff_toInt_lt] at *; omega)]
  · rw [if_neg h]
    by_cases h2 : y < x
    · rw [if_pos h2]
    · rw [if_neg h2]
      exact Int32.toInt_inj.mp (by rw [Int32.lt_iff_toInt_lt] at *; omega)
theorem yle_t (x y : Int32) : (yy_le x y).toInt ≤ x.toInt ∧ (yy_le x y).toInt ≤ y.toInt ∧ ((yy_le x y).toInt = x.toInt ∨ (yy_le x y).toInt = y.toInt) := by
  unfold yy_le
  split <;> rename_i h <;> rw [Int32.lt_iff_toInt_lt] at h <;> omega
theorem xlow_ysu {o : List Int32} {f g : Nat} {v : Int32} (hf : f < 6) (hg : g < 6) (h : f ≠ g) : xlow o (nI f) (nI g) v = ysu o f g v := by
  unfold xlow xbe ysu
  rw [if_pos (by rw [fo_nI f hf g hg]; exact decide_eq_true h), xof_yow hf hg, oo_nI hf hg]
theorem xlow_0 {o : List Int32} {f g : Nat} (hf : f < 6) (hg : g < 6) : xlow o (nI f) (nI g) 0 = o := by
  unfold xlow xbe
  split
  · rw [xof_yow hf hg, oo_nI hf hg, Int32.sub_zero]
    exact set_gD2
  · rfl
theorem xcv2_eq {o : List Int32} {f g : Nat} (hf : f < 6) (hg : g < 6) : xcv2 o (nI f) (nI g) = ycv2 o f g := by
  unfold xcv2 ycv2
  rw [xmin_le, xof_yow hf hg, xof_yow hg hf]
theorem xcl2_eq {o : List Int32} {f g : Nat} (hf : f < 6) (hg : g < 6) (h : f ≠ g) : xcl2 o (nI f) (nI g) = ycl2 o f g := by
  unfold xcl2 ycl2
  rw [xcv2_eq hf hg, xlow_ysu hf hg h, xlow_ysu hg hf (fun q => h q.symm)]
theorem xcg_eq {f : Nat} (hf : f < 6) : ∀ t g S o, f < g → g + t ≤ 6 → xcg f t g S o = ycg f t g S o := by
  intro t
  induction t with
  | zero => intro g S o h1 h2; rfl
  | succ t ih =>
    intro g S o h1 h2
    simp only [xcg, ycg]
    rw [xcv2_eq hf (by omega), xcl2_eq hf (by omega) (by omega)]
    exact ih (g + 1) _ _ (by omega) (by omega)
theorem xcf_eq : ∀ t f S o, f + t ≤ 6 → xcf t f S o = ycf t f S o := by
  intro t
  induction t with
  | zero => intro f S o h; rfl
  | succ t ih =>
    intro f S o h
    simp only [xcf, ycf]
    rw [xcg_eq (f := f) (by omega) (5 - f) (f + 1) S o (by omega) (by omega)]
    exact ih (f + 1) _ _ (by omega)
theorem xcv3_eq {o : List Int32} {f g e : Nat} (hf : f < 6) (hg : g < 6) (he : e < 6) : xcv3 o (nI f) (nI g) (nI e) = ycv3 o f g e := by
  unfold xcv3 ycv3
  rw [xmin_le, xmin_le, xof_yow hf hg, xof_yow hg he, xof_yow he hf]
theorem xcl3_eq {o : List Int32} {f g e : Nat} (hf : f < 6) (hg : g < 6) (he : e < 6) (h1 : f ≠ g) (h2 : g ≠ e) (h3 : e ≠ f) : xcl3 o (nI f) (nI g) (nI e) = ycl3 o f g e := by
  unfold xcl3 ycl3
  rw [xcv3_eq hf hg he, xlow_ysu hf hg h1, xlow_ysu hg he h2, xlow_ysu he hf h3]
theorem yow_in {l : List Int32} (h : yO l) {f g : Nat} (hf : f < 6) (hg : g < 6) : 0 ≤ (yow l f g).toInt ∧ (yow l f g).toInt ≤ 9999 := h.2.1 (6 * f + g) (by omega)
theorem yow_dg {l : List Int32} (h : yO l) {f : Nat} (hf : f < 6) : yow l f f = 0 := by
  have := h.2.2 f hf
  unfold yow
  rw [show 6 * f + f = 7 * f by omega]; exact this
theorem xcl3_skip {o : List Int32} (h : yO o) {f g e : Nat} (hf : f < 6) (hg : g < 6) (he : e < 6) (c : f = g ∨ g = e ∨ f = e) : xcv3 o (nI f) (nI g) (nI e) = 0 ∧ xcl3 o (nI f) (nI g) (nI e) = o := by
  have v0 : ycv3 o f g e = 0 := by
    have a1 := yow_in h hf hg
    have a2 := yow_in h hg he
    have a3 := yow_in h he hf
    have b1 := yle_t (yow o g e) (yow o e f)
    have b2 := yle_t (yow o f g) (yy_le (yow o g e) (yow o e f))
    refine Int32.toInt_inj.mp ?_
    show (ycv3 o f g e).toInt = 0
    unfold ycv3
    rcases c with c | c | c
    · subst c
      have d : (yow o f f).toInt = 0 := by rw [yow_dg h hf]; rfl
      omega
    · subst c
      have d : (yow o g g).toInt = 0 := by rw [yow_dg h hg]; rfl
      omega
    · subst c
      have d : (yow o f f).toInt = 0 := by rw [yow_dg h hf]; rfl
      omega
  have v1 : xcv3 o (nI f) (nI g) (nI e) = 0 := by rw [xcv3_eq hf hg he, v0]
  refine ⟨v1, ?_⟩
  unfold xcl3
  rw [v1, xlow_0 hf hg, xlow_0 hg he, xlow_0 he hf]
theorem yow_ysu {l : List Int32} {f g f2 g2 : Nat} {v : Int32} (hl : l.length = 36) (hf : f < 6) (hg : g < 6) (hf2 : f2 < 6) (hg2 : g2 < 6) (h : ¬ (f2 = f ∧ g2 = g)) : yow (ysu l f g v) f2 g2 = yow l f2 g2 := by
  unfold ysu
  show (l.set (6 * f + g) (yow l f g - v)).getD (6 * f2 + g2) 0 = _
  rw [gDs (by omega), if_neg (by omega)]; rfl
theorem yO_set {l : List Int32} {f g : Nat} {v : Int32} (h : yO l) (hf : f < 6) (hg : g < 6) (hne : f ≠ g) (hv : 0 ≤ v.toInt ∧ v.toInt ≤ 9999) : yO (l.set (6 * f + g) v) := by
  have hl := h.1
  refine ⟨by rw [List.length_set]; exact h.1, fun i hi => ?_, fun k hk => ?_⟩
  · rw [gDs (by omega)]
    split
    · exact hv
    · exact h.2.1 i hi
  · rw [gDs (by omega), if_neg (by omega)]; exact h.2.2 k hk
theorem yO_ysu {l : List Int32} {f g : Nat} {v : Int32} (h : yO l) (hf : f < 6) (hg : g < 6) (hne : f ≠ g) (hv : 0 ≤ v.toInt ∧ v.toInt ≤ (yow l f g).toInt) : yO (ysu l f g v) := by
  have b := yow_in h hf hg
  have e : (yow l f g - v).toInt = (yow l f g).toInt - v.toInt := i32_sub (by omega) (by omega)
  exact yO_set h hf hg hne (by omega)
theorem ycl2_O {l : List Int32} {f g : Nat} (h : yO l) (hf : f < 6) (hg : g < 6) (hne : f ≠ g) : yO (ycl2 l f g) := by
  have a1 := yow_in h hf hg
  have a2 := yow_in h hg hf
  have b := yle_t (yow l f g) (yow l g f)
  have hv : 0 ≤ (ycv2 l f g).toInt ∧ (ycv2 l f g).toInt ≤ (yow l f g).toInt ∧ (ycv2 l f g).toInt ≤ (yow l g f).toInt := by unfold ycv2; omega
  unfold ycl2
  have h1 := yO_ysu h hf hg hne ⟨hv.1, hv.2.1⟩
  exact yO_ysu h1 hg hf (fun q => hne q.symm) ⟨hv.1, by rw [yow_ysu h.1 hf hg hg hf (by omega)]; exact hv.2.2⟩
theorem ycl3_O {l : List Int32} {f g e : Nat} (h : yO l) (hf : f < 6) (hg : g < 6) (he : e < 6) (h1 : f ≠ g) (h2 : g ≠ e) (h3 : e ≠ f) : yO (ycl3 l f g e) := by
  have a1 := yow_in h hf hg
  have a2 := yow_in h hg he
  have a3 := yow_in h he hf
  have b1 := yle_t (yow l g e) (yow l e f)
  have b2 := yle_t (yow l f g) (yy_le (yow l g e) (yow l e f))
  have hv : 0 ≤ (ycv3 l f g e).toInt ∧ (ycv3 l f g e).toInt ≤ (yow l f g).toInt ∧ (ycv3 l f g e).toInt ≤ (yow l g e).toInt ∧ (ycv3 l f g e).toInt ≤ (yow l e f).toInt := by unfold ycv3; omega
  unfold ycl3
  have k1 := yO_ysu h hf hg h1 ⟨hv.1, hv.2.1⟩
  have k2 := yO_ysu k1 hg he h2 ⟨hv.1, by rw [yow_ysu h.1 hf hg hg he (by omega)]; exact hv.2.2.1⟩
  exact yO_ysu k2 he hf h3 ⟨hv.1, by rw [yow_ysu k1.1 hg he he hf (by omega), yow_ysu h.1 hf hg he hf (by omega)]; exact hv.2.2.2⟩
theorem ycg_O {f : Nat} (hf : f < 6) : ∀ t g S l, f < g → g + t ≤ 6 → yO l → yO (ycg f t g S l).2 := by
  intro t
  induction t with
  | zero => intro g S l h1 h2 h; exact h
  | succ t ih =>
    intro g S l h1 h2 h
    simp only [ycg]
    exact ih (g + 1) _ _ (by omega) (by omega) (ycl2_O h hf (by omega) (by omega))
theorem ycf_O : ∀ t f S l, f + t ≤ 6 → yO l → yO (ycf t f S l).2 := by
  intro t
  induction t with
  | zero => intro f S l h1 h; exact h
  | succ t ih =>
    intro f S l h1 h
    simp only [ycf]
    exact ih (f + 1) _ _ (by omega) (ycg_O (by omega) _ _ _ _ (by omega) (by omega) h)
theorem flat1 {f g : Nat} (hf : f < 6) (hg : g < 6) : ∀ t e R S l, e + t = 6 → yO l → yct (t + R) (36 * f + 6 * g + e) S l = yct R (36 * f + 6 * g + 6) (xt1 f g t e S l).1 (xt1 f g t e S l).2 ∧ yO (xt1 f g t e S l).2 := by
  intro t
  induction t with
  | zero =>
    intro e R S l he h
    have : e = 6 := by omega
    subst this
    rw [Nat.zero_add]; exact ⟨rfl, h⟩
  | succ t ih =>
    intro e R S l he h
    have he6 : e < 6 := by omega
    rw [show t + 1 + R = (t + R) + 1 by omega]
    simp only [yct, xt1]
    rw [show (36 * f + 6 * g + e) / 36 = f by omega, show (36 * f + 6 * g + e) / 6 % 6 = g by omega, show (36 * f + 6 * g + e) % 6 = e by omega]
    by_cases c : f = g ∨ g = e ∨ f = e
    · have k := xcl3_skip h hf hg he6 c
      rw [if_pos c, k.1, k.2, show S + 3 * 0 = S by rw [Int32.mul_zero, Int32.add_zero]]
      exact ih (e + 1) R S l (by omega) h
    · rw [if_neg c, xcv3_eq hf hg he6, xcl3_eq hf hg he6 (by omega) (by omega) (by omega)]
      exact ih (e + 1) R _ _ (by omega) (ycl3_O h hf hg he6 (by omega) (by omega) (by omega))
theorem flat2 {f : Nat} (hf : f < 6) : ∀ t g R S l, g + t = 6 → yO l → yct (6 * t + R) (36 * f + 6 * g) S l = yct R (36 * f + 36) (xt2 f t g S l).1 (xt2 f t g S l).2 ∧ yO (xt2 f t g S l).2 := by
  intro t
  induction t with
  | zero =>
    intro g R S l hg h
    have : g = 6 := by omega
    subst this
    rw [show 6 * 0 + R = R by omega]; exact ⟨rfl, h⟩
  | succ t ih =>
    intro g R S l hg h
    have k := flat1 hf (by omega : g < 6) 6 0 (6 * t + R) S l (by omega) h
    rw [show 6 * (t + 1) + R = 6 + (6 * t + R) by omega, show 36 * f + 6 * g = 36 * f + 6 * g + 0 by omega, k.1, show 36 * f + 6 * g + 6 = 36 * f + 6 * (g + 1) by omega]
    simp only [xt2]
    exact ih (g + 1) R _ _ (by omega) k.2
theorem flat3 : ∀ t f S l, f + t = 6 → yO l → yct (36 * t) (36 * f) S l = ((xt3 t f S l).1, (xt3 t f S l).2) ∧ yO (xt3 t f S l).2 := by
  intro t
  induction t with
  | zero => intro f S l hf h; exact ⟨rfl, h⟩
  | succ t ih =>
    intro f S l hf h
    have k := flat2 (by omega : f < 6) 6 0 (36 * t) S l (by omega) h
    rw [show 36 * (t + 1) = 6 * 6 + 36 * t by omega, show 36 * f = 36 * f + 6 * 0 by omega, k.1, show 36 * f + 36 = 36 * (f + 1) by omega]
    simp only [xt3]
    exact ih (f + 1) _ _ (by omega) k.2
theorem xt1_add {f g : Nat} {S0 : Int32} : ∀ t e S l, xt1 f g t e (S0 + S) l = (S0 + (xt1 f g t e S l).1, (xt1 f g t e S l).2) := by
  intro t
  induction t with
  | zero => intro e S l; rfl
  | succ t ih => intro e S l; simp only [xt1]; rw [Int32.add_assoc]; exact ih _ _ _
theorem xt2_add {f : Nat} {S0 : Int32} : ∀ t g S l, xt2 f t g (S0 + S) l = (S0 + (xt2 f t g S l).1, (xt2 f t g S l).2) := by
  intro t
  induction t with
  | zero => intro e S l; rfl
  | succ t ih => intro e S l; simp only [xt2]; rw [xt1_add]; exact ih _ _ _
theorem xt3_add {S0 : Int32} : ∀ t f S l, xt3 t f (S0 + S) l = (S0 + (xt3 t f S l).1, (xt3 t f S l).2) := by
  intro t
  induction t with
  | zero => intro e S l; rfl
  | succ t ih => intro e S l; simp only [xt3]; rw [xt2_add]; exact ih _ _ _
theorem eq_clear {o : List Int32} (h : yO o) : xclear o = yclear o ∧ yO (xclear o).2 := by
  have h1 := ycf_O 6 0 0 o (by omega) h
  have k := flat3 6 0 (ycf 6 0 0 o).1 (ycf 6 0 0 o).2 (by omega) h1
  have ka := xt3_add (S0 := (ycf 6 0 0 o).1) 6 0 0 (ycf 6 0 0 o).2
  rw [Int32.add_zero] at ka
  have e : xclear o = yclear o := by
    unfold xclear yclear
    rw [xcf_eq 6 0 0 o (by omega)]
    rw [show (216 : Nat) = 36 * 6 from rfl, show yct (36 * 6) 0 (ycf 6 0 0 o).1 (ycf 6 0 0 o).2 = _ from k.1, ka]
  refine ⟨e, ?_⟩
  have k2 := k.2
  rw [ka] at k2
  unfold xclear
  rw [xcf_eq 6 0 0 o (by omega)]
  exact k2
/-! pay -/
theorem div_neg {x y : Int32} (hx : x < 0) (hy : y = 10 ∨ y = 100) : (x / y).toInt ≤ 0 := by
  rw [Int32.lt_iff_toInt_lt, i0] at hx
  have lo := Int32.le_toInt x
  rw [Int32.toInt_div]
  have ey : y.toInt = 10 ∨ y.toInt = 100 := by rcases hy with rfl | rfl <;> decide
  have hq : -2147483648 ≤ x.toInt.tdiv y.toInt ∧ x.toInt.tdiv y.toInt ≤ 0 := by
    obtain ⟨n, hn⟩ : ∃ n : Nat, x.toInt = -(n : Int) := ⟨x.toInt.natAbs, by omega⟩
    rw [hn, Int.neg_tdiv]
    rcases ey with ey | ey <;> rw [ey]
    · have : (n : Int).tdiv 10 = ((n / 10 : Nat) : Int) := rfl
      rw [this]
      omega
    · have : (n : Int).tdiv 100 = ((n / 100 : Nat) : Int) := rfl
      rw [this]
      omega
  rw [Int.bmod_eq_of_le (by omega) (by omega)]
  exact hq.2
theorem rem_neg {x y : Int32} (hx : x < 0) (hy : y = 10 ∨ y = 100) (h0 : 0 ≤ (x / y).toInt) : (x - x / y * y).toInt < 0 := by
  have := div_neg hx hy
  have e : x / y = 0 := Int32.toInt_inj.mp (by rw [i0]; omega)
  rw [e, Int32.zero_mul, Int32.sub_zero]
  rwa [Int32.lt_iff_toInt_lt, i0] at hx
theorem fo_neg {fg : Int32} (h : fg < 0) : yy_fo (fg / 10) (fg - fg / 10 * 10) = false := by
  rw [← Bool.not_eq_true]
  intro q
  have w := fo_wi q
  rw [mc_wi_iff, mc_wi_iff, i0] at w
  have := rem_neg h (Or.inl rfl) w.1.1
  omega
theorem fo_two {f g : Int32} (h : yy_fo f g = true) : ∃ F G, F < 6 ∧ G < 6 ∧ F ≠ G ∧ f = nI F ∧ g = nI G := by
  have w := fo_wi h
  rw [mc_wi_iff, mc_wi_iff, i0, show (5 : Int32).toInt = 5 from rfl] at w
  have tf := tnc w.1.1
  have tg := tnc w.2.1
  have ef := nI_back w.1.1
  have eg := nI_back w.2.1
  refine ⟨f.toNatClampNeg, g.toNatClampNeg, by omega, by omega, fun q => ?_, ef, eg⟩
  have : f = g := by rw [ef, eg, q]
  subst this
  unfold yy_fo at h
  simp at h
theorem eq_pyc {s : Nat → Int32} {a : Nat → List Int32} {t3 t4 t5 : List Int32} {k fg mu : Int32} (hO : yO (a 3)) : ypyc (Ms s) (Bs s a t3 t4 t5) k fg mu = xpyc s a k fg mu := by
  unfold ypyc xpyc ypat
  show (if mc_wi k 0 (s 2 - 1) = false then (-6 : Int32) else if fg < 0 ∨ yy_fo (fg / 10) (fg - fg / 10 * 10) = false then -5 else if mc_wi mu 0 9999 = false then -7 else if gt (a 3) (6 * (fg / 10) + (fg - fg / 10 * 10)) < mu then -3 else 0) = _
  by_cases h1 : mc_wi k 0 (s 2 - 1) = false
  · rw [if_pos h1, if_pos h1]
  · rw [if_neg h1, if_neg h1]
    by_cases h2 : yy_fo (fg / 10) (fg - fg / 10 * 10) = false
    · rw [if_pos (Or.inr h2), if_pos h2]
    · rw [if_neg (fun q => q.elim (fun q => h2 (fo_neg q)) h2), if_neg h2]
      by_cases h3 : mc_wi mu 0 9999 = false
      · rw [if_pos h3, if_pos h3]
      · rw [if_neg h3, if_neg h3]
        rw [Bool.not_eq_false] at h2 h3
        obtain ⟨F, G, hF, hG, -, e1, e2⟩ := fo_two h2
        rw [e2, e1]
        have b := yow_in hO hF hG
        have eg : gt (a 3) (6 * nI F + nI G) = yow (a 3) F G := by unfold gt yow; rw [oo_nI hF hG]
        rw [eg]
        have m := mc_wi_iff.mp h3
        rw [i0, show (9999 : Int32).toInt = 9999 from rfl] at m
        have e : (yow (a 3) F G - mu).toInt = (yow (a 3) F G).toInt - mu.toInt := i32_sub (by omega) (by omega)
        have c : yow (a 3) F G < mu ↔ yow (a 3) F G - mu < 0 := by rw [Int32.lt_iff_toInt_lt, Int32.lt_iff_toInt_lt, e, i0]; omega
        by_cases h4 : yow (a 3) F G < mu
        · rw [if_pos h4, if_pos (c.mp h4)]
        · rw [if_neg h4, if_neg (fun q => h4 (c.mpr q))]
theorem eq_pay {s : Nat → Int32} {a : Nat → List Int32} {t3 t4 t5 : List Int32} {k fg mu : Int32} (hO : yO (a 3)) :
    ypay (Ms s) (Bs s a t3 t4 t5) k fg mu = xpay s a (yseg (Bs s a t3 t4 t5) (tl s)) k fg mu ∧ ypyb (Ms s) (Bs s a t3 t4 t5) k fg mu = Bs s (xpya s a (yseg (Bs s a t3 t4 t5) (tl s)) k fg mu) t3 t4 t5 := by
  have e := eq_pyc (s := s) (t3 := t3) (t4 := t4) (t5 := t5) (k := k) (fg := fg) (mu := mu) hO
  have ev : ypyv (Ms s) (Bs s a t3 t4 t5) k fg mu = xpyv s a (yseg (Bs s a t3 t4 t5) (tl s)) k fg mu := rfl
  refine ⟨by unfold ypay xpay; rw [e, ev], ?_⟩
  unfold ypyb xpya
  rw [e, ev]
  by_cases c : xpyc s a k fg mu = 0
  · rw [if_pos c, if_pos c, Bs_3]; rfl
  · rw [if_neg c, if_neg c]
theorem pay_O {s : Nat → Int32} {a : Nat → List Int32} {sg : Nat → List Int32} {k fg mu : Int32} (hO : yO (a 3)) : xpya s a sg k fg mu = a ∨ ∃ l, yO l ∧ xpya s a sg k fg mu = mc_up a 3 l := by
  unfold xpya
  by_cases c : xpyc s a k fg mu = 0
  · rw [if_pos c]
    refine Or.inr ⟨_, ?_, rfl⟩
    unfold xpyc at c
    by_cases h1 : mc_wi k 0 (s 2 - 1) = false
    · rw [if_pos h1] at c; exact absurd c (by decide)
    · rw [if_neg h1] at c
      by_cases h2 : yy_fo (fg / 10) (fg - fg / 10 * 10) = false
      · rw [if_pos h2] at c; exact absurd c (by decide)
      · rw [if_neg h2] at c
        by_cases h3 : mc_wi mu 0 9999 = false
        · rw [if_pos h3] at c; exact absurd c (by decide)
        · rw [if_neg h3] at c
          rw [Bool.not_eq_false] at h2 h3
          unfold xpyv
          obtain ⟨F, G, hF, hG, hne, e1, e2⟩ := fo_two h2
          rw [e2, e1] at c ⊢
          have b := yow_in hO hF hG
          have eg : gt (a 3) (6 * nI F + nI G) = yow (a 3) F G := by unfold gt yow; rw [oo_nI hF hG]
          rw [eg] at c ⊢
          rw [oo_nI hF hG]
          have m := mc_wi_iff.mp h3
          rw [i0, show (9999 : Int32).toInt = 9999 from rfl] at m
          have e : (yow (a 3) F G - mu).toInt = (yow (a 3) F G).toInt - mu.toInt := i32_sub (by omega) (by omega)
          have c4 : ¬ yow (a 3) F G - mu < 0 := fun q => by rw [if_pos q] at c; exact absurd c (by decide)
          rw [Int32.lt_iff_toInt_lt, e, i0] at c4
          refine yO_set hO hF hG hne ?_
          split
          · unfold yy_wn
            split
            · decide
            · split
              · decide
              · rename_i q1 q2
                rw [Int32.lt_iff_toInt_lt] at q1 q2
                rw [i0] at q1
                rw [show (9999 : Int32).toInt = 9999 from rfl] at q2
                omega
          · omega
  · rw [if_neg c]; exact Or.inl rfl
/-! taken -/
theorem un_6 : ∀ k, k < 6 → yy_un (nI k) 6 = false := by decide +kernel
theorem all_ks {s : Nat → Int32} {a : Nat → List Int32} {t3 t4 t5 : List Int32} {i : Int32} (h5 : 5 ≤ i.toInt) (h10 : i.toInt ≤ 10) : xall (a 3) (i - 5) = ytks (Bs s a t3 t4 t5) i := by
  have e : (i - 5).toInt = i.toInt - 5 := by rw [i32_sub (by omega) (by decide)]; rfl
  obtain ⟨n, hn⟩ : ∃ n, (i - 5).toNatClampNeg = n := ⟨_, rfl⟩
  have ti := tnc (x := i - 5) (by omega)
  have ei : i - 5 = nI n := by rw [← hn]; exact nI_back (by omega)
  have hn6 : n < 6 := by omega
  have w : mc_wi (i - 5) 0 5 = true := by rw [ei]; exact wi_05 n hn6
  have g : ∀ j, mc_wi j 0 5 = true → xof (a 3) (i - 5) j = gt (Bs s a t3 t4 t5 2) (6 * (i - 5) + j) := fun j hj => by unfold xof; rw [if_pos (by rw [w, hj]; rfl)]; rfl
  unfold xall ytks
  rw [g 0 (by decide), g 1 (by decide), g 2 (by decide), g 3 (by decide), g 4 (by decide), g 5 (by decide)]
theorem eq_taken {s : Nat → Int32} {a : Nat → List Int32} {t3 t4 t5 : List Int32} {i k : Int32} (hC : yC s) (hK : xK s a) : xtk s a i k = ytk (Ms s) (Bs s a t3 t4 t5) i k := by
  unfold xtk ytk
  by_cases h1 : mc_wi k 0 6 = false
  · rw [if_pos h1, if_pos h1]
  rw [if_neg h1, if_neg h1]
  by_cases h2 : mc_wi i 0 10 = false
  · rw [if_pos h2, if_pos h2]
  rw [if_neg h2, if_neg h2]
  rw [Bool.not_eq_false, mc_wi_iff, i0] at h1 h2
  rw [show (10 : Int32).toInt = 10 from rfl] at h2
  rw [show (6 : Int32).toInt = 6 from rfl] at h1
  by_cases h3 : i < 5
  · rw [if_pos h3, if_neg (Int32.not_le.mpr h3)]
    rw [Int32.lt_iff_toInt_lt, show (5 : Int32).toInt = 5 from rfl] at h3
    have c : mc_wi i 0 (s 2 - 1) = true ↔ i < Ms s 2 := by
      have hC1 := hC.1; have hC2 := hC.2
      rw [mc_wi_iff, i32_sub (by omega) (by decide), i0, i1, Int32.lt_iff_toInt_lt]
      show _ ↔ i.toInt < (s 2).toInt
      omega
    by_cases h4 : i < Ms s 2
    · rw [if_neg (by rw [c.mpr h4]; decide), if_pos h4]
      by_cases h6 : 6 ≤ k
      · rw [Int32.le_iff_toInt_le, show (6 : Int32).toInt = 6 from rfl] at h6
        have e6 : k = 6 := Int32.toInt_inj.mp (by rw [show (6 : Int32).toInt = 6 from rfl]; omega)
        subst e6
        have ti := tnc h2.1
        have hk := hK i.toNatClampNeg (by omega)
        have tk := tnc hk.1
        have ek := nI_back hk.1
        have : yy_un (gt (a 0) i) 6 = false := by
          show yy_un ((a 0).getD i.toNatClampNeg 0) 6 = false
          rw [ek]; exact un_6 _ (by omega)
        rw [if_neg (by rw [this]; decide), if_pos (by decide)]
      · rw [if_neg h6]; rfl
    · rw [if_pos (by rw [← Bool.not_eq_true]; exact fun q => h4 (c.mp q)), if_neg h4]
  · rw [if_neg h3, if_pos (Int32.not_lt.mp h3)]
    rw [Int32.lt_iff_toInt_lt, show (5 : Int32).toInt = 5 from rfl] at h3
    rw [all_ks (t3 := t3) (t4 := t4) (t5 := t5) (s := s) (by omega) (by omega)]
