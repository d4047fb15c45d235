/-! ===== rings, on both sides: the bits of a row ===== -/
def zb (x : Int32) (i : Nat) : Bool := x.toBitVec.getLsbD i
theorem zb_ext {x y : Int32} (h : ∀ i, i < 32 → zb x i = zb y i) : x = y := Int32.toBitVec_inj.mp (BitVec.eq_of_getLsbD_eq (fun i hi => h i hi))
theorem zb_or (x y : Int32) (i : Nat) : zb (x ||| y) i = (zb x i || zb y i) := by unfold zb; rw [Int32.toBitVec_or, BitVec.getLsbD_or]
theorem zb_and (x y : Int32) (i : Nat) : zb (x &&& y) i = (zb x i && zb y i) := by unfold zb; rw [Int32.toBitVec_and, BitVec.getLsbD_and]
theorem zb_0 (i : Nat) : zb 0 i = false := BitVec.getLsbD_zero
theorem zb_one : ∀ f, f < 6 → ∀ i, i < 32 → zb ((1 : Int32) <<< (nI f &&& 31)) i = decide (i = f) := by decide +kernel
theorem zb_u1 : ∀ i, i < 32 → zb 1 i = decide (i = 0) := by decide +kernel
theorem zb_am : ∀ n, n < 6 → ((nI n &&& 31).toBitVec.smod 32).toNat = n := by decide +kernel
theorem zb_s0 {x : Int32} {f : Nat} (hf : f < 6) : zb (x >>> (nI f &&& 31)) 0 = zb x f := by
  unfold zb
  rw [Int32.toBitVec_shiftRight]
  show (x.toBitVec.sshiftRight ((nI f &&& 31).toBitVec.smod 32).toNat).getLsbD 0 = _
  rw [zb_am f hf, BitVec.getLsbD_sshiftRight]
  simp [show f < 32 by omega]
theorem zb_sh {x : Int32} {f : Nat} (hf : f < 6) : ((x >>> (nI f &&& 31)) &&& 1 = 1) ↔ zb x f = true := by
  have e := zb_s0 (x := x) hf
  constructor
  · intro h
    have q : zb ((x >>> (nI f &&& 31)) &&& 1) 0 = true := by rw [h]; decide +kernel
    rw [zb_and, e, Bool.and_eq_true] at q
    exact q.1
  · intro h
    refine zb_ext (fun i hi => ?_)
    rw [zb_and, zb_u1 i hi]
    by_cases c : i = 0
    · subst c; rw [e, h]; rfl
    · rw [decide_eq_false c, Bool.and_false]
theorem zb_if {c : Prop} {f i : Nat} (hf : f < 6) (hi : i < 6) (d : Decidable c) : zb (@ite _ c d ((1 : Int32) <<< (nI f &&& 31)) 0) i = (decide (i = f) && @decide c d) := by
  by_cases h : c
  · rw [if_pos h, zb_one f hf i (by omega), decide_eq_true h, Bool.and_true]
  · rw [if_neg h, zb_0, decide_eq_false h, Bool.and_false]
/-- who owes whom -/
def zE (o : List Int32) (f g : Nat) : Bool := decide (0 < yow o f g)
theorem xro_b {o : List Int32} {f : Nat} (hf : f < 6) : ∀ k g S, g + k = 6 → ∀ i, i < 6 → zb (xro o f k g S) i = (zb S i || (decide (g ≤ i) && zE o f i)) := by
  intro k
  induction k with
  | zero =>
    intro g S hg i hi
    rw [decide_eq_false (show ¬ g ≤ i by omega), Bool.false_and, Bool.or_false]; rfl
  | succ k ih =>
    intro g S hg i hi
    show zb (xro o f k (g + 1) (S ||| (if 0 < xof o (nI f) (nI g) then (1 : Int32) <<< (nI g &&& 31) else 0))) i = _
    rw [ih (g + 1) _ (by omega) i hi, zb_or, zb_if (by omega) hi, xof_yow hf (by omega)]
    by_cases e : i = g
    · subst e
      rw [decide_eq_true (rfl : i = i), decide_eq_false (show ¬ i + 1 ≤ i by omega), decide_eq_true (Nat.le_refl i)]
      unfold zE
      simp
    · rw [decide_eq_false e, show decide (g + 1 ≤ i) = decide (g ≤ i) by rw [decide_eq_decide]; omega]
      simp
theorem xr2_b {o r : List Int32} (hr : r.length = 6) {j i : Nat} (hj : j < 6) (hi : i < 6) : zb ((xr2 o 6 0 r).getD j 0) i = zE o j i := by
  rw [xr2_get o 6 0 r j (by omega), if_pos ⟨Nat.zero_le _, by omega⟩, xro_b hj 6 0 0 (by omega) i hi, zb_0]
  simp
/-- by way of those below k -/
def zW (E : Nat → Nat → Bool) : Nat → Nat → Nat → Bool
  | 0, f, g => E f g
  | k + 1, f, g => zW E k f g || (zW E k f k && zW E k k g)
theorem zW_m {E : Nat → Nat → Bool} : ∀ k f g, E f g = true → zW E k f g = true := by
  intro k
  induction k with
  | zero => intro f g h; exact h
  | succ k ih => intro f g h; simp only [zW]; rw [ih f g h, Bool.true_or]
theorem zW_t {E : Nat → Nat → Bool} : ∀ k f m g, m < k → zW E k f m = true → zW E k m g = true → zW E k f g = true := by
  intro k
  induction k with
  | zero => intro f m g h; omega
  | succ k ih =>
    intro f m g hm h1 h2
    simp only [zW, Bool.or_eq_true, Bool.and_eq_true] at h1 h2 ⊢
    by_cases e : m = k
    · subst e
      have p : zW E m f m = true := h1.elim id (fun q => q.1)
      have q : zW E m m g = true := h2.elim id (fun q => q.2)
      exact Or.inr ⟨p, q⟩
    · have hm2 : m < k := by omega
      rcases h1 with h1 | ⟨h1, h3⟩
      · rcases h2 with h2 | ⟨h2, h4⟩
        · exact Or.inl (ih f m g hm2 h1 h2)
        · exact Or.inr ⟨ih f m k hm2 h1 h2, h4⟩
      · rcases h2 with h2 | ⟨h2, h4⟩
        · exact Or.inr ⟨h1, ih k m g hm2 h3 h2⟩
        · exact Or.inr ⟨h1, h4⟩
theorem xr3_b {y : Nat} (hy : y < 6) {B : Nat → Nat → Bool} : ∀ k f r, f + k = 6 → r.length = 6 → (∀ j i, j < 6 → i < 6 → zb (r.getD j 0) i = if j < f then (B j i || (B j y && B y i)) else B j i) → ∀ j i, j < 6 → i < 6 → zb ((xr3 y k f r).getD j 0) i = (B j i || (B j y && B y i)) := by
  intro k
  induction k with
  | zero =>
    intro f r hf hr h j i hj hi
    have := h j i hj hi
    rw [if_pos (by omega)] at this
    exact this
  | succ k ih =>
    intro f r hf hr h
    have hf6 : f < 6 := by omega
    show ∀ j i, j < 6 → i < 6 → zb ((xr3 y k (f + 1) (r.set f (r.getD f 0 ||| (if (r.getD f 0 >>> (nI y &&& 31)) &&& 1 = 1 then r.getD y 0 else 0)))).getD j 0) i = _
    refine ih (f + 1) _ (by omega) (by rw [List.length_set]; exact hr) (fun j i hj hi => ?_)
    rw [gD_set (by omega)]
    by_cases e : j = f
    · subst e
      rw [if_pos rfl, if_pos (Nat.lt_succ_self j), zb_or]
      have b1 := h j i hf6 hi
      have b2 := h j y hf6 hy
      rw [if_neg (Nat.lt_irrefl j)] at b1 b2
      have b3 : zb (r.getD y 0) i = B y i := by
        rw [h y i hy hi]
        split
        · cases B y i <;> cases B y y <;> rfl
        · rfl
      rw [b1]
      by_cases c : (r.getD j 0 >>> (nI y &&& 31)) &&& 1 = 1
      · rw [if_pos c, b3]
        rw [zb_sh hy, b2] at c
        rw [c, Bool.true_and]
      · rw [if_neg c, zb_0]
        rw [zb_sh hy, b2, Bool.not_eq_true] at c
        rw [c, Bool.false_and]
    · rw [if_neg e, h j i hj hi]
      by_cases c : j < f
      · rw [if_pos c, if_pos (by omega)]
      · rw [if_neg c, if_neg (by omega)]
theorem xr4_b {E : Nat → Nat → Bool} : ∀ k y r, y + k = 6 → r.length = 6 → (∀ j i, j < 6 → i < 6 → zb (r.getD j 0) i = zW E y j i) → ∀ j i, j < 6 → i < 6 → zb ((xr4 k y r).getD j 0) i = zW E 6 j i := by
  intro k
  induction k with
  | zero =>
    intro y r hy hr h j i hj hi
    have : y = 6 := by omega
    subst this
    exact h j i hj hi
  | succ k ih =>
    intro y r hy hr h
    show ∀ j i, j < 6 → i < 6 → zb ((xr4 k (y + 1) (xr3 y 6 0 r)).getD j 0) i = _
    refine ih (y + 1) _ (by omega) (by rw [xr3_len]; exact hr) (fun j i hj hi => ?_)
    exact xr3_b (by omega) (B := zW E y) 6 0 r (by omega) hr (fun j i hj hi => by rw [if_neg (by omega)]; exact h j i hj hi) j i hj hi
theorem xreach_b {o r : List Int32} (hr : r.length = 6) {j i : Nat} (hj : j < 6) (hi : i < 6) : zb ((xreach o r).getD j 0) i = zW (zE o) 6 j i := by
  unfold xreach
  exact xr4_b 6 0 _ (by omega) (by rw [xr2_len]; exact hr) (fun j i hj hi => xr2_b hr hj hi) j i hj hi
/-! the other side: pass by pass -/
theorem yrS_b {o : List Int32} {F a i : Nat} {s : Int32} (hF : F < 6) (ha : a < 6) (hi : i < 6) {j : Nat} (hj : j < 6) : zb (yrS o (nI F) a s i) j = true ↔ zb s j = true ∨ (j = i ∧ (a = F ∨ zb s a = true) ∧ zE o a i = true) := by
  unfold yrS
  rw [zb_or, zb_if hi hj, Bool.or_eq_true, Bool.and_eq_true, decide_eq_true_eq, decide_eq_true_eq, zb_sh ha, nI_eq (by omega) (by omega)]
  unfold zE yow
  rw [decide_eq_true_eq]
theorem yr1_b {o : List Int32} {F a : Nat} (hF : F < 6) (ha : a < 6) : ∀ g i s, i + g = 6 →
    (∀ j, j < 6 → zb s j = true → zb (yr1 o (nI F) a g i s) j = true) ∧
    (∀ j, i ≤ j → j < 6 → (a = F ∨ zb s a = true) → zE o a j = true → zb (yr1 o (nI F) a g i s) j = true) ∧
    (∀ R : Nat → Prop, (∀ j, j < 6 → zb s j = true → R j) → (∀ j, j < 6 → (a = F ∨ R a) → zE o a j = true → R j) → ∀ j, j < 6 → zb (yr1 o (nI F) a g i s) j = true → R j) := by
  intro g
  induction g with
  | zero => intro i s hi; exact ⟨fun j _ h => h, fun j h1 h2 => by omega, fun R h _ => h⟩
  | succ g ih =>
    intro i s hi
    have hi6 : i < 6 := by omega
    obtain ⟨m, p, q⟩ := ih (i + 1) (yrS o (nI F) a s i) (by omega)
    have S := fun j (hj : j < 6) => yrS_b (o := o) (s := s) hF ha hi6 hj
    refine ⟨fun j hj h => m j hj ((S j hj).mpr (Or.inl h)), fun j h1 h2 h3 h4 => ?_, fun R h1 h2 => ?_⟩
    · by_cases e : j = i
      · subst e
        exact m j h2 ((S j h2).mpr (Or.inr ⟨rfl, h3, h4⟩))
      · exact p j (by omega) h2 (h3.imp id (fun q => (S a ha).mpr (Or.inl q))) h4
    · refine q R (fun j hj h => ?_) h2
      rcases (S j hj).mp h with h | ⟨rfl, h3, h4⟩
      · exact h1 j hj h
      · exact h2 j hj (h3.imp id (fun q => h1 a ha q)) h4
theorem yr2_b {o : List Int32} {F : Nat} (hF : F < 6) : ∀ g i s, i + g = 6 →
    (∀ j, j < 6 → zb s j = true → zb (yr2 o (nI F) g i s) j = true) ∧
    (∀ a j, i ≤ a → a < 6 → j < 6 → (a = F ∨ zb s a = true) → zE o a j = true → zb (yr2 o (nI F) g i s) j = true) ∧
    (∀ R : Nat → Prop, (∀ j, j < 6 → zb s j = true → R j) → (∀ a j, a < 6 → j < 6 → (a = F ∨ R a) → zE o a j = true → R j) → ∀ j, j < 6 → zb (yr2 o (nI F) g i s) j = true → R j) := by
  intro g
  induction g with
  | zero => intro i s hi; exact ⟨fun j _ h => h, fun a j h1 h2 => by omega, fun R h _ => h⟩
  | succ g ih =>
    intro i s hi
    have hi6 : i < 6 := by omega
    obtain ⟨m1, p1, q1⟩ := yr1_b (o := o) hF hi6 6 0 s (by omega)
    obtain ⟨m, p, q⟩ := ih (i + 1) (yr1 o (nI F) i 6 0 s) (by omega)
    refine ⟨fun j hj h => m j hj (m1 j hj h), fun a j h1 h2 h3 h4 h5 => ?_, fun R h1 h2 => ?_⟩
    · by_cases e : a = i
      · subst e
        exact m j h3 (p1 j (Nat.zero_le _) h3 h4 h5)
      · exact p a j (by omega) h2 h3 (h4.imp id (fun q => m1 a h2 q)) h5
    · exact q R (q1 R h1 (fun j hj => h2 i j hi6 hj)) h2
def zI (o : List Int32) (F : Nat) : Nat → Int32
  | 0 => 0
  | k + 1 => yr2 o (nI F) 6 0 (zI o F k)
theorem yr3_zI {o : List Int32} {F : Nat} : ∀ g k, yr3 o (nI F) g (zI o F k) = zI o F (k + g) := by
  intro g
  induction g with
  | zero => intro k; rfl
  | succ g ih =>
    intro k
    show yr3 o (nI F) g (zI o F (k + 1)) = _
    rw [ih (k + 1)]; congr 1; omega
def zn (x : Int32) (j : Nat) : Nat := if zb x j = true then 1 else 0
def zc (x : Int32) : Nat := zn x 0 + zn x 1 + zn x 2 + zn x 3 + zn x 4 + zn x 5
theorem zn_1 (x : Int32) (j : Nat) : zn x j ≤ 1 := by unfold zn; split <;> omega
theorem zn_m {x y : Int32} {j : Nat} (h : zb x j = true → zb y j = true) : zn x j ≤ zn y j := by
  unfold zn
  by_cases c : zb x j = true
  · rw [if_pos c, if_pos (h c)]; omega
  · rw [if_neg c]; omega
theorem zn_lt {x y : Int32} {j : Nat} (h : ¬ zb x j = true) (h2 : zb y j = true) : zn x j < zn y j := by
  unfold zn; rw [if_neg h, if_pos h2]; omega
theorem zc_lt {x y : Int32} (h : ∀ j, j < 6 → zb x j = true → zb y j = true) {j : Nat} (hj : j < 6) (h1 : ¬ zb x j = true) (h2 : zb y j = true) : zc x < zc y := by
  have q := zn_lt h1 h2
  have m0 := zn_m (h 0 (by decide)); have m1 := zn_m (h 1 (by decide)); have m2 := zn_m (h 2 (by decide))
  have m3 := zn_m (h 3 (by decide)); have m4 := zn_m (h 4 (by decide)); have m5 := zn_m (h 5 (by decide))
  unfold zc
  rcases (show j = 0 ∨ j = 1 ∨ j = 2 ∨ j = 3 ∨ j = 4 ∨ j = 5 by omega) with rfl | rfl | rfl | rfl | rfl | rfl <;> omega
/-- nothing is left to be added -/
def zcl (o : List Int32) (F : Nat) (s : Int32) : Prop := ∀ a j, a < 6 → j < 6 → (a = F ∨ zb s a = true) → zE o a j = true → zb s j = true
theorem zcl_or {o : List Int32} {F : Nat} (hF : F < 6) : ∀ n, (∃ k, k < n ∧ zcl o F (zI o F k)) ∨ n ≤ zc (zI o F n) := by
  intro n
  induction n with
  | zero => exact Or.inr (Nat.zero_le _)
  | succ n ih =>
    rcases ih with ⟨k, hk, h⟩ | ih
    · exact Or.inl ⟨k, by omega, h⟩
    · by_cases c : zcl o F (zI o F n)
      · exact Or.inl ⟨n, Nat.lt_succ_self n, c⟩
      · right
        obtain ⟨m, p, -⟩ := yr2_b (o := o) hF 6 0 (zI o F n) (by omega)
        have : ∃ a j, a < 6 ∧ j < 6 ∧ (a = F ∨ zb (zI o F n) a = true) ∧ zE o a j = true ∧ ¬ zb (zI o F n) j = true := by
          refine Classical.byContradiction (fun q => c (fun a j ha hj h1 h2 => ?_))
          exact Classical.byContradiction (fun h3 => q ⟨a, j, ha, hj, h1, h2, h3⟩)
        obtain ⟨a, j, ha, hj, h1, h2, h3⟩ := this
        have lt := zc_lt (x := zI o F n) (y := zI o F (n + 1)) (fun i hi hh => m i hi hh) hj h3 (p a j (Nat.zero_le _) ha hj h1 h2)
        omega
theorem zcl_W {o : List Int32} {F : Nat} {s : Int32} (h : zcl o F s) : ∀ k, k ≤ 6 → ∀ a j, a < 6 → j < 6 → (a = F ∨ zb s a = true) → zW (zE o) k a j = true → zb s j = true := by
  intro k
  induction k with
  | zero => intro hk a j ha hj h1 h2; exact h a j ha hj h1 h2
  | succ k ih =>
    intro hk a j ha hj h1 h2
    simp only [zW, Bool.or_eq_true, Bool.and_eq_true] at h2
    rcases h2 with h2 | ⟨h2, h3⟩
    · exact ih (by omega) a j ha hj h1 h2
    · exact ih (by omega) k j (by omega) hj (Or.inr (ih (by omega) a k ha (by omega) h1 h2)) h3
theorem zI_m {o : List Int32} {F : Nat} (hF : F < 6) {j : Nat} (hj : j < 6) : ∀ k n, zb (zI o F n) j = true → zb (zI o F (n + k)) j = true := by
  intro k
  induction k with
  | zero => intro n h; exact h
  | succ k ih => intro n h; exact (yr2_b (o := o) hF 6 0 (zI o F (n + k)) (by omega)).1 j hj (ih n h)
theorem zI_s {o : List Int32} {F : Nat} (hF : F < 6) : ∀ k j, j < 6 → zb (zI o F k) j = true → zW (zE o) 6 F j = true := by
  intro k
  induction k with
  | zero => intro j hj h; rw [show zI o F 0 = 0 from rfl, zb_0] at h; cases h
  | succ k ih =>
    refine (yr2_b (o := o) hF 6 0 (zI o F k) (by omega)).2.2 (fun j => zW (zE o) 6 F j = true) ih (fun a j ha hj h1 h2 => ?_)
    rcases h1 with rfl | h1
    · exact zW_m 6 _ _ h2
    · exact zW_t 6 F a j ha h1 (zW_m 6 _ _ h2)
theorem yreach_b {o : List Int32} {F j : Nat} (hF : F < 6) (hj : j < 6) : zb (yreach o (nI F)) j = zW (zE o) 6 F j := by
  have e : yreach o (nI F) = zI o F 6 := by
    unfold yreach
    rw [show (0 : Int32) = zI o F 0 from rfl, yr3_zI]
  rw [e, Bool.eq_iff_iff]
  refine ⟨zI_s hF 6 j hj, fun h => ?_⟩
  have le : zc (zI o F 7) ≤ 6 := by
    have n := zn_1 (zI o F 7)
    have n0 := n 0; have n1 := n 1; have n2 := n 2; have n3 := n 3; have n4 := n 4; have n5 := n 5
    unfold zc; omega
  rcases zcl_or (o := o) hF 7 with ⟨k, hk, hc⟩ | hc
  · have := zI_m (o := o) hF hj (6 - k) k (zcl_W hc 6 (Nat.le_refl _) F j hF hj (Or.inl rfl) h)
    rwa [show k + (6 - k) = 6 by omega] at this
  · omega
theorem and_cg {x y : Int32} {f : Nat} (hf : f < 6) (h : zb x f = zb y f) : x &&& ((1 : Int32) <<< (nI f &&& 31)) = y &&& ((1 : Int32) <<< (nI f &&& 31)) := by
  refine zb_ext (fun i hi => ?_)
  rw [zb_and, zb_and, zb_one f hf i hi]
  by_cases e : i = f
  · rw [e, h]
  · rw [decide_eq_false e, Bool.and_false, Bool.and_false]
theorem xr5_eq {o r : List Int32} (h : ∀ f, f < 6 → zb (r.getD f 0) f = zb (yreach o (nI f)) f) : ∀ g i S, i + g = 6 → xr5 r g i S = yrn o g i S := by
  intro g
  induction g with
  | zero => intro i S hi; rfl
  | succ g ih =>
    intro i S hi
    show xr5 r g (i + 1) (S ||| (r.getD i 0 &&& ((1 : Int32) <<< (nI i &&& 31)))) = yrn o g (i + 1) (S ||| (yreach o (nI i) &&& ((1 : Int32) <<< (nI i &&& 31))))
    rw [and_cg (by omega) (h i (by omega))]
    exact ih (i + 1) _ (by omega)
theorem eq_rings {o r : List Int32} (hr : r.length = 6) : xrings o r = yrings o := by
  unfold xrings yrings
  exact xr5_eq (fun f hf => by rw [xreach_b hr hf hf, yreach_b hf hf]) 6 0 0 (by omega)
theorem eq_rg (o : List Int32) : xrg o = yrings o := eq_rings rfl
/-! what to forgive -/
theorem xwo_y {o : List Int32} (h : yO o) {f g : Nat} (hf : f < 6) (hg : g < 6) : xwo o (nI f) (nI g) = yy_ones (yrings (o.set (6 * f + g) 0)) := by
  unfold xwo xbe
  rw [eq_rg, fo_nI f hf g hg]
  by_cases e : f = g
  · subst e
    rw [if_neg (by simp)]
    have k := yow_dg h hf
    unfold yow at k
    have : o.set (6 * f + f) 0 = o := by
      conv => lhs; rw [← k]
      exact set_gD2
    rw [this]
  · rw [if_pos (by simpa using e), oo_nI hf hg]
theorem ten_fg : ∀ f, f < 6 → ∀ g, g < 6 → (10 : Int32) * (nI (6 * f + g) / 6) + (nI (6 * f + g) - nI (6 * f + g) / 6 * 6) = 10 * nI f + nI g := by decide +kernel
theorem for1 {o : List Int32} (h : yO o) {f : Nat} (hf : f < 6) : ∀ t g R be fw, g + t = 6 → yfor o (t + R) (6 * f + g) be fw = yfor o R (6 * f + 6) (xfo1 o f t g be fw).1 (xfo1 o f t g be fw).2 := by
  intro t
  induction t with
  | zero =>
    intro g R be fw hg
    have : g = 6 := by omega
    subst this
    rw [Nat.zero_add]; rfl
  | succ t ih =>
    intro g R be fw hg
    have hg6 : g < 6 := by omega
    rw [show t + 1 + R = (t + R) + 1 by omega]
    simp only [yfor, xfo1]
    rw [xwo_y h hf hg6, ten_fg f hf g hg6]
    by_cases c : yy_ones (yrings (o.set (6 * f + g) 0)) < fw
    · rw [if_pos c, if_pos c, if_pos c]; exact ih (g + 1) R _ _ (by omega)
    · rw [if_neg c, if_neg c, if_neg c]; exact ih (g + 1) R _ _ (by omega)
theorem for2 {o : List Int32} (h : yO o) : ∀ t f be fw, f + t = 6 → yfor o (6 * t) (6 * f) be fw = ((xfo2 o t f be fw).1, (xfo2 o t f be fw).2) := by
  intro t
  induction t with
  | zero => intro f be fw hf; rfl
  | succ t ih =>
    intro f be fw hf
    have k := for1 h (by omega : f < 6) 6 0 (6 * t) be fw (by omega)
    rw [show 6 * (t + 1) = 6 + 6 * t by omega, show 6 * f = 6 * f + 0 by omega, k, show 6 * f + 6 = 6 * (f + 1) by omega]
    simp only [xfo2]
    exact ih (f + 1) _ _ (by omega)
theorem eq_forgive {o : List Int32} {w : Int32} (h : yO o) : xforg o w = yforgive o w := by
  unfold xforg yforgive
  rw [eq_rg, show yfor o 36 0 (-1) (yy_ones (yrings o)) = _ from for2 h 6 0 (-1) (yy_ones (yrings o)) (by omega)]
