/-! ===== what to forgive ===== -/
def ush (x y : Int32) : Int32 := (x.toUInt32 >>> (y.toUInt32 &&& Int32.toUInt32 31)).toInt32
def xb1 (x : Int32) : Int32 := x - ((ush x 1) &&& 1431655765)
def xb2 (x : Int32) : Int32 := (x &&& 858993459) + ((ush x 2) &&& 858993459)
def xb3 (x : Int32) : Int32 := (x + ush x 4) &&& 252645135
def xb4 (x : Int32) : Int32 := x + ush x 8
def xb5 (x : Int32) : Int32 := x + ush x 16
def xbc (x : Int32) : Int32 := xb5 (xb4 (xb3 (xb2 (xb1 x)))) &&& 63
theorem xbc_64 : ∀ k, k < 64 → xbc (nI k) = yy_ones (nI k) := by decide +kernel
theorem sp_bitCount {w : mc_W} {x : Int32} : mc_D yJ6_bitCount_0f7a4 cJ6_bitCount_0f7a4 1 (some .int) 1 [.int x] w (some (.int (xbc x))) w := by
  refine mc_start (own := RJ6) (ini := false) rfl (by decide +kernel) (fun h => by cases h) (Nat.le_of_ble_eq_true rfl) ?_
  show mc_E _ _ _ _ _ [some (.int x)] [] _ _ _
  refine e_iloadn (pc := 0) dJ6_bitCount_0f7a4_0 rfl ?_
  refine e_iloadn (pc := 1) dJ6_bitCount_0f7a4_1 rfl ?_
  refine e_iconst (v := 1) (pc := 2) dJ6_bitCount_0f7a4_2 (by decide) ?_
  refine e_iushr (pc := 3) dJ6_bitCount_0f7a4_3 ?_
  refine e_ldcw (pc := 4) dJ6_bitCount_0f7a4_4 qJ6_265 ?_
  refine e_iand (pc := 7) dJ6_bitCount_0f7a4_7 ?_
  refine e_isub (pc := 8) dJ6_bitCount_0f7a4_8 ?_
  refine e_isn0 (pc := 9) dJ6_bitCount_0f7a4_9 (Nat.le_of_ble_eq_true rfl) ?_
  refine e_iloadn (pc := 10) dJ6_bitCount_0f7a4_10 rfl ?_
  refine e_ldcw (pc := 11) dJ6_bitCount_0f7a4_11 qJ6_266 ?_
  refine e_iand (pc := 14) dJ6_bitCount_0f7a4_14 ?_
  refine e_iloadn (pc := 15) dJ6_bitCount_0f7a4_15 rfl ?_
  refine e_iconst (v := 2) (pc := 16) dJ6_bitCount_0f7a4_16 (by decide) ?_
  refine e_iushr (pc := 17) dJ6_bitCount_0f7a4_17 ?_
  refine e_ldcw (pc := 18) dJ6_bitCount_0f7a4_18 qJ6_266 ?_
  refine e_iand (pc := 21) dJ6_bitCount_0f7a4_21 ?_
  refine e_iadd (pc := 22) dJ6_bitCount_0f7a4_22 ?_
  refine e_isn0 (pc := 23) dJ6_bitCount_0f7a4_23 (Nat.le_of_ble_eq_true rfl) ?_
  refine e_iloadn (pc := 24) dJ6_bitCount_0f7a4_24 rfl ?_
  refine e_iloadn (pc := 25) dJ6_bitCount_0f7a4_25 rfl ?_
  refine e_iconst (v := 4) (pc := 26) dJ6_bitCount_0f7a4_26 (by decide) ?_
  refine e_iushr (pc := 27) dJ6_bitCount_0f7a4_27 ?_
  refine e_iadd (pc := 28) dJ6_bitCount_0f7a4_28 ?_
  refine e_ldcw (pc := 29) dJ6_bitCount_0f7a4_29 qJ6_267 ?_
  refine e_iand (pc := 32) dJ6_bitCount_0f7a4_32 ?_
  refine e_isn0 (pc := 33) dJ6_bitCount_0f7a4_33 (Nat.le_of_ble_eq_true rfl) ?_
  refine e_iloadn (pc := 34) dJ6_bitCount_0f7a4_34 rfl ?_
  refine e_iloadn (pc := 35) dJ6_bitCount_0f7a4_35 rfl ?_
  refine e_bipush (v := 8) (pc := 36) dJ6_bitCount_0f7a4_36 (by decide) ?_
  refine e_iushr (pc := 38) dJ6_bitCount_0f7a4_38 ?_
  refine e_iadd (pc := 39) dJ6_bitCount_0f7a4_39 ?_
  refine e_isn0 (pc := 40) dJ6_bitCount_0f7a4_40 (Nat.le_of_ble_eq_true rfl) ?_
  refine e_iloadn (pc := 41) dJ6_bitCount_0f7a4_41 rfl ?_
  refine e_iloadn (pc := 42) dJ6_bitCount_0f7a4_42 rfl ?_
  refine e_bipush (v := 16) (pc := 43) dJ6_bitCount_0f7a4_43 (by decide) ?_
  refine e_iushr (pc := 45) dJ6_bitCount_0f7a4_45 ?_
  refine e_iadd (pc := 46) dJ6_bitCount_0f7a4_46 ?_
  refine e_isn0 (pc := 47) dJ6_bitCount_0f7a4_47 (Nat.le_of_ble_eq_true rfl) ?_
  refine e_iloadn (pc := 48) dJ6_bitCount_0f7a4_48 rfl ?_
  refine e_bipush (v := 63) (pc := 49) dJ6_bitCount_0f7a4_49 (by decide) ?_
  refine e_iand (pc := 51) dJ6_bitCount_0f7a4_51 ?_
  exact e_iret (pc := 52) dJ6_bitCount_0f7a4_52 rfl (Nat.le_refl _) (Nat.le_refl _) ⟨rfl, rfl⟩
/-- one row of who owes whom, put together -/
def xro (o : List Int32) (f : Nat) : Nat → Nat → Int32 → Int32
  | 0, _, S => S
  | k + 1, g, S => xro o f k (g + 1) (S ||| (if 0 < xof o (nI f) (nI g) then (1 : Int32) <<< (nI g &&& 31) else 0))
theorem xr1_get (o : List Int32) (f : Nat) : ∀ k g r j, f < r.length → (xr1 o f k g r).getD j 0 = if j = f then xro o f k g (r.getD f 0) else r.getD j 0 := by
  intro k; induction k with
  | zero => intro g r j hf; show r.getD j 0 = _; by_cases h : j = f
            · subst h; rw [if_pos rfl]; rfl
            · rw [if_neg h]
  | succ k ih =>
    intro g r j hf
    show (xr1 o f k (g + 1) _).getD j 0 = _
    rw [ih _ _ _ (by rw [List.length_set]; exact hf), gD_set hf, if_pos rfl]
    by_cases h : j = f
    · subst h; rw [if_pos rfl, if_pos rfl]; rfl
    · rw [if_neg h, if_neg h, gD_set hf, if_neg h]
theorem xr2_get (o : List Int32) : ∀ k f r j, f + k = r.length → (xr2 o k f r).getD j 0 = if f ≤ j ∧ j < r.length then xro o j 6 0 0 else r.getD j 0 := by
  intro k; induction k with
  | zero => intro f r j h; show r.getD j 0 = _; rw [if_neg (by omega)]
  | succ k ih =>
    intro f r j h
    show (xr2 o k (f + 1) (xr1 o f 6 0 (r.set f 0))).getD j 0 = _
    rw [ih _ _ _ (by rw [xr1_len, List.length_set]; omega), xr1_len, List.length_set, xr1_get o f _ _ _ _ (by rw [List.length_set]; omega)]
    by_cases h1 : f + 1 ≤ j ∧ j < r.length
    · rw [if_pos h1, if_pos (by omega)]
    · rw [if_neg h1]
      by_cases h2 : j = f
      · subst h2
        rw [if_pos rfl, if_pos ⟨Nat.le_refl _, by omega⟩, gD_set (by omega), if_pos rfl]
      · rw [if_neg h2, if_neg (by omega), gD_set (by omega), if_neg h2]
theorem li_ext {l r : List Int32} (h : l.length = r.length) (hg : ∀ j, j < l.length → l.getD j 0 = r.getD j 0) : l = r := by
  apply List.ext_getElem h
  intro i h1 h2
  have := hg i h1
  rw [List.getD_eq_getElem?_getD, List.getD_eq_getElem?_getD, List.getElem?_eq_getElem h1, List.getElem?_eq_getElem h2] at this
  simpa using this
theorem xr2_ind {o r r1 : List Int32} (h : r.length = 6) (h1 : r1.length = 6) : xr2 o 6 0 r = xr2 o 6 0 r1 := by
  refine li_ext (by rw [xr2_len, xr2_len, h, h1]) fun j hj => ?_
  rw [xr2_len, h] at hj
  rw [xr2_get _ _ _ _ _ (by omega), xr2_get _ _ _ _ _ (by omega), if_pos ⟨Nat.zero_le _, by omega⟩, if_pos ⟨Nat.zero_le _, by omega⟩]
def Z6 : List Int32 := List.replicate 6 0
/-- who is in rings -/
def xrg (o : List Int32) : Int32 := xrings o Z6
theorem xrings_r {o r : List Int32} (h : r.length = 6) : xrings o r = xrg o := by
  unfold xrg xrings xreach; rw [xr2_ind h (show Z6.length = 6 from rfl)]
theorem and_bit {x : Int32} {f : Nat} (hf : f < 6) : x &&& ((1 : Int32) <<< (nI f &&& 31)) = 0 ∨ x &&& ((1 : Int32) <<< (nI f &&& 31)) = nI (2 ^ f) := by
  have e : (1 : Int32) <<< (nI f &&& 31) = nI (2 ^ f) := (show ∀ f, f < 6 → (1 : Int32) <<< (nI f &&& 31) = nI (2 ^ f) by decide +kernel) f hf
  have e2 : (nI (2 ^ f)).toBitVec = BitVec.twoPow 32 f := (show ∀ f, f < 6 → (nI (2 ^ f)).toBitVec = BitVec.twoPow 32 f by decide +kernel) f hf
  rw [e]
  have k : (x &&& nI (2 ^ f)).toBitVec = if x.toBitVec.getLsbD f then BitVec.twoPow 32 f else 0#32 := by
    rw [Int32.toBitVec_and, e2, BitVec.and_twoPow]
  cases hb : x.toBitVec.getLsbD f with
  | true => right; rw [hb, if_pos rfl, ← e2] at k; exact Int32.toBitVec_inj.mp k
  | false => left; rw [hb] at k; exact Int32.toBitVec_inj.mp k
theorem xrg_64 (o : List Int32) : ∃ k, k < 64 ∧ xrg o = nI k := by
  unfold xrg xrings
  generalize xreach o Z6 = r
  simp only [xr5]
  have D : ∀ a0, (a0 = 0 ∨ a0 = nI (2 ^ 0)) → ∀ a1, (a1 = 0 ∨ a1 = nI (2 ^ 1)) → ∀ a2, (a2 = 0 ∨ a2 = nI (2 ^ 2)) → ∀ a3, (a3 = 0 ∨ a3 = nI (2 ^ 3)) → ∀ a4, (a4 = 0 ∨ a4 = nI (2 ^ 4)) → ∀ a5, (a5 = 0 ∨ a5 = nI (2 ^ 5)) → ∃ k, k < 64 ∧ (((((((0 : Int32) ||| a0) ||| a1) ||| a2) ||| a3) ||| a4) ||| a5) = nI k := by
    intro a0 h0 a1 h1 a2 h2 a3 h3 a4 h4 a5 h5
    rcases h0 with rfl | rfl <;> rcases h1 with rfl | rfl <;> rcases h2 with rfl | rfl <;> rcases h3 with rfl | rfl <;> rcases h4 with rfl | rfl <;> rcases h5 with rfl | rfl <;> exact ⟨_, (by decide : _ < 64), (nI_back (by decide +kernel)).trans rfl⟩
  exact D _ (and_bit (by decide)) _ (and_bit (by decide)) _ (and_bit (by decide)) _ (and_bit (by decide)) _ (and_bit (by decide)) _ (and_bit (by decide))
theorem xbc_rg (o : List Int32) : xbc (xrg o) = yy_ones (xrg o) := by
  obtain ⟨k, hk, e⟩ := xrg_64 o
  rw [e]; exact xbc_64 k hk
theorem xbe_back {o : List Int32} {f g : Int32} (hl : o.length = 36) : xbe (xbe o f g 0) f g (xof o f g) = o := by
  unfold xbe
  by_cases h : yy_fo f g = true
  · rw [if_pos h, if_pos h, List.set_set, xof_fo h]
    have hi := vp_in_oo hl (fo_wi h).1 (fo_wi h).2
    rw [vp_in_iff, hl] at hi
    refine li_ext (by rw [List.length_set]) fun j hj => ?_
    rw [gD_set (by have := tnc hi.1; omega)]
    by_cases e : j = (6 * f + g).toNatClampNeg
    · rw [if_pos e, e]; rfl
    · rw [if_neg e]
  · rw [if_neg h, if_neg h]
/-- how many are in rings, were what f owes g nothing -/
def xwo (o : List Int32) (f g : Int32) : Int32 := yy_ones (xrg (xbe o f g 0))
theorem sp_x_without {s u m n : Nat → Int32} {a c b d : Nat → List Int32} {q : List (Option Nat)} {h : Nat} {z : mc_W} {f g : Int32} (hL : (a 3).length = 36) (hR : (c 1).length = 6) : mc_D yX0_ringFolkWithout cX0_ringFolkWithout 5 (some .int) 5 [.ref 10, .int f, .int g] (WW s a q u c h m b n d z) (some (.int (xwo (a 3) f g))) (WW s a q u (mc_up c 1 (xreach (xbe (a 3) f g 0) (c 1))) h m b n d z) := by
  refine mc_start (own := RX0) (ini := false) rfl (by decide +kernel) (fun h => by cases h) (Nat.le_of_ble_eq_true rfl) ?_
  show mc_E _ _ _ _ _ [some (.ref 10), some (.int f), some (.int g), none, none] [] _ _ _
  refine e_aloadn (pc := 0) dX0_ringFolkWithout_0 rfl ?_
  refine e_iloadn (pc := 1) dX0_ringFolkWithout_1 rfl ?_
  refine e_iloadn (pc := 2) dX0_ringFolkWithout_2 rfl ?_
  refine e_cvD (pc := 3) (sp_x_of hL) dX0_ringFolkWithout_3 kX0_26 rfl rfl rfl rfl rfl (mc_CR_of (Nat.le_of_ble_eq_true rfl) (Nat.le_of_ble_eq_true rfl) (Nat.le_refl _) (Nat.le_refl _)) (Nat.le_of_ble_eq_true rfl) ?_
  refine e_isn3 (pc := 6) dX0_ringFolkWithout_6 (Nat.le_of_ble_eq_true rfl) rfl ?_
  refine e_aloadn (pc := 7) dX0_ringFolkWithout_7 rfl ?_
  refine e_iloadn (pc := 8) dX0_ringFolkWithout_8 rfl ?_
  refine e_iloadn (pc := 9) dX0_ringFolkWithout_9 rfl ?_
  refine e_iconst (v := 0) (pc := 10) dX0_ringFolkWithout_10 (by decide) ?_
  refine e_cvU (pc := 11) (sp_x_become hL) dX0_ringFolkWithout_11 kX0_30 rfl rfl rfl rfl rfl (mc_CR_of (Nat.le_of_ble_eq_true rfl) (Nat.le_of_ble_eq_true rfl) (Nat.le_refl _) (Nat.le_refl _)) (Nat.le_of_ble_eq_true rfl) ?_
  refine e_aloadn (pc := 14) dX0_ringFolkWithout_14 rfl ?_
  refine e_cvD (pc := 15) (sp_x_ringBits (a := mc_up a 3 (xbe (a 3) f g 0)) (by rw [up_at, xbe_len]; exact hL) hR) dX0_ringFolkWithout_15 kX0_34 rfl rfl rfl rfl rfl (mc_CR_of (Nat.le_of_ble_eq_true rfl) (Nat.le_of_ble_eq_true rfl) (Nat.le_refl _) (Nat.le_refl _)) (Nat.le_of_ble_eq_true rfl) ?_
  rw [up_at, xrings_r hR]
  refine e_csD (pc := 18) (sp_bitCount) dX0_ringFolkWithout_18 kX0_38 rfl rfl (mc_CR_of (Nat.le_of_ble_eq_true rfl) (Nat.le_of_ble_eq_true rfl) (Nat.le_refl _) (Nat.le_refl _)) (Nat.le_of_ble_eq_true rfl) ?_
  refine e_isw4 (pc := 21) dX0_ringFolkWithout_21 (Nat.le_of_ble_eq_true rfl) rfl ?_
  refine e_aloadn (pc := 23) dX0_ringFolkWithout_23 rfl ?_
  refine e_iloadn (pc := 24) dX0_ringFolkWithout_24 rfl ?_
  refine e_iloadn (pc := 25) dX0_ringFolkWithout_25 rfl ?_
  refine e_iloadn (pc := 26) dX0_ringFolkWithout_26 rfl ?_
  refine e_cvU (pc := 27) (sp_x_become (a := mc_up a 3 (xbe (a 3) f g 0)) (by rw [up_at, xbe_len]; exact hL)) dX0_ringFolkWithout_27 kX0_30 rfl rfl rfl rfl rfl (mc_CR_of (Nat.le_of_ble_eq_true rfl) (Nat.le_of_ble_eq_true rfl) (Nat.le_refl _) (Nat.le_refl _)) (Nat.le_of_ble_eq_true rfl) ?_
  rw [up_up, up_at, xbe_back hL, mc_up_self]
  refine e_iload (pc := 30) dX0_ringFolkWithout_30 rfl ?_
  exact e_iret (pc := 32) dX0_ringFolkWithout_32 rfl (Nat.le_refl _) (Nat.le_refl _) ⟨by rw [xbc_rg]; rfl, rfl⟩
/-- one by one, by g, by f: best, fewest -/
def xfo1 (o : List Int32) (f : Nat) : Nat → Nat → Int32 → Int32 → Int32 × Int32
  | 0, _, bs, fw => (bs, fw)
  | k + 1, g, bs, fw => xfo1 o f k (g + 1) (if xwo o (nI f) (nI g) < fw then 10 * nI f + nI g else bs) (if xwo o (nI f) (nI g) < fw then xwo o (nI f) (nI g) else fw)
def xfo2 (o : List Int32) : Nat → Nat → Int32 → Int32 → Int32 × Int32
  | 0, _, bs, fw => (bs, fw)
  | k + 1, f, bs, fw => xfo2 o k (f + 1) (xfo1 o f 6 0 bs fw).1 (xfo1 o f 6 0 bs fw).2
def xforg (o : List Int32) (w : Int32) : Int32 := if mc_wi w 0 1 = false then -2 else if w = 0 then (xfo2 o 6 0 (-1) (yy_ones (xrg o))).1 else (xfo2 o 6 0 (-1) (yy_ones (xrg o))).2
theorem lp_x_fo1 {s u m n : Nat → Int32} {a c b d : Nat → List Int32} {q : List (Option Nat)} {h : Nat} {z : mc_W} {Post : Option Value → mc_W → Prop} {w : Int32} {f : Nat} {V : Int32 × Int32} (hL : (a 3).length = 36) (hf : f < 6)
    (hK : ∀ (R : List Int32) (x6 : Option Value), R.length = 6 → mc_E RX6 cX6_forgive 7 (mc_JM (some .int) false 7 0 0 Post) 80 [some (.ref 0), some (.int w), some (.int V.1), some (.int V.2), some (.int (nI f)), some (.int (nI 6)), x6] [] (WW s a q u (mc_up c 1 R) h m b n d z) 0 0) :
    ∀ (g i : Nat) (bs fw : Int32) (R : List Int32) (x6 : Option Value), R.length = 6 → i + g = 6 → xfo1 (a 3) f g i bs fw = V →
      mc_E RX6 cX6_forgive 7 (mc_JM (some .int) false 7 0 0 Post) 36 [some (.ref 0), some (.int w), some (.int bs), some (.int fw), some (.int (nI f)), some (.int (nI i)), x6] [] (WW s a q u (mc_up c 1 R) h m b n d z) 0 0 := by
  intro g
  induction g with
  | zero =>
    intro i bs fw R x6 hR hi hV
    have e : i = 6 := by omega
    subst e
    simp only [xfo1] at hV
    subst hV
    refine e_iload (pc := 36) dX6_forgive_36 rfl ?_
    refine e_bipush (v := 6) (pc := 38) dX6_forgive_38 (by decide) ?_
    refine e_icmp_ge (pc := 40) dX6_forgive_40 (t := 80) (by decide) (fun _ => ?_) (fun c_40 => absurd (by decide) c_40)
    exact hK _ _ hR
  | succ g ih =>
    intro i bs fw R x6 hR hi hV
    simp only [xfo1] at hV
    have hi1 : i < 6 := by omega
    refine e_iload (pc := 36) dX6_forgive_36 rfl ?_
    refine e_bipush (v := 6) (pc := 38) dX6_forgive_38 (by decide) ?_
    refine e_icmp_ge (pc := 40) dX6_forgive_40 (t := 80) (by decide) (fun c_40 => absurd c_40 (nI_ge (by omega : i < 6) (by decide))) (fun _ => ?_)
    refine e_aloadn (pc := 43) dX6_forgive_43 rfl ?_
    refine e_get (pc := 44) dX6_forgive_44 fX6_55 rfl rfl ?_
    refine e_iload (pc := 47) dX6_forgive_47 rfl ?_
    refine e_iload (pc := 49) dX6_forgive_49 rfl ?_
    refine e_cvD (pc := 51) (sp_x_without (c := mc_up c 1 R) hL (by rw [up_at]; exact hR)) dX6_forgive_51 kX6_258 rfl rfl rfl rfl rfl (mc_CR_of (Nat.le_of_ble_eq_true rfl) (Nat.le_of_ble_eq_true rfl) (Nat.le_refl _) (Nat.le_refl _)) (Nat.le_of_ble_eq_true rfl) ?_
    rw [up_up, up_at]
    refine e_isw6 (pc := 54) dX6_forgive_54 (Nat.le_of_ble_eq_true rfl) rfl ?_
    refine e_iload (pc := 56) dX6_forgive_56 rfl ?_
    refine e_iloadn (pc := 58) dX6_forgive_58 rfl ?_
    refine e_icmp_ge (pc := 59) dX6_forgive_59 (t := 74) (by decide) (fun c_59 => ?_) (fun c_59 => ?_)
    · skip
      refine e_incC5 (pc := 74) dX6_forgive_74 (nI_1 i) (Nat.le_of_ble_eq_true rfl) rfl ?_
      refine e_goto (pc := 77) dX6_forgive_77 (t := 36) (by decide) ?_
      exact ih (i + 1) _ _ _ _ (by rw [xreach_len]; exact hR) (by omega) (by rw [← hV, if_neg (Int32.not_lt.mpr c_59), if_neg (Int32.not_lt.mpr c_59)])
    · skip
      refine e_iload (pc := 62) dX6_forgive_62 rfl ?_
      refine e_isn3 (pc := 64) dX6_forgive_64 (Nat.le_of_ble_eq_true rfl) rfl ?_
      refine e_bipush (v := 10) (pc := 65) dX6_forgive_65 (by decide) ?_
      refine e_iload (pc := 67) dX6_forgive_67 rfl ?_
      refine e_imul (pc := 69) dX6_forgive_69 ?_
      refine e_iload (pc := 70) dX6_forgive_70 rfl ?_
      refine e_iadd (pc := 72) dX6_forgive_72 ?_
      refine e_isn2 (pc := 73) dX6_forgive_73 (Nat.le_of_ble_eq_true rfl) rfl ?_
      refine e_incC5 (pc := 74) dX6_forgive_74 (nI_1 i) (Nat.le_of_ble_eq_true rfl) rfl ?_
      refine e_goto (pc := 77) dX6_forgive_77 (t := 36) (by decide) ?_
      exact ih (i + 1) _ _ _ _ (by rw [xreach_len]; exact hR) (by omega) (by rw [← hV, if_pos (Int32.not_le.mp c_59), if_pos (Int32.not_le.mp c_59)])
theorem lp_x_fo2 {s u m n : Nat → Int32} {a c b d : Nat → List Int32} {q : List (Option Nat)} {h : Nat} {z : mc_W} {Post : Option Value → mc_W → Prop} {w : Int32} {V : Int32 × Int32} (hL : (a 3).length = 36)
    (hK : ∀ (R : List Int32) (x5 x6 : Option Value), R.length = 6 → mc_E RX6 cX6_forgive 7 (mc_JM (some .int) false 7 0 0 Post) 86 [some (.ref 0), some (.int w), some (.int V.1), some (.int V.2), some (.int (nI 6)), x5, x6] [] (WW s a q u (mc_up c 1 R) h m b n d z) 0 0) :
    ∀ (g i : Nat) (bs fw : Int32) (R : List Int32) (x5 x6 : Option Value), R.length = 6 → i + g = 6 → xfo2 (a 3) g i bs fw = V →
      mc_E RX6 cX6_forgive 7 (mc_JM (some .int) false 7 0 0 Post) 26 [some (.ref 0), some (.int w), some (.int bs), some (.int fw), some (.int (nI i)), x5, x6] [] (WW s a q u (mc_up c 1 R) h m b n d z) 0 0 := by
  intro g
  induction g with
  | zero =>
    intro i bs fw R x5 x6 hR hi hV
    have e : i = 6 := by omega
    subst e
    simp only [xfo2] at hV
    subst hV
    refine e_iload (pc := 26) dX6_forgive_26 rfl ?_
    refine e_bipush (v := 6) (pc := 28) dX6_forgive_28 (by decide) ?_
    refine e_icmp_ge (pc := 30) dX6_forgive_30 (t := 86) (by decide) (fun _ => ?_) (fun c_30 => absurd (by decide) c_30)
    exact hK _ _ _ hR
  | succ g ih =>
    intro i bs fw R x5 x6 hR hi hV
    simp only [xfo2] at hV
    have hi1 : i < 6 := by omega
    have MID : ∀ (R : List Int32) (x6 : Option Value), R.length = 6 → mc_E RX6 cX6_forgive 7 (mc_JM (some .int) false 7 0 0 Post) 80 [some (.ref 0), some (.int w), some (.int (xfo1 (a 3) i 6 0 bs fw).1), some (.int (xfo1 (a 3) i 6 0 bs fw).2), some (.int (nI i)), some (.int (nI 6)), x6] [] (WW s a q u (mc_up c 1 R) h m b n d z) 0 0 := by
      intro R x6 hR
      refine e_incC4 (pc := 80) dX6_forgive_80 (nI_1 i) (Nat.le_of_ble_eq_true rfl) rfl ?_
      refine e_goto (pc := 83) dX6_forgive_83 (t := 26) (by decide) ?_
      exact ih (i + 1) _ _ _ _ _ hR (by omega) hV
    refine e_iload (pc := 26) dX6_forgive_26 rfl ?_
    refine e_bipush (v := 6) (pc := 28) dX6_forgive_28 (by decide) ?_
    refine e_icmp_ge (pc := 30) dX6_forgive_30 (t := 86) (by decide) (fun c_30 => absurd c_30 (nI_ge (by omega : i < 6) (by decide))) (fun _ => ?_)
    refine e_iconst (v := 0) (pc := 33) dX6_forgive_33 (by decide) ?_
    refine e_isw5 (pc := 34) dX6_forgive_34 (Nat.le_of_ble_eq_true rfl) rfl ?_
    exact lp_x_fo1 hL hi1 MID 6 0 _ _ _ _ hR (by omega) rfl
theorem sp_x_forgive {s u m n : Nat → Int32} {a c b d : Nat → List Int32} {q : List (Option Nat)} {h : Nat} {z : mc_W} {w : Int32} (hL : (a 3).length = 36) (hR : (c 1).length = 6) : mc_T yX6_forgive cX6_forgive 7 (some .int) 7 [.ref 0, .int w] (WW s a q u c h m b n d z) (some (.int (xforg (a 3) w))) (fun w1 => ∃ R, R.length = 6 ∧ w1 = (WW s a q u (mc_up c 1 R) h m b n d z)) := by
  refine mc_start (own := RX6) (ini := false) rfl (by decide +kernel) (fun h => by cases h) (Nat.le_of_ble_eq_true rfl) ?_
  show mc_E _ _ _ _ _ [some (.ref 0), some (.int w), none, none, none, none, none] [] _ _ _
  refine e_iloadn (pc := 0) dX6_forgive_0 rfl ?_
  refine e_csD (pc := 1) (sp_isTwofold) dX6_forgive_1 kX6_160 rfl rfl (mc_CR_of (Nat.le_of_ble_eq_true rfl) (Nat.le_of_ble_eq_true rfl) (Nat.le_refl _) (Nat.le_refl _)) (Nat.le_of_ble_eq_true rfl) ?_
  refine e_if_ne (pc := 4) dX6_forgive_4 (t := 10) (by decide) (fun c_4 => ?_) (fun c_4 => ?_)
  · skip
    refine e_iconst (v := -1) (pc := 10) dX6_forgive_10 (by decide) ?_
    refine e_isn2 (pc := 11) dX6_forgive_11 (Nat.le_of_ble_eq_true rfl) rfl ?_
    refine e_aloadn (pc := 12) dX6_forgive_12 rfl ?_
    refine e_get (pc := 13) dX6_forgive_13 fX6_55 rfl rfl ?_
    refine e_cvD (pc := 16) (sp_x_ringBits hL hR) dX6_forgive_16 kX6_244 rfl rfl rfl rfl rfl (mc_CR_of (Nat.le_of_ble_eq_true rfl) (Nat.le_of_ble_eq_true rfl) (Nat.le_refl _) (Nat.le_refl _)) (Nat.le_of_ble_eq_true rfl) ?_
    rw [xrings_r hR]
    refine e_csD (pc := 19) (sp_bitCount) dX6_forgive_19 kX6_253 rfl rfl (mc_CR_of (Nat.le_of_ble_eq_true rfl) (Nat.le_of_ble_eq_true rfl) (Nat.le_refl _) (Nat.le_refl _)) (Nat.le_of_ble_eq_true rfl) ?_
    rw [xbc_rg]
    refine e_isn3 (pc := 22) dX6_forgive_22 (Nat.le_of_ble_eq_true rfl) rfl ?_
    refine e_iconst (v := 0) (pc := 23) dX6_forgive_23 (by decide) ?_
    refine e_isw4 (pc := 24) dX6_forgive_24 (Nat.le_of_ble_eq_true rfl) rfl ?_
    refine lp_x_fo2 (V := xfo2 (a 3) 6 0 (-1) (yy_ones (xrg (a 3)))) hL (fun R x5 x6 hR1 => ?_) 6 0 (-1) (yy_ones (xrg (a 3))) _ _ _ (by rw [xreach_len]; exact hR) (by omega) rfl
    refine e_iloadn (pc := 86) dX6_forgive_86 rfl ?_
    refine e_if_ne (pc := 87) dX6_forgive_87 (t := 94) (by decide) (fun c_87 => ?_) (fun c_87 => ?_)
    · skip
      refine e_iloadn (pc := 94) dX6_forgive_94 rfl ?_
      exact e_iret (pc := 95) dX6_forgive_95 rfl (Nat.le_refl _) (Nat.le_refl _) ⟨by rw [xforg, if_neg (by rw [mc_b1.mp c_4]; decide), if_neg c_87], R, hR1, rfl⟩
    · skip
      refine e_iloadn (pc := 90) dX6_forgive_90 rfl ?_
      refine e_goto (pc := 91) dX6_forgive_91 (t := 95) (by decide) ?_
      exact e_iret (pc := 95) dX6_forgive_95 rfl (Nat.le_refl _) (Nat.le_refl _) ⟨by rw [xforg, if_neg (by rw [mc_b1.mp c_4]; decide), if_pos c_87], R, hR1, rfl⟩
  · skip
    refine e_bipush (v := -2) (pc := 7) dX6_forgive_7 (by decide) ?_
    exact e_iret (pc := 9) dX6_forgive_9 rfl (Nat.le_refl _) (Nat.le_refl _) ⟨by rw [xforg, if_pos (mc_b0.mp (by assumption))], c 1, hR, by rw [mc_up_self]⟩
