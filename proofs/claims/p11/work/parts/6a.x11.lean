/-! ===== sums, figures, readings, what is paid ===== -/
theorem wn_in {x b : Int32} (hb : 0 ≤ b.toInt) : 0 ≤ (yy_wn x 0 b).toInt ∧ (yy_wn x 0 b).toInt ≤ b.toInt := by
  unfold yy_wn
  by_cases h1 : x < 0
  · rw [if_pos h1, i0]; omega
  · rw [if_neg h1]
    by_cases h2 : b < x
    · rw [if_pos h2]; omega
    · rw [if_neg h2]; rw [Int32.lt_iff_toInt_lt, i0] at h1; rw [Int32.lt_iff_toInt_lt] at h2; omega
theorem hask_in {mo nu ba ye : Int32} {sg : Nat → List Int32} {p : Nat} {v o : Int32} : 0 ≤ (hask mo nu ba ye sg p v o).toInt ∧ (hask mo nu ba ye sg p v o).toInt ≤ 99999 := by
  unfold hask
  by_cases hp : p = 1
  · rw [if_pos hp]; have := wn_in (x := yev [mo, nu, v, o, ba, ye] (sg p) []) (b := 100) (by decide); have : (100 : Int32).toInt = 100 := rfl; omega
  · rw [if_neg hp]; have := wn_in (x := yev [mo, nu, v, o, ba, ye] (sg p) []) (b := 99999) (by decide); have : (99999 : Int32).toInt = 99999 := rfl; omega
theorem hmk_in {K mo nu ba ye : Int32} {sg : Nat → List Int32} {v : Int32} (hm : 0 ≤ mo.toInt ∧ mo.toInt ≤ 9) (hv : 0 ≤ v.toInt ∧ v.toInt ≤ 99999) : 0 ≤ (hmk K mo nu ba ye sg v).toInt ∧ (hmk K mo nu ba ye sg v).toInt < 131072 := by
  have k0 : 0 ≤ (hmk0 mo nu ba ye sg v).toInt ∧ (hmk0 mo nu ba ye sg v).toInt ≤ 99999 := by
    unfold hmk0; split
    · exact hask_in
    · exact hv
  have kb : 0 ≤ (if v - v / 10 * 10 = 0 then (1 : Int32) else 0).toInt ∧ (if v - v / 10 * 10 = 0 then (1 : Int32) else 0).toInt ≤ 1 := by split <;> decide
  have e1 : (hmk0 mo nu ba ye sg v + (if v - v / 10 * 10 = 0 then (1 : Int32) else 0)).toInt = (hmk0 mo nu ba ye sg v).toInt + (if v - v / 10 * 10 = 0 then (1 : Int32) else 0).toInt := i32_add (by omega) (by omega)
  unfold hmk
  split
  · omega
  · split
    · omega
    · split
      · rw [i32_add (by omega) (by omega), e1]; omega
      · rw [i32_add (by omega) (by decide), i0]; omega
theorem wi_num {v : Int32} (h : mc_wi v 0 99999 = true) : 0 ≤ v.toInt ∧ v.toInt ≤ 99999 := by
  rw [mc_wi_iff] at h; exact h
theorem xHd.mk {q : List (Option Nat)} {z : mc_W} {h : Nat} {u : Nat → Int32} {c : Nat → List Int32} {K mo nu ba ye : Int32} {sg : Nat → List Int32} (hH : xHd q z h u c K mo nu ba ye sg) {v : Int32} (hv : 0 ≤ v.toInt ∧ v.toInt ≤ 99999) : 0 ≤ (hmk K mo nu ba ye sg v).toInt ∧ (hmk K mo nu ba ye sg v).toInt < 131072 := hmk_in hH.2.2.2.2.2.2.1 hv
theorem xOK.c {s : Nat → Int32} {a : Nat → List Int32} {q : List (Option Nat)} {c c1 : Nat → List Int32} {z : mc_W} {T : Nat} {sg : Nat → Nat → List Int32} (h : xOK s a q c z T sg) (h1 : xC c1) : xOK s a q c1 z T sg :=
  ⟨h.1, h.2.1, h.2.2.1, h.2.2.2.1, h.2.2.2.2.1, h1, h.2.2.2.2.2.2⟩
theorem wn_big {x : Int32} (hx : 0 ≤ x.toInt) : (if (9999 : Int32) < x then 9999 else x) = yy_wn x 0 9999 := by
  have h : ¬ x < 0 := fun q => by rw [Int32.lt_iff_toInt_lt, i0] at q; omega
  unfold yy_wn; rw [if_neg h]
abbrev xmk (s : Nat → Int32) (a : Nat → List Int32) (sg : Nat → List Int32) (k v : Int32) : Int32 := hmk (gt (a 0) k) (gt (a 1) k) k (s 0) (s 1) sg v
abbrev xwr (s : Nat → Int32) (a : Nat → List Int32) (sg : Nat → List Int32) (k v : Int32) : List Int32 := hwr (gt (a 0) k) (gt (a 1) k) k (s 0) (s 1) sg v
abbrev xfg (s : Nat → Int32) (a : Nat → List Int32) (k : Int32) : Int32 := yy_fg (gt (a 0) k) (gt (a 1) k) (s 0)
abbrev xask (s : Nat → Int32) (a : Nat → List Int32) (sg : Nat → List Int32) (p : Nat) (k v o : Int32) : Int32 := hask (gt (a 1) k) k (s 0) (s 1) sg p v o
def xadds (s : Nat → Int32) (a : Nat → List Int32) (sg : Nat → List Int32) (k x y : Int32) : Int64 := if mc_wi k 0 (s 2 - 1) = false then -5 else if (mc_wi x 0 99999 && mc_wi y 0 99999) = false then -7 else (xmk s a sg k x).toInt64 + (xmk s a sg k y).toInt64
def xfig (s : Nat → Int32) (a : Nat → List Int32) (sg : Nat → List Int32) (k v w : Int32) : Int32 :=
  if mc_wi k 0 (s 2 - 1) = false then -5 else if (mc_wi v 0 99999 && mc_wi w 0 40) = false then -7
  else if w = 0 then nI (xwr s a sg k v).length else if nI (xwr s a sg k v).length < w then -1 else (xwr s a sg k v).getD (w - 1).toNatClampNeg 0
def xplain (s : Nat → Int32) (a : Nat → List Int32) (sg : Nat → List Int32) (k v : Int32) : Int64 := if mc_wi k 0 (s 2 - 1) = false then -5 else if mc_wi v 0 99999 = false then -7 else yrd (s 0) (xwr s a sg k v)
def xreads (s : Nat → Int32) (a : Nat → List Int32) (sg : Nat → List Int32) (w v : Int32) : Int64 :=
  if (mc_wi (w / 100) 0 (s 2 - 1) && mc_wi (w - w / 100 * 100) 0 (s 2 - 1)) = false then -5 else if mc_wi v 0 99999 = false then -7
  else yrd (xfg s a (w / 100)) (if yy_it (gt (a 0) (w / 100)) = true then (xwr s a sg (w - w / 100 * 100) v).reverse else xwr s a sg (w - w / 100 * 100) v)
def xsure (s : Nat → Int32) (a : Nat → List Int32) (sg : Nat → List Int32) (k v : Int32) : Int64 := if mc_wi k 0 (s 2 - 1) = false then -5 else if mc_wi v 0 99999 = false then -7 else ysr (xask s a sg 1 k v 0) (xwr s a sg k v).length 1000000000
def xpyc (s : Nat → Int32) (a : Nat → List Int32) (k fg mu : Int32) : Int32 :=
  if mc_wi k 0 (s 2 - 1) = false then -6 else if yy_fo (fg / 10) (fg - fg / 10 * 10) = false then -5 else if mc_wi mu 0 9999 = false then -7
  else if gt (a 3) (6 * (fg / 10) + (fg - fg / 10 * 10)) - mu < 0 then -3 else 0
def xpyv (s : Nat → Int32) (a : Nat → List Int32) (sg : Nat → List Int32) (k fg mu : Int32) : Int32 :=
  if gt (a 3) (6 * (fg / 10) + (fg - fg / 10 * 10)) - mu = 0 then yy_wn (xmk s a sg k 0) 0 9999 else gt (a 3) (6 * (fg / 10) + (fg - fg / 10 * 10)) - mu
def xpay (s : Nat → Int32) (a : Nat → List Int32) (sg : Nat → List Int32) (k fg mu : Int32) : Int32 := if xpyc s a k fg mu = 0 then xpyv s a sg k fg mu else xpyc s a k fg mu
def xpya (s : Nat → Int32) (a : Nat → List Int32) (sg : Nat → List Int32) (k fg mu : Int32) : Nat → List Int32 := if xpyc s a k fg mu = 0 then mc_up a 3 ((a 3).set (6 * (fg / 10) + (fg - fg / 10 * 10)).toNatClampNeg (xpyv s a sg k fg mu)) else a
theorem sp_x_adds {s u m n : Nat → Int32} {a c b d : Nat → List Int32} {q : List (Option Nat)} {h : Nat} {z : mc_W} {T : Nat} {sg : Nat → Nat → List Int32} {k x y : Int32} (hO : xOK s a q c z T sg) : mc_T yX6_adds cX6_adds 5 (some .long) 6 [.ref 0, .int k, .int x, .int y] (WW s a q u c h m b n d z) (some (.long (xadds s a (sg (tl s)) k x y))) (fun w1 => ∃ u1 c1 h1, xC c1 ∧ w1 = (WW s a q u1 c1 h1 m b n d z)) := by
  refine mc_start (own := RX6) (ini := false) rfl (by decide +kernel) (fun h => by cases h) (Nat.le_of_ble_eq_true rfl) ?_
  show mc_E _ _ _ _ _ [some (.ref 0), some (.int k), some (.int x), some (.int y), none] [] _ _ _
  refine e_aloadn (pc := 0) dX6_adds_0 rfl ?_
  refine e_iloadn (pc := 1) dX6_adds_1 rfl ?_
  refine e_cvD (pc := 2) (sp_x_isClerk hO.2.1) dX6_adds_2 kX6_115 rfl rfl rfl rfl rfl (mc_CR_of (Nat.le_of_ble_eq_true rfl) (Nat.le_of_ble_eq_true rfl) (Nat.le_refl _) (Nat.le_refl _)) (Nat.le_of_ble_eq_true rfl) ?_
  refine e_if_ne (pc := 5) dX6_adds_5 (t := 12) (by decide) (fun c_5 => ?_) (fun c_5 => ?_)
  · skip
    refine e_iloadn (pc := 12) dX6_adds_12 rfl ?_
    refine e_csD (pc := 13) (sp_isNumber) dX6_adds_13 kX6_118 rfl rfl (mc_CR_of (Nat.le_of_ble_eq_true rfl) (Nat.le_of_ble_eq_true rfl) (Nat.le_refl _) (Nat.le_refl _)) (Nat.le_of_ble_eq_true rfl) ?_
    refine e_if_eq (pc := 16) dX6_adds_16 (t := 26) (by decide) (fun c_16 => ?_) (fun c_16 => ?_)
    · skip
      refine e_ldc2 (pc := 26) dX6_adds_26 qX6_147 ?_
      exact e_lret (pc := 29) dX6_adds_29 rfl (Nat.le_refl _) (Nat.le_refl _) ⟨by unfold xadds; rw [if_neg (by rw [mc_b1.mp c_5]; decide), if_pos (by simp only [mc_b0, mc_b1, Bool.not_eq_false] at *; simp_all)], u, c, h, hO.2.2.2.2.2.1, rfl⟩
    · skip
      refine e_iloadn (pc := 19) dX6_adds_19 rfl ?_
      refine e_csD (pc := 20) (sp_isNumber) dX6_adds_20 kX6_118 rfl rfl (mc_CR_of (Nat.le_of_ble_eq_true rfl) (Nat.le_of_ble_eq_true rfl) (Nat.le_refl _) (Nat.le_refl _)) (Nat.le_of_ble_eq_true rfl) ?_
      refine e_if_ne (pc := 23) dX6_adds_23 (t := 30) (by decide) (fun c_23 => ?_) (fun c_23 => ?_)
      · skip
        refine e_aloadn (pc := 30) dX6_adds_30 rfl ?_
        refine e_iloadn (pc := 31) dX6_adds_31 rfl ?_
        refine e_cvX (pc := 32) (sp_x_handOf hO (mc_b1.mp c_5)) dX6_adds_32 kX6_121 rfl rfl rfl rfl rfl (mc_CR_of (Nat.le_of_ble_eq_true rfl) (Nat.le_of_ble_eq_true rfl) (Nat.le_refl _) (Nat.le_refl _)) (Nat.le_of_ble_eq_true rfl) (fun w1 hw1 => ?_)
        obtain ⟨u1, c1, hH, hk1, rfl⟩ := hw1
        refine e_asw4 (pc := 35) dX6_adds_35 (Nat.le_of_ble_eq_true rfl) rfl ?_
        refine e_aload (pc := 37) dX6_adds_37 rfl ?_
        refine e_iloadn (pc := 39) dX6_adds_39 rfl ?_
        refine e_cvX (pc := 40) (sp_x_makes hH) dX6_adds_40 kX6_157 rfl rfl rfl rfl rfl (mc_CR_of (Nat.le_of_ble_eq_true rfl) (Nat.le_of_ble_eq_true rfl) (Nat.le_refl _) (Nat.le_refl _)) (Nat.le_of_ble_eq_true rfl) (fun w1 hw1 => ?_)
        obtain ⟨c2, hH2, hk2, -, rfl⟩ := hw1
        refine e_i2l (pc := 43) dX6_adds_43 ?_
        refine e_aload (pc := 44) dX6_adds_44 rfl ?_
        refine e_iloadn (pc := 46) dX6_adds_46 rfl ?_
        refine e_cvX (pc := 47) (sp_x_makes hH2) dX6_adds_47 kX6_157 rfl rfl rfl rfl rfl (mc_CR_of (Nat.le_of_ble_eq_true rfl) (Nat.le_of_ble_eq_true rfl) (Nat.le_refl _) (Nat.le_refl _)) (Nat.le_of_ble_eq_true rfl) (fun w1 hw1 => ?_)
        obtain ⟨c3, hH3, hk3, -, rfl⟩ := hw1
        refine e_i2l (pc := 50) dX6_adds_50 ?_
        refine e_ladd (pc := 51) dX6_adds_51 ?_
        exact e_lret (pc := 52) dX6_adds_52 rfl (Nat.le_refl _) (Nat.le_refl _) ⟨by unfold xadds; rw [if_neg (by rw [mc_b1.mp c_5]; decide), if_neg (by simp only [mc_b0, mc_b1, Bool.not_eq_false] at *; simp_all)]; try rfl, u1, c3, _, hH3.C ((hk1.trans hk2).trans hk3) hO.2.2.2.2.2.1, rfl⟩
      · skip
        refine e_ldc2 (pc := 26) dX6_adds_26 qX6_147 ?_
        exact e_lret (pc := 29) dX6_adds_29 rfl (Nat.le_refl _) (Nat.le_refl _) ⟨by unfold xadds; rw [if_neg (by rw [mc_b1.mp c_5]; decide), if_pos (by simp only [mc_b0, mc_b1, Bool.not_eq_false] at *; simp_all)], u, c, h, hO.2.2.2.2.2.1, rfl⟩
  · skip
    refine e_ldc2 (pc := 8) dX6_adds_8 qX6_145 ?_
    exact e_lret (pc := 11) dX6_adds_11 rfl (Nat.le_refl _) (Nat.le_refl _) ⟨by unfold xadds; rw [if_pos (mc_b0.mp c_5)], u, c, h, hO.2.2.2.2.2.1, rfl⟩
theorem sp_x_plain {s u m n : Nat → Int32} {a c b d : Nat → List Int32} {q : List (Option Nat)} {h : Nat} {z : mc_W} {T : Nat} {sg : Nat → Nat → List Int32} {k v : Int32} (hO : xOK s a q c z T sg) : mc_T yX6_plain cX6_plain 4 (some .long) 7 [.ref 0, .int k, .int v] (WW s a q u c h m b n d z) (some (.long (xplain s a (sg (tl s)) k v))) (fun w1 => ∃ u1 c1 h1, xC c1 ∧ w1 = (WW s a q u1 c1 h1 m b n d z)) := by
  refine mc_start (own := RX6) (ini := false) rfl (by decide +kernel) (fun h => by cases h) (Nat.le_of_ble_eq_true rfl) ?_
  show mc_E _ _ _ _ _ [some (.ref 0), some (.int k), some (.int v), none] [] _ _ _
  refine e_aloadn (pc := 0) dX6_plain_0 rfl ?_
  refine e_iloadn (pc := 1) dX6_plain_1 rfl ?_
  refine e_cvD (pc := 2) (sp_x_isClerk hO.2.1) dX6_plain_2 kX6_115 rfl rfl rfl rfl rfl (mc_CR_of (Nat.le_of_ble_eq_true rfl) (Nat.le_of_ble_eq_true rfl) (Nat.le_refl _) (Nat.le_refl _)) (Nat.le_of_ble_eq_true rfl) ?_
  refine e_if_ne (pc := 5) dX6_plain_5 (t := 12) (by decide) (fun c_5 => ?_) (fun c_5 => ?_)
  · skip
    refine e_iloadn (pc := 12) dX6_plain_12 rfl ?_
    refine e_csD (pc := 13) (sp_isNumber) dX6_plain_13 kX6_118 rfl rfl (mc_CR_of (Nat.le_of_ble_eq_true rfl) (Nat.le_of_ble_eq_true rfl) (Nat.le_refl _) (Nat.le_refl _)) (Nat.le_of_ble_eq_true rfl) ?_
    refine e_if_ne (pc := 16) dX6_plain_16 (t := 23) (by decide) (fun c_16 => ?_) (fun c_16 => ?_)
    · skip
      refine e_aloadn (pc := 23) dX6_plain_23 rfl ?_
      refine e_iloadn (pc := 24) dX6_plain_24 rfl ?_
      refine e_cvX (pc := 25) (sp_x_handOf hO (mc_b1.mp c_5)) dX6_plain_25 kX6_121 rfl rfl rfl rfl rfl (mc_CR_of (Nat.le_of_ble_eq_true rfl) (Nat.le_of_ble_eq_true rfl) (Nat.le_refl _) (Nat.le_refl _)) (Nat.le_of_ble_eq_true rfl) (fun w1 hw1 => ?_)
      obtain ⟨u1, c1, hH, hk1, rfl⟩ := hw1
      refine e_asn3 (pc := 28) dX6_plain_28 (Nat.le_of_ble_eq_true rfl) rfl ?_
      refine e_aloadn (pc := 29) dX6_plain_29 rfl ?_
      refine e_iloadn (pc := 30) dX6_plain_30 rfl ?_
      refine e_cvY (pc := 31) (sp_x_write hH (hH.mk (wi_num (mc_b1.mp c_16)))) dX6_plain_31 kX6_135 rfl rfl rfl rfl rfl (mc_CR_of (Nat.le_of_ble_eq_true rfl) (Nat.le_of_ble_eq_true rfl) (Nat.le_refl _) (Nat.le_refl _)) (Nat.le_of_ble_eq_true rfl) (fun w1 hw1 => ?_)
      obtain ⟨u2, c2, hH2, hk2, hF, rfl⟩ := hw1
      refine e_aloadn (pc := 34) dX6_plain_34 rfl ?_
      refine e_cvD (pc := 35) (sp_x_readPl hH2 hF) dX6_plain_35 kX6_153 rfl rfl rfl rfl rfl (mc_CR_of (Nat.le_of_ble_eq_true rfl) (Nat.le_of_ble_eq_true rfl) (Nat.le_refl _) (Nat.le_refl _)) (Nat.le_of_ble_eq_true rfl) ?_
      exact e_lret (pc := 38) dX6_plain_38 rfl (Nat.le_refl _) (Nat.le_refl _) ⟨by unfold xplain; rw [if_neg (by rw [mc_b1.mp c_5]; decide), if_neg (by simp only [mc_b0, mc_b1, Bool.not_eq_false] at *; simp_all)]; try rfl, u2, c2, _, hH2.C (hk1.trans hk2) hO.2.2.2.2.2.1, rfl⟩
    · skip
      refine e_ldc2 (pc := 19) dX6_plain_19 qX6_147 ?_
      exact e_lret (pc := 22) dX6_plain_22 rfl (Nat.le_refl _) (Nat.le_refl _) ⟨by unfold xplain; rw [if_neg (by rw [mc_b1.mp c_5]; decide), if_pos (by simp only [mc_b0, mc_b1, Bool.not_eq_false] at *; simp_all)], u, c, h, hO.2.2.2.2.2.1, rfl⟩
  · skip
    refine e_ldc2 (pc := 8) dX6_plain_8 qX6_145 ?_
    exact e_lret (pc := 11) dX6_plain_11 rfl (Nat.le_refl _) (Nat.le_refl _) ⟨by unfold xplain; rw [if_pos (mc_b0.mp c_5)], u, c, h, hO.2.2.2.2.2.1, rfl⟩
theorem sp_x_figure {s u m n : Nat → Int32} {a c b d : Nat → List Int32} {q : List (Option Nat)} {h : Nat} {z : mc_W} {T : Nat} {sg : Nat → Nat → List Int32} {k v w : Int32} (hO : xOK s a q c z T sg) : mc_T yX6_figure cX6_figure 5 (some .int) 7 [.ref 0, .int k, .int v, .int w] (WW s a q u c h m b n d z) (some (.int (xfig s a (sg (tl s)) k v w))) (fun w1 => ∃ u1 c1 h1, xC c1 ∧ w1 = (WW s a q u1 c1 h1 m b n d z)) := by
  refine mc_start (own := RX6) (ini := false) rfl (by decide +kernel) (fun h => by cases h) (Nat.le_of_ble_eq_true rfl) ?_
  show mc_E _ _ _ _ _ [some (.ref 0), some (.int k), some (.int v), some (.int w), none] [] _ _ _
  have hw1 : mc_wi w 0 40 = true → ¬ w = 0 → w - 1 = nI (w - 1).toNatClampNeg ∧ ∀ {N : Nat}, w ≤ nI N → (w - 1).toNatClampNeg < N := fun q1 q2 => by
    rw [mc_wi_iff, i0, show (40 : Int32).toInt = 40 from rfl] at q1
    have q3 : ¬ w.toInt = 0 := fun r => q2 (Int32.toInt_inj.mp r)
    have e : (w - 1).toInt = w.toInt - 1 := by rw [i32_sub (by omega) (by decide), i1]
    refine ⟨nI_back (by omega), fun {N} h => ?_⟩
    have t := tnc (x := w - 1) (by omega)
    by_cases hN : N < 41
    · rw [Int32.le_iff_toInt_le, nI_toInt (by omega)] at h; omega
    · omega
  refine e_aloadn (pc := 0) dX6_figure_0 rfl ?_
  refine e_iloadn (pc := 1) dX6_figure_1 rfl ?_
  refine e_cvD (pc := 2) (sp_x_isClerk hO.2.1) dX6_figure_2 kX6_115 rfl rfl rfl rfl rfl (mc_CR_of (Nat.le_of_ble_eq_true rfl) (Nat.le_of_ble_eq_true rfl) (Nat.le_refl _) (Nat.le_refl _)) (Nat.le_of_ble_eq_true rfl) ?_
  refine e_if_ne (pc := 5) dX6_figure_5 (t := 11) (by decide) (fun c_5 => ?_) (fun c_5 => ?_)
  · skip
    refine e_iloadn (pc := 11) dX6_figure_11 rfl ?_
    refine e_csD (pc := 12) (sp_isNumber) dX6_figure_12 kX6_118 rfl rfl (mc_CR_of (Nat.le_of_ble_eq_true rfl) (Nat.le_of_ble_eq_true rfl) (Nat.le_refl _) (Nat.le_refl _)) (Nat.le_of_ble_eq_true rfl) ?_
    refine e_if_eq (pc := 15) dX6_figure_15 (t := 28) (by decide) (fun c_15 => ?_) (fun c_15 => ?_)
    · skip
      refine e_bipush (v := -7) (pc := 28) dX6_figure_28 (by decide) ?_
      exact e_iret (pc := 30) dX6_figure_30 rfl (Nat.le_refl _) (Nat.le_refl _) ⟨by unfold xfig; rw [if_neg (by rw [mc_b1.mp c_5]; decide), if_pos (by simp only [mc_b0, mc_b1, Bool.not_eq_false] at *; simp_all)], u, c, h, hO.2.2.2.2.2.1, rfl⟩
    · skip
      refine e_iloadn (pc := 18) dX6_figure_18 rfl ?_
      refine e_iconst (v := 0) (pc := 19) dX6_figure_19 (by decide) ?_
      refine e_bipush (v := 40) (pc := 20) dX6_figure_20 (by decide) ?_
      refine e_csD (pc := 22) (sp_isWithin) dX6_figure_22 kX6_86 rfl rfl (mc_CR_of (Nat.le_of_ble_eq_true rfl) (Nat.le_of_ble_eq_true rfl) (Nat.le_refl _) (Nat.le_refl _)) (Nat.le_of_ble_eq_true rfl) ?_
      refine e_if_ne (pc := 25) dX6_figure_25 (t := 31) (by decide) (fun c_25 => ?_) (fun c_25 => ?_)
      · skip
        refine e_aloadn (pc := 31) dX6_figure_31 rfl ?_
        refine e_iloadn (pc := 32) dX6_figure_32 rfl ?_
        refine e_cvX (pc := 33) (sp_x_handOf hO (mc_b1.mp c_5)) dX6_figure_33 kX6_121 rfl rfl rfl rfl rfl (mc_CR_of (Nat.le_of_ble_eq_true rfl) (Nat.le_of_ble_eq_true rfl) (Nat.le_refl _) (Nat.le_refl _)) (Nat.le_of_ble_eq_true rfl) (fun w1 hw1 => ?_)
        obtain ⟨u1, c1, hH, hk1, rfl⟩ := hw1
        refine e_asw4 (pc := 36) dX6_figure_36 (Nat.le_of_ble_eq_true rfl) rfl ?_
        refine e_aload (pc := 38) dX6_figure_38 rfl ?_
        refine e_iloadn (pc := 40) dX6_figure_40 rfl ?_
        refine e_cvY (pc := 41) (sp_x_write hH (hH.mk (wi_num (mc_b1.mp c_15)))) dX6_figure_41 kX6_135 rfl rfl rfl rfl rfl (mc_CR_of (Nat.le_of_ble_eq_true rfl) (Nat.le_of_ble_eq_true rfl) (Nat.le_refl _) (Nat.le_refl _)) (Nat.le_of_ble_eq_true rfl) (fun w1 hw1 => ?_)
        obtain ⟨u2, c2, hH2, hk2, hF, rfl⟩ := hw1
        refine e_iloadn (pc := 44) dX6_figure_44 rfl ?_
        refine e_if_ne (pc := 45) dX6_figure_45 (t := 54) (by decide) (fun c_45 => ?_) (fun c_45 => ?_)
        · skip
          refine e_iloadn (pc := 54) dX6_figure_54 rfl ?_
          refine e_aload (pc := 55) dX6_figure_55 rfl ?_
          refine e_cvD (pc := 57) (sp_x_many) dX6_figure_57 kX6_138 rfl rfl rfl rfl rfl (mc_CR_of (Nat.le_of_ble_eq_true rfl) (Nat.le_of_ble_eq_true rfl) (Nat.le_refl _) (Nat.le_refl _)) (Nat.le_of_ble_eq_true rfl) ?_
          rw [hF.1]
          refine e_icmp_le (pc := 60) dX6_figure_60 (t := 67) (by decide) (fun c_60 => ?_) (fun c_60 => ?_)
          · skip
            refine e_aload (pc := 67) dX6_figure_67 rfl ?_
            refine e_iloadn (pc := 69) dX6_figure_69 rfl ?_
            refine e_iconst (v := 1) (pc := 70) dX6_figure_70 (by decide) ?_
            refine e_isub (pc := 71) dX6_figure_71 ?_
            refine e_cvD (pc := 72) (sp_x_written (j := (w - 1).toNatClampNeg) hF (hw1 (mc_b1.mp c_25) c_45).1 ((hw1 (mc_b1.mp c_25) c_45).2 c_60)) dX6_figure_72 kX6_141 rfl rfl rfl rfl rfl (mc_CR_of (Nat.le_of_ble_eq_true rfl) (Nat.le_of_ble_eq_true rfl) (Nat.le_refl _) (Nat.le_refl _)) (Nat.le_of_ble_eq_true rfl) ?_
            exact e_iret (pc := 75) dX6_figure_75 rfl (Nat.le_refl _) (Nat.le_refl _) ⟨by unfold xfig; rw [if_neg (by rw [mc_b1.mp c_5]; decide), if_neg (by simp only [mc_b0, mc_b1, Bool.not_eq_false] at *; simp_all)]; rw [if_neg c_45, if_neg (Int32.not_lt.mpr c_60)]; try rfl, u2, c2, _, hH2.C (hk1.trans hk2) hO.2.2.2.2.2.1, rfl⟩
          · skip
            refine e_iconst (v := -1) (pc := 63) dX6_figure_63 (by decide) ?_
            refine e_goto (pc := 64) dX6_figure_64 (t := 75) (by decide) ?_
            exact e_iret (pc := 75) dX6_figure_75 rfl (Nat.le_refl _) (Nat.le_refl _) ⟨by unfold xfig; rw [if_neg (by rw [mc_b1.mp c_5]; decide), if_neg (by simp only [mc_b0, mc_b1, Bool.not_eq_false] at *; simp_all)]; rw [if_neg c_45, if_pos (Int32.not_le.mp c_60)], u2, c2, _, hH2.C (hk1.trans hk2) hO.2.2.2.2.2.1, rfl⟩
        · skip
          refine e_aload (pc := 48) dX6_figure_48 rfl ?_
          refine e_cvD (pc := 50) (sp_x_many) dX6_figure_50 kX6_138 rfl rfl rfl rfl rfl (mc_CR_of (Nat.le_of_ble_eq_true rfl) (Nat.le_of_ble_eq_true rfl) (Nat.le_refl _) (Nat.le_refl _)) (Nat.le_of_ble_eq_true rfl) ?_
          rw [hF.1]
          exact e_iret (pc := 53) dX6_figure_53 rfl (Nat.le_refl _) (Nat.le_refl _) ⟨by unfold xfig; rw [if_neg (by rw [mc_b1.mp c_5]; decide), if_neg (by simp only [mc_b0, mc_b1, Bool.not_eq_false] at *; simp_all)]; rw [if_pos c_45]; try rfl, u2, c2, _, hH2.C (hk1.trans hk2) hO.2.2.2.2.2.1, rfl⟩
      · skip
        refine e_bipush (v := -7) (pc := 28) dX6_figure_28 (by decide) ?_
        exact e_iret (pc := 30) dX6_figure_30 rfl (Nat.le_refl _) (Nat.le_refl _) ⟨by unfold xfig; rw [if_neg (by rw [mc_b1.mp c_5]; decide), if_pos (by simp only [mc_b0, mc_b1, Bool.not_eq_false] at *; simp_all)], u, c, h, hO.2.2.2.2.2.1, rfl⟩
  · skip
    refine e_bipush (v := -5) (pc := 8) dX6_figure_8 (by decide) ?_
    exact e_iret (pc := 10) dX6_figure_10 rfl (Nat.le_refl _) (Nat.le_refl _) ⟨by unfold xfig; rw [if_pos (mc_b0.mp c_5)], u, c, h, hO.2.2.2.2.2.1, rfl⟩
theorem sp_x_readsC {s u m n : Nat → Int32} {a c b d : Nat → List Int32} {q : List (Option Nat)} {h : Nat} {z : mc_W} {T : Nat} {sg : Nat → Nat → List Int32} {w v : Int32} (hO : xOK s a q c z T sg) : mc_T yX6_reads cX6_reads 9 (some .long) 7 [.ref 0, .int w, .int v] (WW s a q u c h m b n d z) (some (.long (xreads s a (sg (tl s)) w v))) (fun w1 => ∃ u1 c1 h1, xC c1 ∧ w1 = (WW s a q u1 c1 h1 m b n d z)) := by
  refine mc_start (own := RX6) (ini := false) rfl (by decide +kernel) (fun h => by cases h) (Nat.le_of_ble_eq_true rfl) ?_
  show mc_E _ _ _ _ _ [some (.ref 0), some (.int w), some (.int v), none, none, none, none, none, none] [] _ _ _
  refine e_iloadn (pc := 0) dX6_reads_0 rfl ?_
  refine e_bipush (v := 100) (pc := 1) dX6_reads_1 (by decide) ?_
  refine e_idiv (pc := 3) dX6_reads_3 (by decide) ?_
  refine e_isn3 (pc := 4) dX6_reads_4 (Nat.le_of_ble_eq_true rfl) rfl ?_
  refine e_iloadn (pc := 5) dX6_reads_5 rfl ?_
  refine e_bipush (v := 100) (pc := 6) dX6_reads_6 (by decide) ?_
  refine e_irem (pc := 8) dX6_reads_8 (by decide) ?_
  refine e_isw4 (pc := 9) dX6_reads_9 (Nat.le_of_ble_eq_true rfl) rfl ?_
  refine e_aloadn (pc := 11) dX6_reads_11 rfl ?_
  refine e_iloadn (pc := 12) dX6_reads_12 rfl ?_
  refine e_cvD (pc := 13) (sp_x_isClerk hO.2.1) dX6_reads_13 kX6_115 rfl rfl rfl rfl rfl (mc_CR_of (Nat.le_of_ble_eq_true rfl) (Nat.le_of_ble_eq_true rfl) (Nat.le_refl _) (Nat.le_refl _)) (Nat.le_of_ble_eq_true rfl) ?_
  refine e_if_eq (pc := 16) dX6_reads_16 (t := 28) (by decide) (fun c_16 => ?_) (fun c_16 => ?_)
  · skip
    refine e_ldc2 (pc := 28) dX6_reads_28 qX6_145 ?_
    exact e_lret (pc := 31) dX6_reads_31 rfl (Nat.le_refl _) (Nat.le_refl _) ⟨by unfold xreads; rw [if_pos (by simp only [mc_b0, mc_b1, Bool.not_eq_false] at *; simp_all)], u, c, h, hO.2.2.2.2.2.1, rfl⟩
  · skip
    refine e_aloadn (pc := 19) dX6_reads_19 rfl ?_
    refine e_iload (pc := 20) dX6_reads_20 rfl ?_
    refine e_cvD (pc := 22) (sp_x_isClerk hO.2.1) dX6_reads_22 kX6_115 rfl rfl rfl rfl rfl (mc_CR_of (Nat.le_of_ble_eq_true rfl) (Nat.le_of_ble_eq_true rfl) (Nat.le_refl _) (Nat.le_refl _)) (Nat.le_of_ble_eq_true rfl) ?_
    refine e_if_ne (pc := 25) dX6_reads_25 (t := 32) (by decide) (fun c_25 => ?_) (fun c_25 => ?_)
    · skip
      refine e_iloadn (pc := 32) dX6_reads_32 rfl ?_
      refine e_csD (pc := 33) (sp_isNumber) dX6_reads_33 kX6_118 rfl rfl (mc_CR_of (Nat.le_of_ble_eq_true rfl) (Nat.le_of_ble_eq_true rfl) (Nat.le_refl _) (Nat.le_refl _)) (Nat.le_of_ble_eq_true rfl) ?_
      refine e_if_ne (pc := 36) dX6_reads_36 (t := 43) (by decide) (fun c_36 => ?_) (fun c_36 => ?_)
      · skip
        refine e_aloadn (pc := 43) dX6_reads_43 rfl ?_
        refine e_iloadn (pc := 44) dX6_reads_44 rfl ?_
        refine e_cvX (pc := 45) (sp_x_handOf hO (mc_b1.mp c_16)) dX6_reads_45 kX6_121 rfl rfl rfl rfl rfl (mc_CR_of (Nat.le_of_ble_eq_true rfl) (Nat.le_of_ble_eq_true rfl) (Nat.le_refl _) (Nat.le_refl _)) (Nat.le_of_ble_eq_true rfl) (fun w1 hw1 => ?_)
        obtain ⟨u1, c1, hH, hk1, rfl⟩ := hw1
        refine e_asw5 (pc := 48) dX6_reads_48 (Nat.le_of_ble_eq_true rfl) rfl ?_
        refine e_aload (pc := 50) dX6_reads_50 rfl ?_
        refine e_cvD (pc := 52) (sp_x_figures hH) dX6_reads_52 kX6_129 rfl rfl rfl rfl rfl (mc_CR_of (Nat.le_of_ble_eq_true rfl) (Nat.le_of_ble_eq_true rfl) (Nat.le_refl _) (Nat.le_refl _)) (Nat.le_of_ble_eq_true rfl) ?_
        refine e_isw6 (pc := 55) dX6_reads_55 (Nat.le_of_ble_eq_true rfl) rfl ?_
        refine e_aload (pc := 57) dX6_reads_57 rfl ?_
        refine e_cvD (pc := 59) (sp_x_isTurned hH) dX6_reads_59 kX6_132 rfl rfl rfl rfl rfl (mc_CR_of (Nat.le_of_ble_eq_true rfl) (Nat.le_of_ble_eq_true rfl) (Nat.le_refl _) (Nat.le_refl _)) (Nat.le_of_ble_eq_true rfl) ?_
        refine e_isw7 (pc := 62) dX6_reads_62 (Nat.le_of_ble_eq_true rfl) rfl ?_
        refine e_aloadn (pc := 64) dX6_reads_64 rfl ?_
        refine e_iload (pc := 65) dX6_reads_65 rfl ?_
        refine e_cvX (pc := 67) (sp_x_handOf (hO.c (hH.C hk1 hO.2.2.2.2.2.1)) (mc_b1.mp c_25)) dX6_reads_67 kX6_121 rfl rfl rfl rfl rfl (mc_CR_of (Nat.le_of_ble_eq_true rfl) (Nat.le_of_ble_eq_true rfl) (Nat.le_refl _) (Nat.le_refl _)) (Nat.le_of_ble_eq_true rfl) (fun w1 hw1 => ?_)
        obtain ⟨u2, c2, hH2, hk2, rfl⟩ := hw1
        refine e_asw8 (pc := 70) dX6_reads_70 (Nat.le_of_ble_eq_true rfl) rfl ?_
        refine e_aload (pc := 72) dX6_reads_72 rfl ?_
        refine e_iloadn (pc := 74) dX6_reads_74 rfl ?_
        refine e_cvY (pc := 75) (sp_x_write hH2 (hH2.mk (wi_num (mc_b1.mp c_36)))) dX6_reads_75 kX6_135 rfl rfl rfl rfl rfl (mc_CR_of (Nat.le_of_ble_eq_true rfl) (Nat.le_of_ble_eq_true rfl) (Nat.le_refl _) (Nat.le_refl _)) (Nat.le_of_ble_eq_true rfl) (fun w1 hw1 => ?_)
        obtain ⟨u3, c3, hH3, hk3, hF, rfl⟩ := hw1
        refine e_aload (pc := 78) dX6_reads_78 rfl ?_
        refine e_iload (pc := 80) dX6_reads_80 rfl ?_
        refine e_iload (pc := 82) dX6_reads_82 rfl ?_
        refine e_cvD (pc := 84) (sp_x_readWith hF) dX6_reads_84 kX6_149 rfl rfl rfl rfl rfl (mc_CR_of (Nat.le_of_ble_eq_true rfl) (Nat.le_of_ble_eq_true rfl) (Nat.le_refl _) (Nat.le_refl _)) (Nat.le_of_ble_eq_true rfl) ?_
        exact e_lret (pc := 87) dX6_reads_87 rfl (Nat.le_refl _) (Nat.le_refl _) ⟨by unfold xreads; rw [if_neg (show ¬ (mc_wi (w / 100) 0 (s 2 - 1) && mc_wi (w - w / 100 * 100) 0 (s 2 - 1)) = false by rw [mc_b1.mp c_16, mc_b1.mp c_25]; decide), if_neg (show ¬ mc_wi v 0 99999 = false by rw [mc_b1.mp c_36]; decide)]; try rfl, u3, c3, _, hH3.C ((hk1.trans hk2).trans hk3) hO.2.2.2.2.2.1, rfl⟩
      · skip
        refine e_ldc2 (pc := 39) dX6_reads_39 qX6_147 ?_
        exact e_lret (pc := 42) dX6_reads_42 rfl (Nat.le_refl _) (Nat.le_refl _) ⟨by unfold xreads; rw [if_neg (show ¬ (mc_wi (w / 100) 0 (s 2 - 1) && mc_wi (w - w / 100 * 100) 0 (s 2 - 1)) = false by rw [mc_b1.mp c_16, mc_b1.mp c_25]; decide), if_pos (mc_b0.mp c_36)], u, c, h, hO.2.2.2.2.2.1, rfl⟩
    · skip
      refine e_ldc2 (pc := 28) dX6_reads_28 qX6_145 ?_
      exact e_lret (pc := 31) dX6_reads_31 rfl (Nat.le_refl _) (Nat.le_refl _) ⟨by unfold xreads; rw [if_pos (by simp only [mc_b0, mc_b1, Bool.not_eq_false] at *; simp_all)], u, c, h, hO.2.2.2.2.2.1, rfl⟩
theorem lp_x_sure {s u m n : Nat → Int32} {a c b d : Nat → List Int32} {q : List (Option Nat)} {h : Nat} {z : mc_W} {Post : Option Value → mc_W → Prop} {k v x : Int32} {xs : List Int32} {V : Int64} (hF : xRw u c xs)
    (hK : mc_E RX6 cX6_sure 9 (mc_JM (some .long) false 7 0 0 Post) 81 [some (.ref 0), some (.int k), some (.int v), some (.ref 17), some (.long (100 - x).toInt64), none, some (.long V), none, some (.int (nI xs.length))] [] (WW s a q u c h m b n d z) 0 0) :
    ∀ (g i : Nat) (S : Int64), i + g = xs.length → ysr x g S = V →
      mc_E RX6 cX6_sure 9 (mc_JM (some .long) false 7 0 0 Post) 55 [some (.ref 0), some (.int k), some (.int v), some (.ref 17), some (.long (100 - x).toInt64), none, some (.long S), none, some (.int (nI i))] [] (WW s a q u c h m b n d z) 0 0 := by
  intro g
  induction g with
  | zero =>
    intro i S hi hV
    have e : i = xs.length := by omega
    subst e
    simp only [ysr] at hV
    subst hV
    refine e_iload (pc := 55) dX6_sure_55 rfl ?_
    refine e_aloadn (pc := 57) dX6_sure_57 rfl ?_
    refine e_cvD (pc := 58) (sp_x_many) dX6_sure_58 kX6_138 rfl rfl rfl rfl rfl (mc_CR_of (Nat.le_of_ble_eq_true rfl) (Nat.le_of_ble_eq_true rfl) (Nat.le_refl _) (Nat.le_refl _)) (Nat.le_of_ble_eq_true rfl) ?_
    rw [hF.1]
    refine e_icmp_ge (pc := 61) dX6_sure_61 (t := 81) (by decide) (fun _ => ?_) (fun c_61 => absurd (nI_le (Nat.le_refl _) (by have := hF.2.2.2; omega)) c_61)
    exact hK
  | succ g ih =>
    intro i S hi hV
    simp only [ysr] at hV
    have hi1 : i < xs.length := by omega
    have h17 := hF.2.2.2
    refine e_iload (pc := 55) dX6_sure_55 rfl ?_
    refine e_aloadn (pc := 57) dX6_sure_57 rfl ?_
    refine e_cvD (pc := 58) (sp_x_many) dX6_sure_58 kX6_138 rfl rfl rfl rfl rfl (mc_CR_of (Nat.le_of_ble_eq_true rfl) (Nat.le_of_ble_eq_true rfl) (Nat.le_refl _) (Nat.le_refl _)) (Nat.le_of_ble_eq_true rfl) ?_
    rw [hF.1]
    refine e_icmp_ge (pc := 61) dX6_sure_61 (t := 81) (by decide) (fun c_61 => absurd c_61 (nI_ge (by omega) (by omega))) (fun _ => ?_)
    refine e_lload (pc := 64) dX6_sure_64 rfl ?_
    refine e_lload (pc := 66) dX6_sure_66 rfl ?_
    refine e_lmul (pc := 68) dX6_sure_68 ?_
    refine e_ldc2 (pc := 69) dX6_sure_69 qX6_214 ?_
    refine e_ldiv (pc := 72) dX6_sure_72 (by decide) ?_
    refine e_lsw6 (pc := 73) dX6_sure_73 (Nat.le_of_ble_eq_true rfl) rfl ?_
    refine e_incC8 (pc := 75) dX6_sure_75 (nI_1 i) (Nat.le_of_ble_eq_true rfl) rfl ?_
    refine e_goto (pc := 78) dX6_sure_78 (t := 55) (by decide) ?_
    exact ih (i + 1) _ (by omega) hV
theorem sp_x_sure {s u m n : Nat → Int32} {a c b d : Nat → List Int32} {q : List (Option Nat)} {h : Nat} {z : mc_W} {T : Nat} {sg : Nat → Nat → List Int32} {k v : Int32} (hO : xOK s a q c z T sg) : mc_T yX6_sure cX6_sure 9 (some .long) 7 [.ref 0, .int k, .int v] (WW s a q u c h m b n d z) (some (.long (xsure s a (sg (tl s)) k v))) (fun w1 => ∃ u1 c1 h1, xC c1 ∧ w1 = (WW s a q u1 c1 h1 m b n d z)) := by
  refine mc_start (own := RX6) (ini := false) rfl (by decide +kernel) (fun h => by cases h) (Nat.le_of_ble_eq_true rfl) ?_
  show mc_E _ _ _ _ _ [some (.ref 0), some (.int k), some (.int v), none, none, none, none, none, none] [] _ _ _
  refine e_aloadn (pc := 0) dX6_sure_0 rfl ?_
  refine e_iloadn (pc := 1) dX6_sure_1 rfl ?_
  refine e_cvD (pc := 2) (sp_x_isClerk hO.2.1) dX6_sure_2 kX6_115 rfl rfl rfl rfl rfl (mc_CR_of (Nat.le_of_ble_eq_true rfl) (Nat.le_of_ble_eq_true rfl) (Nat.le_refl _) (Nat.le_refl _)) (Nat.le_of_ble_eq_true rfl) ?_
  refine e_if_ne (pc := 5) dX6_sure_5 (t := 12) (by decide) (fun c_5 => ?_) (fun c_5 => ?_)
  · skip
    refine e_iloadn (pc := 12) dX6_sure_12 rfl ?_
    refine e_csD (pc := 13) (sp_isNumber) dX6_sure_13 kX6_118 rfl rfl (mc_CR_of (Nat.le_of_ble_eq_true rfl) (Nat.le_of_ble_eq_true rfl) (Nat.le_refl _) (Nat.le_refl _)) (Nat.le_of_ble_eq_true rfl) ?_
    refine e_if_ne (pc := 16) dX6_sure_16 (t := 23) (by decide) (fun c_16 => ?_) (fun c_16 => ?_)
    · skip
      refine e_aloadn (pc := 23) dX6_sure_23 rfl ?_
      refine e_iloadn (pc := 24) dX6_sure_24 rfl ?_
      refine e_cvX (pc := 25) (sp_x_handOf hO (mc_b1.mp c_5)) dX6_sure_25 kX6_121 rfl rfl rfl rfl rfl (mc_CR_of (Nat.le_of_ble_eq_true rfl) (Nat.le_of_ble_eq_true rfl) (Nat.le_refl _) (Nat.le_refl _)) (Nat.le_of_ble_eq_true rfl) (fun w1 hw1 => ?_)
      obtain ⟨u1, c1, hH, hk1, rfl⟩ := hw1
      refine e_asn3 (pc := 28) dX6_sure_28 (Nat.le_of_ble_eq_true rfl) rfl ?_
      refine e_aloadn (pc := 29) dX6_sure_29 rfl ?_
      refine e_iloadn (pc := 30) dX6_sure_30 rfl ?_
      refine e_cvY (pc := 31) (sp_x_write hH (hH.mk (wi_num (mc_b1.mp c_16)))) dX6_sure_31 kX6_135 rfl rfl rfl rfl rfl (mc_CR_of (Nat.le_of_ble_eq_true rfl) (Nat.le_of_ble_eq_true rfl) (Nat.le_refl _) (Nat.le_refl _)) (Nat.le_of_ble_eq_true rfl) (fun w1 hw1 => ?_)
      obtain ⟨u2, c2, hH2, hk2, hF, rfl⟩ := hw1
      refine e_bipush (v := 100) (pc := 34) dX6_sure_34 (by decide) ?_
      refine e_aloadn (pc := 36) dX6_sure_36 rfl ?_
      refine e_iconst (v := 1) (pc := 37) dX6_sure_37 (by decide) ?_
      refine e_iloadn (pc := 38) dX6_sure_38 rfl ?_
      refine e_iconst (v := 0) (pc := 39) dX6_sure_39 (by decide) ?_
      refine e_cvX (pc := 40) (sp_x_says1 hH2) dX6_sure_40 kX6_125 rfl rfl rfl rfl rfl (mc_CR_of (Nat.le_of_ble_eq_true rfl) (Nat.le_of_ble_eq_true rfl) (Nat.le_refl _) (Nat.le_refl _)) (Nat.le_of_ble_eq_true rfl) (fun w1 hw1 => ?_)
      obtain ⟨c3, hH3, hk3, hr3, rfl⟩ := hw1
      refine e_isub (pc := 43) dX6_sure_43 ?_
      refine e_i2l (pc := 44) dX6_sure_44 ?_
      refine e_lsw4 (pc := 45) dX6_sure_45 (Nat.le_of_ble_eq_true rfl) rfl ?_
      refine e_ldc2 (pc := 47) dX6_sure_47 qX6_212 ?_
      refine e_lsw6 (pc := 50) dX6_sure_50 (Nat.le_of_ble_eq_true rfl) rfl ?_
      refine e_iconst (v := 0) (pc := 52) dX6_sure_52 (by decide) ?_
      refine e_isw8 (pc := 53) dX6_sure_53 (Nat.le_of_ble_eq_true rfl) rfl ?_
      have hF3 : xRw u2 c3 (xwr s a (sg (tl s)) k v) := ⟨hF.1, by rw [hr3]; exact hF.2.1, by rw [hr3]; exact hF.2.2.1, hF.2.2.2⟩
      refine lp_x_sure (V := ysr (xask s a (sg (tl s)) 1 k v 0) (xwr s a (sg (tl s)) k v).length 1000000000) hF3 ?_ (xwr s a (sg (tl s)) k v).length 0 1000000000 (by omega) rfl
      refine e_lload (pc := 81) dX6_sure_81 rfl ?_
      exact e_lret (pc := 83) dX6_sure_83 rfl (Nat.le_refl _) (Nat.le_refl _) ⟨by unfold xsure; rw [if_neg (by rw [mc_b1.mp c_5]; decide), if_neg (by simp only [mc_b0, mc_b1, Bool.not_eq_false] at *; simp_all)], u2, c3, _, hH3.C ((hk1.trans hk2).trans hk3) hO.2.2.2.2.2.1, rfl⟩
    · skip
      refine e_ldc2 (pc := 19) dX6_sure_19 qX6_147 ?_
      exact e_lret (pc := 22) dX6_sure_22 rfl (Nat.le_refl _) (Nat.le_refl _) ⟨by unfold xsure; rw [if_neg (by rw [mc_b1.mp c_5]; decide), if_pos (by simp only [mc_b0, mc_b1, Bool.not_eq_false] at *; simp_all)], u, c, h, hO.2.2.2.2.2.1, rfl⟩
  · skip
    refine e_ldc2 (pc := 8) dX6_sure_8 qX6_145 ?_
    exact e_lret (pc := 11) dX6_sure_11 rfl (Nat.le_refl _) (Nat.le_refl _) ⟨by unfold xsure; rw [if_pos (mc_b0.mp c_5)], u, c, h, hO.2.2.2.2.2.1, rfl⟩
theorem sp_x_pay {s u m n : Nat → Int32} {a c b d : Nat → List Int32} {q : List (Option Nat)} {h : Nat} {z : mc_W} {T : Nat} {sg : Nat → Nat → List Int32} {k fg mu : Int32} (hO : xOK s a q c z T sg) : mc_T yX6_pay cX6_pay 7 (some .int) 6 [.ref 0, .int k, .int fg, .int mu] (WW s a q u c h m b n d z) (some (.int (xpay s a (sg (tl s)) k fg mu))) (fun w1 => ∃ u1 c1 h1, xC c1 ∧ w1 = (WW s (xpya s a (sg (tl s)) k fg mu) q u1 c1 h1 m b n d z)) := by
  refine mc_start (own := RX6) (ini := false) rfl (by decide +kernel) (fun h => by cases h) (Nat.le_of_ble_eq_true rfl) ?_
  show mc_E _ _ _ _ _ [some (.ref 0), some (.int k), some (.int fg), some (.int mu), none, none, none] [] _ _ _
  have hL3 := hO.1.2.2.2.1
  have hD : ∀ x, xpyc s a k fg mu = x → ¬ x = 0 → xpay s a (sg (tl s)) k fg mu = x ∧ xpya s a (sg (tl s)) k fg mu = a := fun x q r => by
    unfold xpay xpya; rw [q, if_neg r, if_neg r]; exact ⟨rfl, rfl⟩
  have hE : xpyc s a k fg mu = 0 → xpay s a (sg (tl s)) k fg mu = xpyv s a (sg (tl s)) k fg mu ∧ xpya s a (sg (tl s)) k fg mu = mc_up a 3 ((a 3).set (6 * (fg / 10) + (fg - fg / 10 * 10)).toNatClampNeg (xpyv s a (sg (tl s)) k fg mu)) := fun q => by
    unfold xpay xpya; rw [q, if_pos rfl, if_pos rfl]; exact ⟨rfl, rfl⟩
  refine e_aloadn (pc := 0) dX6_pay_0 rfl ?_
  refine e_iloadn (pc := 1) dX6_pay_1 rfl ?_
  refine e_cvD (pc := 2) (sp_x_isClerk hO.2.1) dX6_pay_2 kX6_115 rfl rfl rfl rfl rfl (mc_CR_of (Nat.le_of_ble_eq_true rfl) (Nat.le_of_ble_eq_true rfl) (Nat.le_refl _) (Nat.le_refl _)) (Nat.le_of_ble_eq_true rfl) ?_
  refine e_if_ne (pc := 5) dX6_pay_5 (t := 11) (by decide) (fun c_5 => ?_) (fun c_5 => ?_)
  · skip
    refine e_iloadn (pc := 11) dX6_pay_11 rfl ?_
    refine e_bipush (v := 10) (pc := 12) dX6_pay_12 (by decide) ?_
    refine e_idiv (pc := 14) dX6_pay_14 (by decide) ?_
    refine e_isw4 (pc := 15) dX6_pay_15 (Nat.le_of_ble_eq_true rfl) rfl ?_
    refine e_iloadn (pc := 17) dX6_pay_17 rfl ?_
    refine e_bipush (v := 10) (pc := 18) dX6_pay_18 (by decide) ?_
    refine e_irem (pc := 20) dX6_pay_20 (by decide) ?_
    refine e_isw5 (pc := 21) dX6_pay_21 (Nat.le_of_ble_eq_true rfl) rfl ?_
    refine e_iload (pc := 23) dX6_pay_23 rfl ?_
    refine e_iload (pc := 25) dX6_pay_25 rfl ?_
    refine e_csD (pc := 27) (sp_areTwoFolk) dX6_pay_27 kX6_231 rfl rfl (mc_CR_of (Nat.le_of_ble_eq_true rfl) (Nat.le_of_ble_eq_true rfl) (Nat.le_refl _) (Nat.le_refl _)) (Nat.le_of_ble_eq_true rfl) ?_
    refine e_if_ne (pc := 30) dX6_pay_30 (t := 36) (by decide) (fun c_30 => ?_) (fun c_30 => ?_)
    · skip
      refine e_iloadn (pc := 36) dX6_pay_36 rfl ?_
      refine e_iconst (v := 0) (pc := 37) dX6_pay_37 (by decide) ?_
      refine e_sipush (v := 9999) (pc := 38) dX6_pay_38 (by decide) ?_
      refine e_csD (pc := 41) (sp_isWithin) dX6_pay_41 kX6_86 rfl rfl (mc_CR_of (Nat.le_of_ble_eq_true rfl) (Nat.le_of_ble_eq_true rfl) (Nat.le_refl _) (Nat.le_refl _)) (Nat.le_of_ble_eq_true rfl) ?_
      refine e_if_ne (pc := 44) dX6_pay_44 (t := 50) (by decide) (fun c_44 => ?_) (fun c_44 => ?_)
      · skip
        refine e_aloadn (pc := 50) dX6_pay_50 rfl ?_
        refine e_get (pc := 51) dX6_pay_51 fX6_55 rfl rfl ?_
        refine e_iload (pc := 54) dX6_pay_54 rfl ?_
        refine e_iload (pc := 56) dX6_pay_56 rfl ?_
        refine e_cvD (pc := 58) (sp_x_of hL3) dX6_pay_58 kX6_235 rfl rfl rfl rfl rfl (mc_CR_of (Nat.le_of_ble_eq_true rfl) (Nat.le_of_ble_eq_true rfl) (Nat.le_refl _) (Nat.le_refl _)) (Nat.le_of_ble_eq_true rfl) ?_
        rw [xof_fo (mc_b1.mp c_30)]
        refine e_iloadn (pc := 61) dX6_pay_61 rfl ?_
        refine e_isub (pc := 62) dX6_pay_62 ?_
        refine e_isw6 (pc := 63) dX6_pay_63 (Nat.le_of_ble_eq_true rfl) rfl ?_
        refine e_iload (pc := 65) dX6_pay_65 rfl ?_
        refine e_if_ge (pc := 67) dX6_pay_67 (t := 73) (by decide) (fun c_67 => ?_) (fun c_67 => ?_)
        · skip
          refine e_iload (pc := 73) dX6_pay_73 rfl ?_
          refine e_if_ne (pc := 75) dX6_pay_75 (t := 95) (by decide) (fun c_75 => ?_) (fun c_75 => ?_)
          · skip
            refine e_aloadn (pc := 95) dX6_pay_95 rfl ?_
            refine e_get (pc := 96) dX6_pay_96 fX6_55 rfl rfl ?_
            refine e_iload (pc := 99) dX6_pay_99 rfl ?_
            refine e_iload (pc := 101) dX6_pay_101 rfl ?_
            refine e_iload (pc := 103) dX6_pay_103 rfl ?_
            refine e_cvU (pc := 105) (sp_x_become hL3) dX6_pay_105 kX6_238 rfl rfl rfl rfl rfl (mc_CR_of (Nat.le_of_ble_eq_true rfl) (Nat.le_of_ble_eq_true rfl) (Nat.le_refl _) (Nat.le_refl _)) (Nat.le_of_ble_eq_true rfl) ?_
            rw [xbe, if_pos (mc_b1.mp c_30)]
            refine e_iload (pc := 108) dX6_pay_108 rfl ?_
            exact e_iret (pc := 110) dX6_pay_110 rfl (Nat.le_refl _) (Nat.le_refl _) (by have e0 : xpyc s a k fg mu = 0 := (by unfold xpyc; rw [if_neg (by rw [mc_b1.mp c_5]; decide), if_neg (by rw [mc_b1.mp c_30]; decide), if_neg (by rw [mc_b1.mp c_44]; decide), if_neg (Int32.not_lt.mpr c_67)]); have h2 := hE e0; rw [h2.1, h2.2]; exact ⟨by unfold xpyv; rw [if_neg c_75], u, c, h, hO.2.2.2.2.2.1, by unfold xpyv; rw [if_neg c_75]⟩)
          · skip
            refine e_aloadn (pc := 78) dX6_pay_78 rfl ?_
            refine e_iloadn (pc := 79) dX6_pay_79 rfl ?_
            refine e_cvX (pc := 80) (sp_x_handOf hO (mc_b1.mp c_5)) dX6_pay_80 kX6_121 rfl rfl rfl rfl rfl (mc_CR_of (Nat.le_of_ble_eq_true rfl) (Nat.le_of_ble_eq_true rfl) (Nat.le_refl _) (Nat.le_refl _)) (Nat.le_of_ble_eq_true rfl) (fun w1 hw1 => ?_)
            obtain ⟨u1, c1, hH, hk1, rfl⟩ := hw1
            refine e_iconst (v := 0) (pc := 83) dX6_pay_83 (by decide) ?_
            refine e_cvX (pc := 84) (sp_x_makes hH) dX6_pay_84 kX6_157 rfl rfl rfl rfl rfl (mc_CR_of (Nat.le_of_ble_eq_true rfl) (Nat.le_of_ble_eq_true rfl) (Nat.le_refl _) (Nat.le_refl _)) (Nat.le_of_ble_eq_true rfl) (fun w1 hw1 => ?_)
            obtain ⟨c2, hH2, hk2, -, rfl⟩ := hw1
            refine e_sipush (v := 9999) (pc := 87) dX6_pay_87 (by decide) ?_
            refine e_min (pc := 90) dX6_pay_90 mX6_242 (mc_JR_of (Nat.le_of_ble_eq_true rfl) (Nat.le_refl _) (Nat.le_refl _) (Nat.le_of_ble_eq_true rfl)) ?_
            rw [wn_big (hmk_in hH.2.2.2.2.2.2.1 (by decide)).1]
            refine e_isw6 (pc := 93) dX6_pay_93 (Nat.le_of_ble_eq_true rfl) rfl ?_
            refine e_aloadn (pc := 95) dX6_pay_95 rfl ?_
            refine e_get (pc := 96) dX6_pay_96 fX6_55 rfl rfl ?_
            refine e_iload (pc := 99) dX6_pay_99 rfl ?_
            refine e_iload (pc := 101) dX6_pay_101 rfl ?_
            refine e_iload (pc := 103) dX6_pay_103 rfl ?_
            refine e_cvU (pc := 105) (sp_x_become hL3) dX6_pay_105 kX6_238 rfl rfl rfl rfl rfl (mc_CR_of (Nat.le_of_ble_eq_true rfl) (Nat.le_of_ble_eq_true rfl) (Nat.le_refl _) (Nat.le_refl _)) (Nat.le_of_ble_eq_true rfl) ?_
            rw [xbe, if_pos (mc_b1.mp c_30)]
            refine e_iload (pc := 108) dX6_pay_108 rfl ?_
            exact e_iret (pc := 110) dX6_pay_110 rfl (Nat.le_refl _) (Nat.le_refl _) (by have e0 : xpyc s a k fg mu = 0 := (by unfold xpyc; rw [if_neg (by rw [mc_b1.mp c_5]; decide), if_neg (by rw [mc_b1.mp c_30]; decide), if_neg (by rw [mc_b1.mp c_44]; decide), if_neg (Int32.not_lt.mpr c_67)]); have h2 := hE e0; rw [h2.1, h2.2]; exact ⟨by unfold xpyv; rw [if_pos c_75], u1, c2, _, hH2.C (hk1.trans hk2) hO.2.2.2.2.2.1, by unfold xpyv; rw [if_pos c_75]⟩)
        · skip
          refine e_bipush (v := -3) (pc := 70) dX6_pay_70 (by decide) ?_
          exact e_iret (pc := 72) dX6_pay_72 rfl (Nat.le_refl _) (Nat.le_refl _) (by have := hD (-3) (by unfold xpyc; rw [if_neg (by rw [mc_b1.mp c_5]; decide), if_neg (by rw [mc_b1.mp c_30]; decide), if_neg (by rw [mc_b1.mp c_44]; decide), if_pos (Int32.not_le.mp c_67)]) (by decide); rw [this.1, this.2]; exact ⟨rfl, u, c, h, hO.2.2.2.2.2.1, rfl⟩)
      · skip
        refine e_bipush (v := -7) (pc := 47) dX6_pay_47 (by decide) ?_
        exact e_iret (pc := 49) dX6_pay_49 rfl (Nat.le_refl _) (Nat.le_refl _) (by have := hD (-7) (by unfold xpyc; rw [if_neg (by rw [mc_b1.mp c_5]; decide), if_neg (by rw [mc_b1.mp c_30]; decide), if_pos (mc_b0.mp c_44)]) (by decide); rw [this.1, this.2]; exact ⟨rfl, u, c, h, hO.2.2.2.2.2.1, rfl⟩)
    · skip
      refine e_bipush (v := -5) (pc := 33) dX6_pay_33 (by decide) ?_
      exact e_iret (pc := 35) dX6_pay_35 rfl (Nat.le_refl _) (Nat.le_refl _) (by have := hD (-5) (by unfold xpyc; rw [if_neg (by rw [mc_b1.mp c_5]; decide), if_pos (mc_b0.mp c_30)]) (by decide); rw [this.1, this.2]; exact ⟨rfl, u, c, h, hO.2.2.2.2.2.1, rfl⟩)
  · skip
    refine e_bipush (v := -6) (pc := 8) dX6_pay_8 (by decide) ?_
    exact e_iret (pc := 10) dX6_pay_10 rfl (Nat.le_refl _) (Nat.le_refl _) (by have := hD (-6) (by unfold xpyc; rw [if_pos (mc_b0.mp c_5)]) (by decide); rw [this.1, this.2]; exact ⟨rfl, u, c, h, hO.2.2.2.2.2.1, rfl⟩)
