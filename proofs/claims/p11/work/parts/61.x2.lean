/-! ===== debts ===== -/
theorem vp_in_oo {f g : Int32} {l : List Int32} (hl : l.length = 36) (hf : mc_wi f 0 5 = true) (hg : mc_wi g 0 5 = true) : vp_in (6 * f + g) l.length := by
  rw [mc_wi_iff, i0, show (5 : Int32).toInt = 5 from rfl] at hf hg
  have e1 : (6 * f).toInt = 6 * f.toInt := by
    rw [Int32.toInt_mul, show (6 : Int32).toInt = 6 from rfl, Int.bmod_eq_of_le] <;> omega
  have e2 : (6 * f + g).toInt = 6 * f.toInt + g.toInt := by rw [i32_add (by omega) (by omega), e1]
  rw [vp_in_iff, hl, e2]; omega
/-- what one owes another -/
def xof (o : List Int32) (f g : Int32) : Int32 := if (mc_wi f 0 5 && mc_wi g 0 5) = true then gt o (6 * f + g) else 0
def xbe (o : List Int32) (f g mu : Int32) : List Int32 := if yy_fo f g = true then o.set (6 * f + g).toNatClampNeg mu else o
theorem xbe_len (o : List Int32) (f g mu : Int32) : (xbe o f g mu).length = o.length := by unfold xbe; split <;> simp
theorem mc_up_same {α : Type} {f : Nat → α} {k : Nat} {x : α} (h : x = f k) : mc_up f k x = f := by subst h; exact mc_up_self f k
theorem fo_wi {f g : Int32} (h : yy_fo f g = true) : mc_wi f 0 5 = true ∧ mc_wi g 0 5 = true := by
  unfold yy_fo at h; simp only [Bool.and_eq_true] at h; exact h.1
theorem xof_fo {o : List Int32} {f g : Int32} (h : yy_fo f g = true) : xof o f g = gt o (6 * f + g) := by
  unfold xof; rw [if_pos (by rw [(fo_wi h).1, (fo_wi h).2]; rfl)]
theorem sp_x_of {s u m n : Nat → Int32} {a c b d : Nat → List Int32} {q : List (Option Nat)} {h : Nat} {z : mc_W} {f g : Int32} (hL : (a 3).length = 36) : mc_D yX0_of cX0_of 3 (some .int) 3 [.ref 10, .int f, .int g] (WW s a q u c h m b n d z) (some (.int (xof (a 3) f g))) (WW s a q u c h m b n d z) := by
  refine mc_start (own := RX0) (ini := false) rfl (by decide +kernel) (fun h => by cases h) (Nat.le_of_ble_eq_true rfl) ?_
  show mc_E _ _ _ _ _ [some (.ref 10), some (.int f), some (.int g)] [] _ _ _
  refine e_iloadn (pc := 0) dX0_of_0 rfl ?_
  refine e_cnD (pc := 1) (sp_isFolk) dX0_of_1 kX0_18 rfl rfl (mc_CR_of (Nat.le_of_ble_eq_true rfl) (Nat.le_of_ble_eq_true rfl) (Nat.le_refl _) (Nat.le_refl _)) (Nat.le_of_ble_eq_true rfl) ?_
  refine e_if_eq (pc := 4) dX0_of_4 (t := 28) (by decide) (fun c_4 => ?_) (fun c_4 => ?_)
  · skip
    refine e_iconst (v := 0) (pc := 28) dX0_of_28 (by decide) ?_
    exact e_iret (pc := 29) dX0_of_29 rfl (Nat.le_refl _) (Nat.le_refl _) ⟨by simp_all [xof, gt, mc_b0, mc_b1], rfl⟩
  · skip
    refine e_iloadn (pc := 7) dX0_of_7 rfl ?_
    refine e_cnD (pc := 8) (sp_isFolk) dX0_of_8 kX0_18 rfl rfl (mc_CR_of (Nat.le_of_ble_eq_true rfl) (Nat.le_of_ble_eq_true rfl) (Nat.le_refl _) (Nat.le_refl _)) (Nat.le_of_ble_eq_true rfl) ?_
    refine e_if_eq (pc := 11) dX0_of_11 (t := 28) (by decide) (fun c_11 => ?_) (fun c_11 => ?_)
    · skip
      refine e_iconst (v := 0) (pc := 28) dX0_of_28 (by decide) ?_
      exact e_iret (pc := 29) dX0_of_29 rfl (Nat.le_refl _) (Nat.le_refl _) ⟨by simp_all [xof, gt, mc_b0, mc_b1], rfl⟩
    · skip
      refine e_aloadn (pc := 14) dX0_of_14 rfl ?_
      refine e_get (pc := 15) dX0_of_15 fX0_9 rfl rfl ?_
      refine e_bipush (v := 6) (pc := 18) dX0_of_18 (by decide) ?_
      refine e_iloadn (pc := 20) dX0_of_20 rfl ?_
      refine e_imul (pc := 21) dX0_of_21 ?_
      refine e_iloadn (pc := 22) dX0_of_22 rfl ?_
      refine e_iadd (pc := 23) dX0_of_23 ?_
      refine ald_owed (pc := 24) dX0_of_24 (vp_in_oo hL (mc_b1.mp c_4) (mc_b1.mp c_11)) ?_
      refine e_goto (pc := 25) dX0_of_25 (t := 29) (by decide) ?_
      exact e_iret (pc := 29) dX0_of_29 rfl (Nat.le_refl _) (Nat.le_refl _) ⟨by simp_all [xof, gt, mc_b0, mc_b1], rfl⟩
theorem sp_x_become {s u m n : Nat → Int32} {a c b d : Nat → List Int32} {q : List (Option Nat)} {h : Nat} {z : mc_W} {f g mu : Int32} (hL : (a 3).length = 36) : mc_D yX0_become cX0_become 4 none 4 [.ref 10, .int f, .int g, .int mu] (WW s a q u c h m b n d z) none (WW s (mc_up a 3 (xbe (a 3) f g mu)) q u c h m b n d z) := by
  refine mc_start (own := RX0) (ini := false) rfl (by decide +kernel) (fun h => by cases h) (Nat.le_of_ble_eq_true rfl) ?_
  show mc_E _ _ _ _ _ [some (.ref 10), some (.int f), some (.int g), some (.int mu)] [] _ _ _
  refine e_iloadn (pc := 0) dX0_become_0 rfl ?_
  refine e_iloadn (pc := 1) dX0_become_1 rfl ?_
  refine e_cnD (pc := 2) (sp_areTwoFolk) dX0_become_2 kX0_22 rfl rfl (mc_CR_of (Nat.le_of_ble_eq_true rfl) (Nat.le_of_ble_eq_true rfl) (Nat.le_refl _) (Nat.le_refl _)) (Nat.le_of_ble_eq_true rfl) ?_
  refine e_if_eq (pc := 5) dX0_become_5 (t := 20) (by decide) (fun c_5 => ?_) (fun c_5 => ?_)
  · skip
    exact e_vret (pc := 20) dX0_become_20 rfl (Nat.le_refl _) (Nat.le_refl _) ⟨rfl, by first | (rw [xbe, if_pos (mc_b1.mp c_5)]; done) | (rw [xbe, if_neg (by rw [mc_b0.mp c_5]; decide), mc_up_self])⟩
  · skip
    refine e_aloadn (pc := 8) dX0_become_8 rfl ?_
    refine e_get (pc := 9) dX0_become_9 fX0_9 rfl rfl ?_
    refine e_bipush (v := 6) (pc := 12) dX0_become_12 (by decide) ?_
    refine e_iloadn (pc := 14) dX0_become_14 rfl ?_
    refine e_imul (pc := 15) dX0_become_15 ?_
    refine e_iloadn (pc := 16) dX0_become_16 rfl ?_
    refine e_iadd (pc := 17) dX0_become_17 ?_
    refine e_iloadn (pc := 18) dX0_become_18 rfl ?_
    refine ast_owed (pc := 19) dX0_become_19 (vp_in_oo hL (fo_wi (mc_b1.mp c_5)).1 (fo_wi (mc_b1.mp c_5)).2) ?_
    exact e_vret (pc := 20) dX0_become_20 rfl (Nat.le_refl _) (Nat.le_refl _) ⟨rfl, by first | (rw [xbe, if_pos (mc_b1.mp c_5)]; done) | (rw [xbe, if_neg (by rw [mc_b0.mp c_5]; decide), mc_up_self])⟩
def xall (o : List Int32) (f : Int32) : Int32 := 0 + xof o f 0 + xof o f 1 + xof o f 2 + xof o f 3 + xof o f 4 + xof o f 5
theorem sp_x_allOf {s u m n : Nat → Int32} {a c b d : Nat → List Int32} {q : List (Option Nat)} {h : Nat} {z : mc_W} {f : Int32} (hL : (a 3).length = 36) : mc_D yX0_allOf cX0_allOf 4 (some .int) 4 [.ref 10, .int f] (WW s a q u c h m b n d z) (some (.int (xall (a 3) f))) (WW s a q u c h m b n d z) := by
  refine mc_start (own := RX0) (ini := false) rfl (by decide +kernel) (fun h => by cases h) (Nat.le_of_ble_eq_true rfl) ?_
  show mc_E _ _ _ _ _ [some (.ref 10), some (.int f), none, none] [] _ _ _
  refine e_iconst (v := 0) (pc := 0) dX0_allOf_0 (by decide) ?_
  refine e_isn2 (pc := 1) dX0_allOf_1 (Nat.le_of_ble_eq_true rfl) rfl ?_
  refine e_iconst (v := 0) (pc := 2) dX0_allOf_2 (by decide) ?_
  refine e_isn3 (pc := 3) dX0_allOf_3 (Nat.le_of_ble_eq_true rfl) rfl ?_
  refine e_iloadn (pc := 4) dX0_allOf_4 rfl ?_
  refine e_bipush (v := 6) (pc := 5) dX0_allOf_5 (by decide) ?_
  refine e_icmp_ge (pc := 7) dX0_allOf_7 (t := 25) (by decide) (fun c_7 => absurd c_7 (by decide)) (fun _ => ?_)
  refine e_iloadn (pc := 10) dX0_allOf_10 rfl ?_
  refine e_aloadn (pc := 11) dX0_allOf_11 rfl ?_
  refine e_iloadn (pc := 12) dX0_allOf_12 rfl ?_
  refine e_iloadn (pc := 13) dX0_allOf_13 rfl ?_
  refine e_cvD (pc := 14) (sp_x_of hL) dX0_allOf_14 kX0_26 rfl rfl rfl rfl rfl (mc_CR_of (Nat.le_of_ble_eq_true rfl) (Nat.le_of_ble_eq_true rfl) (Nat.le_refl _) (Nat.le_refl _)) (Nat.le_of_ble_eq_true rfl) ?_
  refine e_iadd (pc := 17) dX0_allOf_17 ?_
  refine e_isn2 (pc := 18) dX0_allOf_18 (Nat.le_of_ble_eq_true rfl) rfl ?_
  refine e_incC3 (pc := 19) (v := 1) dX0_allOf_19 (by decide) (Nat.le_of_ble_eq_true rfl) rfl ?_
  refine e_goto (pc := 22) dX0_allOf_22 (t := 4) (by decide) ?_
  refine e_iloadn (pc := 4) dX0_allOf_4 rfl ?_
  refine e_bipush (v := 6) (pc := 5) dX0_allOf_5 (by decide) ?_
  refine e_icmp_ge (pc := 7) dX0_allOf_7 (t := 25) (by decide) (fun c_7 => absurd c_7 (by decide)) (fun _ => ?_)
  refine e_iloadn (pc := 10) dX0_allOf_10 rfl ?_
  refine e_aloadn (pc := 11) dX0_allOf_11 rfl ?_
  refine e_iloadn (pc := 12) dX0_allOf_12 rfl ?_
  refine e_iloadn (pc := 13) dX0_allOf_13 rfl ?_
  refine e_cvD (pc := 14) (sp_x_of hL) dX0_allOf_14 kX0_26 rfl rfl rfl rfl rfl (mc_CR_of (Nat.le_of_ble_eq_true rfl) (Nat.le_of_ble_eq_true rfl) (Nat.le_refl _) (Nat.le_refl _)) (Nat.le_of_ble_eq_true rfl) ?_
  refine e_iadd (pc := 17) dX0_allOf_17 ?_
  refine e_isn2 (pc := 18) dX0_allOf_18 (Nat.le_of_ble_eq_true rfl) rfl ?_
  refine e_incC3 (pc := 19) (v := 2) dX0_allOf_19 (by decide) (Nat.le_of_ble_eq_true rfl) rfl ?_
  refine e_goto (pc := 22) dX0_allOf_22 (t := 4) (by decide) ?_
  refine e_iloadn (pc := 4) dX0_allOf_4 rfl ?_
  refine e_bipush (v := 6) (pc := 5) dX0_allOf_5 (by decide) ?_
  refine e_icmp_ge (pc := 7) dX0_allOf_7 (t := 25) (by decide) (fun c_7 => absurd c_7 (by decide)) (fun _ => ?_)
  refine e_iloadn (pc := 10) dX0_allOf_10 rfl ?_
  refine e_aloadn (pc := 11) dX0_allOf_11 rfl ?_
  refine e_iloadn (pc := 12) dX0_allOf_12 rfl ?_
  refine e_iloadn (pc := 13) dX0_allOf_13 rfl ?_
  refine e_cvD (pc := 14) (sp_x_of hL) dX0_allOf_14 kX0_26 rfl rfl rfl rfl rfl (mc_CR_of (Nat.le_of_ble_eq_true rfl) (Nat.le_of_ble_eq_true rfl) (Nat.le_refl _) (Nat.le_refl _)) (Nat.le_of_ble_eq_true rfl) ?_
  refine e_iadd (pc := 17) dX0_allOf_17 ?_
  refine e_isn2 (pc := 18) dX0_allOf_18 (Nat.le_of_ble_eq_true rfl) rfl ?_
  refine e_incC3 (pc := 19) (v := 3) dX0_allOf_19 (by decide) (Nat.le_of_ble_eq_true rfl) rfl ?_
  refine e_goto (pc := 22) dX0_allOf_22 (t := 4) (by decide) ?_
  refine e_iloadn (pc := 4) dX0_allOf_4 rfl ?_
  refine e_bipush (v := 6) (pc := 5) dX0_allOf_5 (by decide) ?_
  refine e_icmp_ge (pc := 7) dX0_allOf_7 (t := 25) (by decide) (fun c_7 => absurd c_7 (by decide)) (fun _ => ?_)
  refine e_iloadn (pc := 10) dX0_allOf_10 rfl ?_
  refine e_aloadn (pc := 11) dX0_allOf_11 rfl ?_
  refine e_iloadn (pc := 12) dX0_allOf_12 rfl ?_
  refine e_iloadn (pc := 13) dX0_allOf_13 rfl ?_
  refine e_cvD (pc := 14) (sp_x_of hL) dX0_allOf_14 kX0_26 rfl rfl rfl rfl rfl (mc_CR_of (Nat.le_of_ble_eq_true rfl) (Nat.le_of_ble_eq_true rfl) (Nat.le_refl _) (Nat.le_refl _)) (Nat.le_of_ble_eq_true rfl) ?_
  refine e_iadd (pc := 17) dX0_allOf_17 ?_
  refine e_isn2 (pc := 18) dX0_allOf_18 (Nat.le_of_ble_eq_true rfl) rfl ?_
  refine e_incC3 (pc := 19) (v := 4) dX0_allOf_19 (by decide) (Nat.le_of_ble_eq_true rfl) rfl ?_
  refine e_goto (pc := 22) dX0_allOf_22 (t := 4) (by decide) ?_
  refine e_iloadn (pc := 4) dX0_allOf_4 rfl ?_
  refine e_bipush (v := 6) (pc := 5) dX0_allOf_5 (by decide) ?_
  refine e_icmp_ge (pc := 7) dX0_allOf_7 (t := 25) (by decide) (fun c_7 => absurd c_7 (by decide)) (fun _ => ?_)
  refine e_iloadn (pc := 10) dX0_allOf_10 rfl ?_
  refine e_aloadn (pc := 11) dX0_allOf_11 rfl ?_
  refine e_iloadn (pc := 12) dX0_allOf_12 rfl ?_
  refine e_iloadn (pc := 13) dX0_allOf_13 rfl ?_
  refine e_cvD (pc := 14) (sp_x_of hL) dX0_allOf_14 kX0_26 rfl rfl rfl rfl rfl (mc_CR_of (Nat.le_of_ble_eq_true rfl) (Nat.le_of_ble_eq_true rfl) (Nat.le_refl _) (Nat.le_refl _)) (Nat.le_of_ble_eq_true rfl) ?_
  refine e_iadd (pc := 17) dX0_allOf_17 ?_
  refine e_isn2 (pc := 18) dX0_allOf_18 (Nat.le_of_ble_eq_true rfl) rfl ?_
  refine e_incC3 (pc := 19) (v := 5) dX0_allOf_19 (by decide) (Nat.le_of_ble_eq_true rfl) rfl ?_
  refine e_goto (pc := 22) dX0_allOf_22 (t := 4) (by decide) ?_
  refine e_iloadn (pc := 4) dX0_allOf_4 rfl ?_
  refine e_bipush (v := 6) (pc := 5) dX0_allOf_5 (by decide) ?_
  refine e_icmp_ge (pc := 7) dX0_allOf_7 (t := 25) (by decide) (fun c_7 => absurd c_7 (by decide)) (fun _ => ?_)
  refine e_iloadn (pc := 10) dX0_allOf_10 rfl ?_
  refine e_aloadn (pc := 11) dX0_allOf_11 rfl ?_
  refine e_iloadn (pc := 12) dX0_allOf_12 rfl ?_
  refine e_iloadn (pc := 13) dX0_allOf_13 rfl ?_
  refine e_cvD (pc := 14) (sp_x_of hL) dX0_allOf_14 kX0_26 rfl rfl rfl rfl rfl (mc_CR_of (Nat.le_of_ble_eq_true rfl) (Nat.le_of_ble_eq_true rfl) (Nat.le_refl _) (Nat.le_refl _)) (Nat.le_of_ble_eq_true rfl) ?_
  refine e_iadd (pc := 17) dX0_allOf_17 ?_
  refine e_isn2 (pc := 18) dX0_allOf_18 (Nat.le_of_ble_eq_true rfl) rfl ?_
  refine e_incC3 (pc := 19) (v := 6) dX0_allOf_19 (by decide) (Nat.le_of_ble_eq_true rfl) rfl ?_
  refine e_goto (pc := 22) dX0_allOf_22 (t := 4) (by decide) ?_
  refine e_iloadn (pc := 4) dX0_allOf_4 rfl ?_
  refine e_bipush (v := 6) (pc := 5) dX0_allOf_5 (by decide) ?_
  refine e_icmp_ge (pc := 7) dX0_allOf_7 (t := 25) (by decide) (fun _ => ?_) (fun c_7 => absurd (by decide) c_7)
  refine e_iloadn (pc := 25) dX0_allOf_25 rfl ?_
  exact e_iret (pc := 26) dX0_allOf_26 rfl (Nat.le_refl _) (Nat.le_refl _) ⟨rfl, rfl⟩
theorem sp_x_lend {s u m n : Nat → Int32} {a c b d : Nat → List Int32} {q : List (Option Nat)} {h : Nat} {z : mc_W} {f g mu : Int32} (hL : (a 3).length = 36) : mc_D yX6_lend cX6_lend 5 (some .int) 5 [.ref 0, .int f, .int g, .int mu] (WW s a q u c h m b n d z) (some (.int (if yy_fo f g = false then -5 else if mc_wi mu 0 9999 = false then -7 else gt (a 3) (6 * f + g)))) (WW s (if yy_fo f g = true ∧ mc_wi mu 0 9999 = true then mc_up a 3 ((a 3).set (6 * f + g).toNatClampNeg mu) else a) q u c h m b n d z) := by
  refine mc_start (own := RX6) (ini := false) rfl (by decide +kernel) (fun h => by cases h) (Nat.le_of_ble_eq_true rfl) ?_
  show mc_E _ _ _ _ _ [some (.ref 0), some (.int f), some (.int g), some (.int mu), none] [] _ _ _
  refine e_iloadn (pc := 0) dX6_lend_0 rfl ?_
  refine e_iloadn (pc := 1) dX6_lend_1 rfl ?_
  refine e_csD (pc := 2) (sp_areTwoFolk) dX6_lend_2 kX6_231 rfl rfl (mc_CR_of (Nat.le_of_ble_eq_true rfl) (Nat.le_of_ble_eq_true rfl) (Nat.le_refl _) (Nat.le_refl _)) (Nat.le_of_ble_eq_true rfl) ?_
  refine e_if_ne (pc := 5) dX6_lend_5 (t := 11) (by decide) (fun c_5 => ?_) (fun c_5 => ?_)
  · skip
    refine e_iloadn (pc := 11) dX6_lend_11 rfl ?_
    refine e_iconst (v := 0) (pc := 12) dX6_lend_12 (by decide) ?_
    refine e_sipush (v := 9999) (pc := 13) dX6_lend_13 (by decide) ?_
    refine e_csD (pc := 16) (sp_isWithin) dX6_lend_16 kX6_86 rfl rfl (mc_CR_of (Nat.le_of_ble_eq_true rfl) (Nat.le_of_ble_eq_true rfl) (Nat.le_refl _) (Nat.le_refl _)) (Nat.le_of_ble_eq_true rfl) ?_
    refine e_if_ne (pc := 19) dX6_lend_19 (t := 25) (by decide) (fun c_19 => ?_) (fun c_19 => ?_)
    · skip
      refine e_aloadn (pc := 25) dX6_lend_25 rfl ?_
      refine e_get (pc := 26) dX6_lend_26 fX6_55 rfl rfl ?_
      refine e_iloadn (pc := 29) dX6_lend_29 rfl ?_
      refine e_iloadn (pc := 30) dX6_lend_30 rfl ?_
      refine e_cvD (pc := 31) (sp_x_of hL) dX6_lend_31 kX6_235 rfl rfl rfl rfl rfl (mc_CR_of (Nat.le_of_ble_eq_true rfl) (Nat.le_of_ble_eq_true rfl) (Nat.le_refl _) (Nat.le_refl _)) (Nat.le_of_ble_eq_true rfl) ?_
      refine e_isw4 (pc := 34) dX6_lend_34 (Nat.le_of_ble_eq_true rfl) rfl ?_
      refine e_aloadn (pc := 36) dX6_lend_36 rfl ?_
      refine e_get (pc := 37) dX6_lend_37 fX6_55 rfl rfl ?_
      refine e_iloadn (pc := 40) dX6_lend_40 rfl ?_
      refine e_iloadn (pc := 41) dX6_lend_41 rfl ?_
      refine e_iloadn (pc := 42) dX6_lend_42 rfl ?_
      refine e_cvU (pc := 43) (sp_x_become hL) dX6_lend_43 kX6_238 rfl rfl rfl rfl rfl (mc_CR_of (Nat.le_of_ble_eq_true rfl) (Nat.le_of_ble_eq_true rfl) (Nat.le_refl _) (Nat.le_refl _)) (Nat.le_of_ble_eq_true rfl) ?_
      refine e_iload (pc := 46) dX6_lend_46 rfl ?_
      exact e_iret (pc := 48) dX6_lend_48 rfl (Nat.le_refl _) (Nat.le_refl _) ⟨by simp_all [xof_fo, mc_b0, mc_b1], by simp_all [xbe, mc_b0, mc_b1]⟩
    · skip
      refine e_bipush (v := -7) (pc := 22) dX6_lend_22 (by decide) ?_
      exact e_iret (pc := 24) dX6_lend_24 rfl (Nat.le_refl _) (Nat.le_refl _) ⟨by simp_all [xof_fo, mc_b0, mc_b1], by simp_all [xbe, mc_b0, mc_b1]⟩
  · skip
    refine e_bipush (v := -5) (pc := 8) dX6_lend_8 (by decide) ?_
    exact e_iret (pc := 10) dX6_lend_10 rfl (Nat.le_refl _) (Nat.le_refl _) ⟨by simp_all [xof_fo, mc_b0, mc_b1], by simp_all [xbe, mc_b0, mc_b1]⟩
theorem sp_x_debt {s u m n : Nat → Int32} {a c b d : Nat → List Int32} {q : List (Option Nat)} {h : Nat} {z : mc_W} {f g : Int32} (hL : (a 3).length = 36) : mc_D yX6_debt cX6_debt 3 (some .int) 4 [.ref 0, .int f, .int g] (WW s a q u c h m b n d z) (some (.int (if yy_fo f g = true then gt (a 3) (6 * f + g) else -5))) (WW s a q u c h m b n d z) := by
  refine mc_start (own := RX6) (ini := false) rfl (by decide +kernel) (fun h => by cases h) (Nat.le_of_ble_eq_true rfl) ?_
  show mc_E _ _ _ _ _ [some (.ref 0), some (.int f), some (.int g)] [] _ _ _
  refine e_iloadn (pc := 0) dX6_debt_0 rfl ?_
  refine e_iloadn (pc := 1) dX6_debt_1 rfl ?_
  refine e_csD (pc := 2) (sp_areTwoFolk) dX6_debt_2 kX6_231 rfl rfl (mc_CR_of (Nat.le_of_ble_eq_true rfl) (Nat.le_of_ble_eq_true rfl) (Nat.le_refl _) (Nat.le_refl _)) (Nat.le_of_ble_eq_true rfl) ?_
  refine e_if_eq (pc := 5) dX6_debt_5 (t := 20) (by decide) (fun c_5 => ?_) (fun c_5 => ?_)
  · skip
    refine e_bipush (v := -5) (pc := 20) dX6_debt_20 (by decide) ?_
    exact e_iret (pc := 22) dX6_debt_22 rfl (Nat.le_refl _) (Nat.le_refl _) ⟨by simp_all [xof_fo, mc_b0, mc_b1], rfl⟩
  · skip
    refine e_aloadn (pc := 8) dX6_debt_8 rfl ?_
    refine e_get (pc := 9) dX6_debt_9 fX6_55 rfl rfl ?_
    refine e_iloadn (pc := 12) dX6_debt_12 rfl ?_
    refine e_iloadn (pc := 13) dX6_debt_13 rfl ?_
    refine e_cvD (pc := 14) (sp_x_of hL) dX6_debt_14 kX6_235 rfl rfl rfl rfl rfl (mc_CR_of (Nat.le_of_ble_eq_true rfl) (Nat.le_of_ble_eq_true rfl) (Nat.le_refl _) (Nat.le_refl _)) (Nat.le_of_ble_eq_true rfl) ?_
    refine e_goto (pc := 17) dX6_debt_17 (t := 22) (by decide) ?_
    exact e_iret (pc := 22) dX6_debt_22 rfl (Nat.le_refl _) (Nat.le_refl _) ⟨by simp_all [xof_fo, mc_b0, mc_b1], rfl⟩
/-- who owes whom at once, from f -/
def xr1 (o : List Int32) (f : Nat) : Nat → Nat → List Int32 → List Int32
  | 0, _, r => r
  | k + 1, g, r => xr1 o f k (g + 1) (r.set f (r.getD f 0 ||| (if 0 < xof o (nI f) (nI g) then (1 : Int32) <<< (nI g &&& 31) else 0)))
def xr2 (o : List Int32) : Nat → Nat → List Int32 → List Int32
  | 0, _, r => r
  | k + 1, f, r => xr2 o k (f + 1) (xr1 o f 6 0 (r.set f 0))
def xr3 (y : Nat) : Nat → Nat → List Int32 → List Int32
  | 0, _, r => r
  | k + 1, f, r => xr3 y k (f + 1) (r.set f (r.getD f 0 ||| (if (r.getD f 0 >>> (nI y &&& 31)) &&& 1 = 1 then r.getD y 0 else 0)))
def xr4 : Nat → Nat → List Int32 → List Int32
  | 0, _, r => r
  | k + 1, y, r => xr4 k (y + 1) (xr3 y 6 0 r)
def xr5 (r : List Int32) : Nat → Nat → Int32 → Int32
  | 0, _, S => S
  | k + 1, f, S => xr5 r k (f + 1) (S ||| (r.getD f 0 &&& ((1 : Int32) <<< (nI f &&& 31))))
theorem xr1_len (o : List Int32) (f : Nat) : ∀ k g r, (xr1 o f k g r).length = r.length := by
  intro k; induction k with
  | zero => intro g r; rfl
  | succ k ih => intro g r; show (xr1 o f k (g + 1) _).length = _; rw [ih]; simp
theorem xr2_len (o : List Int32) : ∀ k f r, (xr2 o k f r).length = r.length := by
  intro k; induction k with
  | zero => intro f r; rfl
  | succ k ih => intro f r; show (xr2 o k (f + 1) _).length = _; rw [ih, xr1_len]; simp
theorem xr3_len (y : Nat) : ∀ k f r, (xr3 y k f r).length = r.length := by
  intro k; induction k with
  | zero => intro f r; rfl
  | succ k ih => intro f r; show (xr3 y k (f + 1) _).length = _; rw [ih]; simp
theorem xr4_len : ∀ k y r, (xr4 k y r).length = r.length := by
  intro k; induction k with
  | zero => intro y r; rfl
  | succ k ih => intro y r; show (xr4 k (y + 1) _).length = _; rw [ih, xr3_len]
def xreach (o r : List Int32) : List Int32 := xr4 6 0 (xr2 o 6 0 r)
def xrings (o r : List Int32) : Int32 := xr5 (xreach o r) 6 0 0
theorem xreach_len (o r : List Int32) : (xreach o r).length = r.length := by unfold xreach; rw [xr4_len, xr2_len]
theorem up_up {α : Type} {f : Nat → α} {k : Nat} {x y : α} : mc_up (mc_up f k x) k y = mc_up f k y := by
  funext j; unfold mc_up; by_cases h : j = k <;> simp [h]
theorem up_at {α : Type} {f : Nat → α} {k : Nat} {x : α} : mc_up f k x k = x := by unfold mc_up; rw [if_pos rfl]
theorem rch {c : Nat → List Int32} {R : List Int32} {f : Nat} (hf : f < 6) : ((mc_up c 1 R) 1).getD (nI f).toNatClampNeg 0 = R.getD f 0 := by rw [up_at, nIc (by omega)]
theorem rst {c : Nat → List Int32} {R : List Int32} {f : Nat} {x : Int32} (hf : f < 6) : mc_up (mc_up c 1 R) 1 (((mc_up c 1 R) 1).set (nI f).toNatClampNeg x) = mc_up c 1 (R.set f x) := by rw [up_up, up_at, nIc (by omega)]
theorem rin {c : Nat → List Int32} {R : List Int32} {f : Nat} (hR : R.length = 6) (hf : f < 6) : vp_in (nI f) ((mc_up c 1 R) 1).length := by rw [up_at, hR]; exact vp_in_nI hf (by decide)
theorem lp_x_rb1 {s u m n : Nat → Int32} {a c b d : Nat → List Int32} {q : List (Option Nat)} {h : Nat} {z : mc_W} {Post : Option Value → mc_W → Prop} {f : Nat} {V : List Int32} (hL : (a 3).length = 36) (hf : f < 6)
    (hK : mc_E RX0 cX0_ringBits 3 (mc_JM (some .int) false 4 0 0 Post) 54 [some (.ref 10), some (.int (nI f)), some (.int (nI 6))] [] (WW s a q u (mc_up c 1 V) h m b n d z) 0 0) :
    ∀ (g i : Nat) (R : List Int32), R.length = 6 → i + g = 6 → xr1 (a 3) f g i R = V →
      mc_E RX0 cX0_ringBits 3 (mc_JM (some .int) false 4 0 0 Post) 17 [some (.ref 10), some (.int (nI f)), some (.int (nI i))] [] (WW s a q u (mc_up c 1 R) h m b n d z) 0 0 := by
  intro g
  induction g with
  | zero =>
    intro i R hR hi hV
    have e : i = 6 := by omega
    subst e
    simp only [xr1] at hV
    subst hV
    refine e_iloadn (pc := 17) dX0_ringBits_17 rfl ?_
    refine e_bipush (v := 6) (pc := 18) dX0_ringBits_18 (by decide) ?_
    refine e_icmp_ge (pc := 20) dX0_ringBits_20 (t := 54) (by decide) (fun _ => ?_) (fun c_20 => absurd (by decide) c_20)
    exact hK
  | succ g ih =>
    intro i R hR hi hV
    simp only [xr1] at hV
    have hi1 : i < 6 := by omega
    refine e_iloadn (pc := 17) dX0_ringBits_17 rfl ?_
    refine e_bipush (v := 6) (pc := 18) dX0_ringBits_18 (by decide) ?_
    refine e_icmp_ge (pc := 20) dX0_ringBits_20 (t := 54) (by decide) (fun c_20 => absurd c_20 (nI_ge (by omega : i < 6) (by decide))) (fun _ => ?_)
    refine e_aloadn (pc := 23) dX0_ringBits_23 rfl ?_
    refine e_get (pc := 24) dX0_ringBits_24 fX0_15 rfl rfl ?_
    refine e_iloadn (pc := 27) dX0_ringBits_27 rfl ?_
    refine e_dup2 (pc := 28) dX0_ringBits_28 rfl rfl ?_
    refine aldv_reach (pc := 29) dX0_ringBits_29 (rin hR hf) (rch hf) ?_
    refine e_aloadn (pc := 30) dX0_ringBits_30 rfl ?_
    refine e_iloadn (pc := 31) dX0_ringBits_31 rfl ?_
    refine e_iloadn (pc := 32) dX0_ringBits_32 rfl ?_
    refine e_cvD (pc := 33) (sp_x_of hL) dX0_ringBits_33 kX0_26 rfl rfl rfl rfl rfl (mc_CR_of (Nat.le_of_ble_eq_true rfl) (Nat.le_of_ble_eq_true rfl) (Nat.le_refl _) (Nat.le_refl _)) (Nat.le_of_ble_eq_true rfl) ?_
    refine e_if_le (pc := 36) dX0_ringBits_36 (t := 45) (by decide) (fun c_36 => ?_) (fun c_36 => ?_)
    · skip
      refine e_iconst (v := 0) (pc := 45) dX0_ringBits_45 (by decide) ?_
      refine e_ior (pc := 46) dX0_ringBits_46 ?_
      refine ast_reach (pc := 47) dX0_ringBits_47 (rin hR hf) ?_
      rw [rst hf]
      refine e_incC2 (pc := 48) dX0_ringBits_48 (nI_1 i) (Nat.le_of_ble_eq_true rfl) rfl ?_
      refine e_goto (pc := 51) dX0_ringBits_51 (t := 17) (by decide) ?_
      exact ih (i + 1) _ (by rw [List.length_set]; exact hR) (by omega) (by rw [← hV, if_neg (Int32.not_lt.mpr c_36)])
    · skip
      refine e_iconst (v := 1) (pc := 39) dX0_ringBits_39 (by decide) ?_
      refine e_iloadn (pc := 40) dX0_ringBits_40 rfl ?_
      refine e_ishl (pc := 41) dX0_ringBits_41 ?_
      refine e_goto (pc := 42) dX0_ringBits_42 (t := 46) (by decide) ?_
      refine e_ior (pc := 46) dX0_ringBits_46 ?_
      refine ast_reach (pc := 47) dX0_ringBits_47 (rin hR hf) ?_
      rw [rst hf]
      refine e_incC2 (pc := 48) dX0_ringBits_48 (nI_1 i) (Nat.le_of_ble_eq_true rfl) rfl ?_
      refine e_goto (pc := 51) dX0_ringBits_51 (t := 17) (by decide) ?_
      exact ih (i + 1) _ (by rw [List.length_set]; exact hR) (by omega) (by rw [← hV, if_pos (Int32.not_le.mp c_36)])
theorem lp_x_rb2 {s u m n : Nat → Int32} {a c b d : Nat → List Int32} {q : List (Option Nat)} {h : Nat} {z : mc_W} {Post : Option Value → mc_W → Prop} {V : List Int32} (hL : (a 3).length = 36)
    (hK : ∀ x2, mc_E RX0 cX0_ringBits 3 (mc_JM (some .int) false 4 0 0 Post) 60 [some (.ref 10), some (.int (nI 6)), x2] [] (WW s a q u (mc_up c 1 V) h m b n d z) 0 0) :
    ∀ (g i : Nat) (R : List Int32) (x2 : Option Value), R.length = 6 → i + g = 6 → xr2 (a 3) g i R = V →
      mc_E RX0 cX0_ringBits 3 (mc_JM (some .int) false 4 0 0 Post) 2 [some (.ref 10), some (.int (nI i)), x2] [] (WW s a q u (mc_up c 1 R) h m b n d z) 0 0 := by
  intro g
  induction g with
  | zero =>
    intro i R x2 hR hi hV
    have e : i = 6 := by omega
    subst e
    simp only [xr2] at hV
    subst hV
    refine e_iloadn (pc := 2) dX0_ringBits_2 rfl ?_
    refine e_bipush (v := 6) (pc := 3) dX0_ringBits_3 (by decide) ?_
    refine e_icmp_ge (pc := 5) dX0_ringBits_5 (t := 60) (by decide) (fun _ => ?_) (fun c_5 => absurd (by decide) c_5)
    exact hK _
  | succ g ih =>
    intro i R x2 hR hi hV
    simp only [xr2] at hV
    have hi1 : i < 6 := by omega
    have MID : mc_E RX0 cX0_ringBits 3 (mc_JM (some .int) false 4 0 0 Post) 54 [some (.ref 10), some (.int (nI i)), some (.int (nI 6))] [] (WW s a q u (mc_up c 1 (xr1 (a 3) i 6 0 (R.set i 0))) h m b n d z) 0 0 := by
          refine e_incC1 (pc := 54) dX0_ringBits_54 (nI_1 i) (Nat.le_of_ble_eq_true rfl) rfl ?_
          refine e_goto (pc := 57) dX0_ringBits_57 (t := 2) (by decide) ?_
          exact ih (i + 1) _ _ (by rw [xr1_len, List.length_set]; exact hR) (by omega) hV
    refine e_iloadn (pc := 2) dX0_ringBits_2 rfl ?_
    refine e_bipush (v := 6) (pc := 3) dX0_ringBits_3 (by decide) ?_
    refine e_icmp_ge (pc := 5) dX0_ringBits_5 (t := 60) (by decide) (fun c_5 => absurd c_5 (nI_ge (by omega : i < 6) (by decide))) (fun _ => ?_)
    refine e_aloadn (pc := 8) dX0_ringBits_8 rfl ?_
    refine e_get (pc := 9) dX0_ringBits_9 fX0_15 rfl rfl ?_
    refine e_iloadn (pc := 12) dX0_ringBits_12 rfl ?_
    refine e_iconst (v := 0) (pc := 13) dX0_ringBits_13 (by decide) ?_
    refine ast_reach (pc := 14) dX0_ringBits_14 (rin hR hi1) ?_
    rw [rst hi1]
    refine e_iconst (v := 0) (pc := 15) dX0_ringBits_15 (by decide) ?_
    refine e_isn2 (pc := 16) dX0_ringBits_16 (Nat.le_of_ble_eq_true rfl) rfl ?_
    exact lp_x_rb1 hL hi1 MID 6 0 _ (by rw [List.length_set]; exact hR) (by omega) rfl
theorem lp_x_rb3 {s u m n : Nat → Int32} {a c b d : Nat → List Int32} {q : List (Option Nat)} {h : Nat} {z : mc_W} {Post : Option Value → mc_W → Prop} {y : Nat} {V : List Int32} (hy : y < 6)
    (hK : mc_E RX0 cX0_ringBits 3 (mc_JM (some .int) false 4 0 0 Post) 115 [some (.ref 10), some (.int (nI y)), some (.int (nI 6))] [] (WW s a q u (mc_up c 1 V) h m b n d z) 0 0) :
    ∀ (g i : Nat) (R : List Int32), R.length = 6 → i + g = 6 → xr3 y g i R = V →
      mc_E RX0 cX0_ringBits 3 (mc_JM (some .int) false 4 0 0 Post) 70 [some (.ref 10), some (.int (nI y)), some (.int (nI i))] [] (WW s a q u (mc_up c 1 R) h m b n d z) 0 0 := by
  intro g
  induction g with
  | zero =>
    intro i R hR hi hV
    have e : i = 6 := by omega
    subst e
    simp only [xr3] at hV
    subst hV
    refine e_iloadn (pc := 70) dX0_ringBits_70 rfl ?_
    refine e_bipush (v := 6) (pc := 71) dX0_ringBits_71 (by decide) ?_
    refine e_icmp_ge (pc := 73) dX0_ringBits_73 (t := 115) (by decide) (fun _ => ?_) (fun c_73 => absurd (by decide) c_73)
    exact hK
  | succ g ih =>
    intro i R hR hi hV
    simp only [xr3] at hV
    have hi1 : i < 6 := by omega
    refine e_iloadn (pc := 70) dX0_ringBits_70 rfl ?_
    refine e_bipush (v := 6) (pc := 71) dX0_ringBits_71 (by decide) ?_
    refine e_icmp_ge (pc := 73) dX0_ringBits_73 (t := 115) (by decide) (fun c_73 => absurd c_73 (nI_ge (by omega : i < 6) (by decide))) (fun _ => ?_)
    refine e_aloadn (pc := 76) dX0_ringBits_76 rfl ?_
    refine e_get (pc := 77) dX0_ringBits_77 fX0_15 rfl rfl ?_
    refine e_iloadn (pc := 80) dX0_ringBits_80 rfl ?_
    refine e_dup2 (pc := 81) dX0_ringBits_81 rfl rfl ?_
    refine aldv_reach (pc := 82) dX0_ringBits_82 (rin hR hi1) (rch hi1) ?_
    refine e_aloadn (pc := 83) dX0_ringBits_83 rfl ?_
    refine e_get (pc := 84) dX0_ringBits_84 fX0_15 rfl rfl ?_
    refine e_iloadn (pc := 87) dX0_ringBits_87 rfl ?_
    refine aldv_reach (pc := 88) dX0_ringBits_88 (rin hR hi1) (rch hi1) ?_
    refine e_iloadn (pc := 89) dX0_ringBits_89 rfl ?_
    refine e_ishr (pc := 90) dX0_ringBits_90 ?_
    refine e_iconst (v := 1) (pc := 91) dX0_ringBits_91 (by decide) ?_
    refine e_iand (pc := 92) dX0_ringBits_92 ?_
    refine e_iconst (v := 1) (pc := 93) dX0_ringBits_93 (by decide) ?_
    refine e_icmp_ne (pc := 94) dX0_ringBits_94 (t := 106) (by decide) (fun c_94 => ?_) (fun c_94 => ?_)
    · skip
      refine e_iconst (v := 0) (pc := 106) dX0_ringBits_106 (by decide) ?_
      refine e_ior (pc := 107) dX0_ringBits_107 ?_
      refine ast_reach (pc := 108) dX0_ringBits_108 (rin hR hi1) ?_
      rw [rst hi1]
      refine e_incC2 (pc := 109) dX0_ringBits_109 (nI_1 i) (Nat.le_of_ble_eq_true rfl) rfl ?_
      refine e_goto (pc := 112) dX0_ringBits_112 (t := 70) (by decide) ?_
      exact ih (i + 1) _ (by rw [List.length_set]; exact hR) (by omega) (by rw [← hV, if_neg c_94])
    · skip
      refine e_aloadn (pc := 97) dX0_ringBits_97 rfl ?_
      refine e_get (pc := 98) dX0_ringBits_98 fX0_15 rfl rfl ?_
      refine e_iloadn (pc := 101) dX0_ringBits_101 rfl ?_
      refine aldv_reach (pc := 102) dX0_ringBits_102 (rin hR hy) (rch hy) ?_
      refine e_goto (pc := 103) dX0_ringBits_103 (t := 107) (by decide) ?_
      refine e_ior (pc := 107) dX0_ringBits_107 ?_
      refine ast_reach (pc := 108) dX0_ringBits_108 (rin hR hi1) ?_
      rw [rst hi1]
      refine e_incC2 (pc := 109) dX0_ringBits_109 (nI_1 i) (Nat.le_of_ble_eq_true rfl) rfl ?_
      refine e_goto (pc := 112) dX0_ringBits_112 (t := 70) (by decide) ?_
      exact ih (i + 1) _ (by rw [List.length_set]; exact hR) (by omega) (by rw [← hV, if_pos c_94])
theorem lp_x_rb4 {s u m n : Nat → Int32} {a c b d : Nat → List Int32} {q : List (Option Nat)} {h : Nat} {z : mc_W} {Post : Option Value → mc_W → Prop} {V : List Int32} 
    (hK : ∀ x2, mc_E RX0 cX0_ringBits 3 (mc_JM (some .int) false 4 0 0 Post) 121 [some (.ref 10), some (.int (nI 6)), x2] [] (WW s a q u (mc_up c 1 V) h m b n d z) 0 0) :
    ∀ (g i : Nat) (R : List Int32) (x2 : Option Value), R.length = 6 → i + g = 6 → xr4 g i R = V →
      mc_E RX0 cX0_ringBits 3 (mc_JM (some .int) false 4 0 0 Post) 62 [some (.ref 10), some (.int (nI i)), x2] [] (WW s a q u (mc_up c 1 R) h m b n d z) 0 0 := by
  intro g
  induction g with
  | zero =>
    intro i R x2 hR hi hV
    have e : i = 6 := by omega
    subst e
    simp only [xr4] at hV
    subst hV
    refine e_iloadn (pc := 62) dX0_ringBits_62 rfl ?_
    refine e_bipush (v := 6) (pc := 63) dX0_ringBits_63 (by decide) ?_
    refine e_icmp_ge (pc := 65) dX0_ringBits_65 (t := 121) (by decide) (fun _ => ?_) (fun c_65 => absurd (by decide) c_65)
    exact hK _
  | succ g ih =>
    intro i R x2 hR hi hV
    simp only [xr4] at hV
    have hi1 : i < 6 := by omega
    have MID : mc_E RX0 cX0_ringBits 3 (mc_JM (some .int) false 4 0 0 Post) 115 [some (.ref 10), some (.int (nI i)), some (.int (nI 6))] [] (WW s a q u (mc_up c 1 (xr3 i 6 0 R)) h m b n d z) 0 0 := by
          refine e_incC1 (pc := 115) dX0_ringBits_115 (nI_1 i) (Nat.le_of_ble_eq_true rfl) rfl ?_
          refine e_goto (pc := 118) dX0_ringBits_118 (t := 62) (by decide) ?_
          exact ih (i + 1) _ _ (by rw [xr3_len]; exact hR) (by omega) hV
    refine e_iloadn (pc := 62) dX0_ringBits_62 rfl ?_
    refine e_bipush (v := 6) (pc := 63) dX0_ringBits_63 (by decide) ?_
    refine e_icmp_ge (pc := 65) dX0_ringBits_65 (t := 121) (by decide) (fun c_65 => absurd c_65 (nI_ge (by omega : i < 6) (by decide))) (fun _ => ?_)
    refine e_iconst (v := 0) (pc := 68) dX0_ringBits_68 (by decide) ?_
    refine e_isn2 (pc := 69) dX0_ringBits_69 (Nat.le_of_ble_eq_true rfl) rfl ?_
    exact lp_x_rb3 hi1 MID 6 0 _ hR (by omega) rfl
theorem lp_x_rb5 {s u m n : Nat → Int32} {a c b d : Nat → List Int32} {q : List (Option Nat)} {h : Nat} {z : mc_W} {Post : Option Value → mc_W → Prop} {V : Int32} {R : List Int32} (hR : R.length = 6)
    (hK : mc_E RX0 cX0_ringBits 3 (mc_JM (some .int) false 4 0 0 Post) 150 [some (.ref 10), some (.int V), some (.int (nI 6))] [] (WW s a q u (mc_up c 1 R) h m b n d z) 0 0) :
    ∀ (g i : Nat) (S : Int32), i + g = 6 → xr5 R g i S = V →
      mc_E RX0 cX0_ringBits 3 (mc_JM (some .int) false 4 0 0 Post) 125 [some (.ref 10), some (.int S), some (.int (nI i))] [] (WW s a q u (mc_up c 1 R) h m b n d z) 0 0 := by
  intro g
  induction g with
  | zero =>
    intro i S hi hV
    have e : i = 6 := by omega
    subst e
    simp only [xr5] at hV
    subst hV
    refine e_iloadn (pc := 125) dX0_ringBits_125 rfl ?_
    refine e_bipush (v := 6) (pc := 126) dX0_ringBits_126 (by decide) ?_
    refine e_icmp_ge (pc := 128) dX0_ringBits_128 (t := 150) (by decide) (fun _ => ?_) (fun c_128 => absurd (by decide) c_128)
    exact hK
  | succ g ih =>
    intro i S hi hV
    simp only [xr5] at hV
    have hi1 : i < 6 := by omega
    refine e_iloadn (pc := 125) dX0_ringBits_125 rfl ?_
    refine e_bipush (v := 6) (pc := 126) dX0_ringBits_126 (by decide) ?_
    refine e_icmp_ge (pc := 128) dX0_ringBits_128 (t := 150) (by decide) (fun c_128 => absurd c_128 (nI_ge (by omega : i < 6) (by decide))) (fun _ => ?_)
    refine e_iloadn (pc := 131) dX0_ringBits_131 rfl ?_
    refine e_aloadn (pc := 132) dX0_ringBits_132 rfl ?_
    refine e_get (pc := 133) dX0_ringBits_133 fX0_15 rfl rfl ?_
    refine e_iloadn (pc := 136) dX0_ringBits_136 rfl ?_
    refine aldv_reach (pc := 137) dX0_ringBits_137 (rin hR hi1) (rch hi1) ?_
    refine e_iconst (v := 1) (pc := 138) dX0_ringBits_138 (by decide) ?_
    refine e_iloadn (pc := 139) dX0_ringBits_139 rfl ?_
    refine e_ishl (pc := 140) dX0_ringBits_140 ?_
    refine e_iand (pc := 141) dX0_ringBits_141 ?_
    refine e_ior (pc := 142) dX0_ringBits_142 ?_
    refine e_isn1 (pc := 143) dX0_ringBits_143 (Nat.le_of_ble_eq_true rfl) rfl ?_
    refine e_incC2 (pc := 144) dX0_ringBits_144 (nI_1 i) (Nat.le_of_ble_eq_true rfl) rfl ?_
    refine e_goto (pc := 147) dX0_ringBits_147 (t := 125) (by decide) ?_
    exact ih (i + 1) _ (by omega) hV
theorem sp_x_ringBits {s u m n : Nat → Int32} {a c b d : Nat → List Int32} {q : List (Option Nat)} {h : Nat} {z : mc_W} (hL : (a 3).length = 36) (hR : (c 1).length = 6) : mc_D yX0_ringBits cX0_ringBits 3 (some .int) 4 [.ref 10] (WW s a q u c h m b n d z) (some (.int (xrings (a 3) (c 1)))) (WW s a q u (mc_up c 1 (xreach (a 3) (c 1))) h m b n d z) := by
  refine mc_start (own := RX0) (ini := false) rfl (by decide +kernel) (fun h => by cases h) (Nat.le_of_ble_eq_true rfl) ?_
  show mc_E _ _ _ _ _ [some (.ref 10), none, none] [] _ _ _
  have K5 : ∀ (S : Int32) (x2 : Option Value), mc_E RX0 cX0_ringBits 3 (mc_JM (some .int) false 4 0 0 (fun r' w' => r' = some (.int (xrings (a 3) (c 1))) ∧ w' = (WW s a q u (mc_up c 1 (xreach (a 3) (c 1))) h m b n d z))) 121 [some (.ref 10), some (.int (nI 6)), x2] [] (WW s a q u (mc_up c 1 (xreach (a 3) (c 1))) h m b n d z) 0 0 := by
    intro S x2
    refine e_iconst (v := 0) (pc := 121) dX0_ringBits_121 (by decide) ?_
    refine e_isn1 (pc := 122) dX0_ringBits_122 (Nat.le_of_ble_eq_true rfl) rfl ?_
    refine e_iconst (v := 0) (pc := 123) dX0_ringBits_123 (by decide) ?_
    refine e_isn2 (pc := 124) dX0_ringBits_124 (Nat.le_of_ble_eq_true rfl) rfl ?_
    refine lp_x_rb5 (R := xreach (a 3) (c 1)) (by rw [xreach_len]; exact hR) ?_ 6 0 0 (by omega) rfl
    refine e_iloadn (pc := 150) dX0_ringBits_150 rfl ?_
    exact e_iret (pc := 151) dX0_ringBits_151 rfl (Nat.le_refl _) (Nat.le_refl _) ⟨rfl, rfl⟩
  have K4 : ∀ (x2 : Option Value), mc_E RX0 cX0_ringBits 3 (mc_JM (some .int) false 4 0 0 (fun r' w' => r' = some (.int (xrings (a 3) (c 1))) ∧ w' = (WW s a q u (mc_up c 1 (xreach (a 3) (c 1))) h m b n d z))) 60 [some (.ref 10), some (.int (nI 6)), x2] [] (WW s a q u (mc_up c 1 (xr2 (a 3) 6 0 (c 1))) h m b n d z) 0 0 := by
    intro x2
    refine e_iconst (v := 0) (pc := 60) dX0_ringBits_60 (by decide) ?_
    refine e_isn1 (pc := 61) dX0_ringBits_61 (Nat.le_of_ble_eq_true rfl) rfl ?_
    exact lp_x_rb4 (fun x2 => K5 0 x2) 6 0 _ _ (by rw [xr2_len]; exact hR) (by omega) rfl
  refine e_iconst (v := 0) (pc := 0) dX0_ringBits_0 (by decide) ?_
  refine e_isn1 (pc := 1) dX0_ringBits_1 (Nat.le_of_ble_eq_true rfl) rfl ?_
  refine e_w (w2 := (WW s a q u (mc_up c 1 (c 1)) h m b n d z)) (by rw [mc_up_self]) ?_
  exact lp_x_rb2 hL K4 6 0 _ _ hR (by omega) rfl
theorem sp_x_rings {s u m n : Nat → Int32} {a c b d : Nat → List Int32} {q : List (Option Nat)} {h : Nat} {z : mc_W} (hL : (a 3).length = 36) (hR : (c 1).length = 6) : mc_D yX6_rings cX6_rings 1 (some .int) 5 [.ref 0] (WW s a q u c h m b n d z) (some (.int (xrings (a 3) (c 1)))) (WW s a q u (mc_up c 1 (xreach (a 3) (c 1))) h m b n d z) := by
  refine mc_start (own := RX6) (ini := false) rfl (by decide +kernel) (fun h => by cases h) (Nat.le_of_ble_eq_true rfl) ?_
  show mc_E _ _ _ _ _ [some (.ref 0)] [] _ _ _
  refine e_aloadn (pc := 0) dX6_rings_0 rfl ?_
  refine e_get (pc := 1) dX6_rings_1 fX6_55 rfl rfl ?_
  refine e_cvD (pc := 4) (sp_x_ringBits hL hR) dX6_rings_4 kX6_244 rfl rfl rfl rfl rfl (mc_CR_of (Nat.le_of_ble_eq_true rfl) (Nat.le_of_ble_eq_true rfl) (Nat.le_refl _) (Nat.le_refl _)) (Nat.le_of_ble_eq_true rfl) ?_
  exact e_iret (pc := 7) dX6_rings_7 rfl (Nat.le_refl _) (Nat.le_refl _) ⟨rfl, rfl⟩
