/-! images, sheets -/
theorem up_setl {b : Nat → List Int32} {k i : Nat} {l : List Int32} {x : Int32} : mc_up (mc_up b k l) k (((mc_up b k l) k).set i x) = mc_up b k (l.set i x) := by
  have e : (mc_up b k l) k = l := by unfold mc_up; rw [if_pos rfl]
  rw [mc_up_up, e]
theorem ext36 {l r : List Int32} {N : Nat} (hl : l.length = N) (hr : r.length = N) (h : ∀ j, j < N → l.getD j 0 = r.getD j 0) : l = r := by
  have := tk_of (l := l) (xs := r) (N := N) hr.symm (by omega) h
  rw [← this, List.take_of_length_le (by omega)]
def yimm (m : Nat → Int32) : Nat → Int32 := mc_up (mc_up (mc_up (mc_up (mc_up m 6 1) 7 (m 2)) 8 (m 0)) 9 (m 1)) 10 (m 5)
def ybkm (m : Nat → Int32) : Nat → Int32 := if m 6 = 0 then m else mc_up (mc_up (mc_up (mc_up m 2 (m 7)) 0 (m 8)) 1 (m 9)) 5 (m 10)
def ybkb (m : Nat → Int32) (b : Nat → List Int32) : Nat → List Int32 := if m 6 = 0 then b else mc_up b 2 (b 6)
theorem lp_y_image {s u m n : Nat → Int32} {a c d : Nat → List Int32} {q : List (Option Nat)} {h : Nat} {z : mc_W} {B : Nat → List Int32} (h1 : (B 2).length = 36) :
    ∀ (g i : Nat) (l : List Int32) (b : Nat → List Int32), b = mc_up B 6 l → i + g = 36 → l.length = 36 → (∀ j, j < i → l.getD j 0 = (B 2).getD j 0) →
      mc_E RX7 cX7_image 2 (mc_JM (some .int) false 1 0 0 (fun r' w' => r' = some (.int (m 2)) ∧ w' = WW s a q u c h m (mc_up B 6 (B 2)) n d z)) 39 [some (.ref 29), some (.int (nI i))] [] (WW s a q u c h m b n d z) 0 0 := by
  intro g
  induction g with
  | zero =>
    intro i l b hb hi hl hx
    have e : i = 36 := by omega
    subst e
    have e2 : l = B 2 := ext36 hl h1 hx
    rw [e2] at hb
    subst hb
    refine e_iloadn (pc := 39) dX7_image_39 rfl ?_
    refine e_bipush (v := 36) (pc := 40) dX7_image_40 (by decide) ?_
    refine e_icmp_ge (pc := 42) dX7_image_42 (t := 63) (by decide) (fun _ => ?_) (fun c_42 => absurd (by decide) c_42)
    refine e_aloadn (pc := 63) dX7_image_63 rfl ?_
    refine e_get (pc := 64) dX7_image_64 fX7_72 rfl rfl ?_
    exact e_iret (pc := 67) dX7_image_67 rfl (Nat.le_refl _) (Nat.le_refl _) ⟨rfl, rfl⟩
  | succ g ih =>
    intro i l b hb hi hl hx
    subst hb
    have iv : vp_in (nI i) (B 2).length := by rw [h1]; exact vp_in_nI (by omega) (by decide)
    have iv2 : vp_in (nI i) ((mc_up B 6 l) 6).length := by show vp_in _ l.length; rw [hl]; exact vp_in_nI (by omega) (by decide)
    have ex : (B 2).getD (nI i).toNatClampNeg 0 = (B 2).getD i 0 := by rw [nIc (by omega)]
    refine e_iloadn (pc := 39) dX7_image_39 rfl ?_
    refine e_bipush (v := 36) (pc := 40) dX7_image_40 (by decide) ?_
    refine e_icmp_ge (pc := 42) dX7_image_42 (t := 63) (by decide) (fun c_42 => absurd c_42 (nI_ge (by omega : i < 36) (by decide))) (fun _ => ?_)
    refine e_aloadn (pc := 45) dX7_image_45 rfl ?_
    refine e_get (pc := 46) dX7_image_46 fX7_35 rfl rfl ?_
    refine e_iloadn (pc := 49) dX7_image_49 rfl ?_
    refine e_aloadn (pc := 50) dX7_image_50 rfl ?_
    refine e_get (pc := 51) dX7_image_51 fX7_23 rfl rfl ?_
    refine e_iloadn (pc := 54) dX7_image_54 rfl ?_
    refine aldv_owes (pc := 55) dX7_image_55 iv ex ?_
    refine ast_imageOwes (pc := 56) dX7_image_56 iv2 ?_
    rw [up_setl, nIc (by omega)]
    refine e_incC1 (pc := 57) dX7_image_57 (nI_1 i) (Nat.le_of_ble_eq_true rfl) rfl ?_
    refine e_goto (pc := 60) dX7_image_60 (t := 39) (by decide) ?_
    refine ih (i + 1) _ _ rfl (by omega) (by rw [List.length_set]; exact hl) (fun j hj => ?_)
    rw [gD_set (by omega)]
    by_cases e : j = i
    · rw [if_pos e, e]
    · rw [if_neg e]; exact hx j (by omega)
theorem sp_y_image {s u m n : Nat → Int32} {a c b d : Nat → List Int32} {q : List (Option Nat)} {h : Nat} {z : mc_W} (hL : yL b) : mc_D yX7_image cX7_image 2 (some .int) 1 [.ref 29] (WW s a q u c h m b n d z) (some (.int (m 2))) (WW s a q u c h (yimm m) (mc_up b 6 (b 2)) n d z) := by
  refine mc_start (own := RX7) (ini := false) rfl (by decide +kernel) (fun h => by cases h) (Nat.le_of_ble_eq_true rfl) ?_
  show mc_E _ _ _ _ _ [some (.ref 29), none] [] _ _ _
  refine e_aloadn (pc := 0) dX7_image_0 rfl ?_
  refine e_iconst (v := 1) (pc := 1) dX7_image_1 (by decide) ?_
  refine put_y_hasImage (pc := 2) dX7_image_2 pX7_292 rfl ?_
  refine e_aloadn (pc := 5) dX7_image_5 rfl ?_
  refine e_aloadn (pc := 6) dX7_image_6 rfl ?_
  refine e_get (pc := 7) dX7_image_7 fX7_72 rfl rfl ?_
  refine put_y_imageClerks (pc := 10) dX7_image_10 pX7_296 ?_
  refine e_aloadn (pc := 13) dX7_image_13 rfl ?_
  refine e_aloadn (pc := 14) dX7_image_14 rfl ?_
  refine e_get (pc := 15) dX7_image_15 fX7_7 rfl rfl ?_
  refine put_y_imageBase (pc := 18) dX7_image_18 pX7_299 ?_
  refine e_aloadn (pc := 21) dX7_image_21 rfl ?_
  refine e_aloadn (pc := 22) dX7_image_22 rfl ?_
  refine e_get (pc := 23) dX7_image_23 fX7_13 rfl rfl ?_
  refine put_y_imageYear (pc := 26) dX7_image_26 pX7_302 ?_
  refine e_aloadn (pc := 29) dX7_image_29 rfl ?_
  refine e_aloadn (pc := 30) dX7_image_30 rfl ?_
  refine e_get (pc := 31) dX7_image_31 fX7_83 rfl rfl ?_
  refine put_y_imageRule (pc := 34) dX7_image_34 pX7_305 ?_
  refine e_iconst (v := 0) (pc := 37) dX7_image_37 (by decide) ?_
  refine e_isn1 (pc := 38) dX7_image_38 (Nat.le_of_ble_eq_true rfl) rfl ?_
  exact lp_y_image (m := yimm m) (B := b) hL.2.2.1 36 0 (b 6) b (mc_up_self b 6).symm (by omega) hL.2.2.2.2.2.2.1 (fun j hj => absurd hj (by omega))
theorem lp_y_back {s u m n : Nat → Int32} {a c d : Nat → List Int32} {q : List (Option Nat)} {h : Nat} {z : mc_W} {B : Nat → List Int32} (h1 : (B 6).length = 36) :
    ∀ (g i : Nat) (l : List Int32) (b : Nat → List Int32), b = mc_up B 2 l → i + g = 36 → l.length = 36 → (∀ j, j < i → l.getD j 0 = (B 6).getD j 0) →
      mc_E RX7 cX7_back 2 (mc_JM (some .int) false 1 0 0 (fun r' w' => r' = some (.int (m 2)) ∧ w' = WW s a q u c h m (mc_up B 2 (B 6)) n d z)) 44 [some (.ref 29), some (.int (nI i))] [] (WW s a q u c h m b n d z) 0 0 := by
  intro g
  induction g with
  | zero =>
    intro i l b hb hi hl hx
    have e : i = 36 := by omega
    subst e
    have e2 : l = B 6 := ext36 hl h1 hx
    rw [e2] at hb
    subst hb
    refine e_iloadn (pc := 44) dX7_back_44 rfl ?_
    refine e_bipush (v := 36) (pc := 45) dX7_back_45 (by decide) ?_
    refine e_icmp_ge (pc := 47) dX7_back_47 (t := 68) (by decide) (fun _ => ?_) (fun c_47 => absurd (by decide) c_47)
    refine e_aloadn (pc := 68) dX7_back_68 rfl ?_
    refine e_get (pc := 69) dX7_back_69 fX7_72 rfl rfl ?_
    exact e_iret (pc := 72) dX7_back_72 rfl (Nat.le_refl _) (Nat.le_refl _) ⟨rfl, rfl⟩
  | succ g ih =>
    intro i l b hb hi hl hx
    subst hb
    have iv : vp_in (nI i) (B 6).length := by rw [h1]; exact vp_in_nI (by omega) (by decide)
    have iv2 : vp_in (nI i) ((mc_up B 2 l) 2).length := by show vp_in _ l.length; rw [hl]; exact vp_in_nI (by omega) (by decide)
    have ex : (B 6).getD (nI i).toNatClampNeg 0 = (B 6).getD i 0 := by rw [nIc (by omega)]
    refine e_iloadn (pc := 44) dX7_back_44 rfl ?_
    refine e_bipush (v := 36) (pc := 45) dX7_back_45 (by decide) ?_
    refine e_icmp_ge (pc := 47) dX7_back_47 (t := 68) (by decide) (fun c_47 => absurd c_47 (nI_ge (by omega : i < 36) (by decide))) (fun _ => ?_)
    refine e_aloadn (pc := 50) dX7_back_50 rfl ?_
    refine e_get (pc := 51) dX7_back_51 fX7_23 rfl rfl ?_
    refine e_iloadn (pc := 54) dX7_back_54 rfl ?_
    refine e_aloadn (pc := 55) dX7_back_55 rfl ?_
    refine e_get (pc := 56) dX7_back_56 fX7_35 rfl rfl ?_
    refine e_iloadn (pc := 59) dX7_back_59 rfl ?_
    refine aldv_imageOwes (pc := 60) dX7_back_60 iv ex ?_
    refine ast_owes (pc := 61) dX7_back_61 iv2 ?_
    rw [up_setl, nIc (by omega)]
    refine e_incC1 (pc := 62) dX7_back_62 (nI_1 i) (Nat.le_of_ble_eq_true rfl) rfl ?_
    refine e_goto (pc := 65) dX7_back_65 (t := 44) (by decide) ?_
    refine ih (i + 1) _ _ rfl (by omega) (by rw [List.length_set]; exact hl) (fun j hj => ?_)
    rw [gD_set (by omega)]
    by_cases e : j = i
    · rw [if_pos e, e]
    · rw [if_neg e]; exact hx j (by omega)
theorem sp_y_back {s u m n : Nat → Int32} {a c b d : Nat → List Int32} {q : List (Option Nat)} {h : Nat} {z : mc_W} (hL : yL b) : mc_D yX7_back cX7_back 2 (some .int) 1 [.ref 29] (WW s a q u c h m b n d z) (some (.int (if m 6 = 0 then -3 else m 7))) (WW s a q u c h (ybkm m) (ybkb m b) n d z) := by
  refine mc_start (own := RX7) (ini := false) rfl (by decide +kernel) (fun h => by cases h) (Nat.le_of_ble_eq_true rfl) ?_
  show mc_E _ _ _ _ _ [some (.ref 29), none] [] _ _ _
  refine e_aloadn (pc := 0) dX7_back_0 rfl ?_
  refine e_get (pc := 1) dX7_back_1 fX7_292 rfl rfl ?_
  refine e_if_ne (pc := 4) dX7_back_4 (t := 10) (by decide) (fun c_4 => ?_) (fun c_4 => ?_)
  · skip
    refine e_aloadn (pc := 10) dX7_back_10 rfl ?_
    refine e_aloadn (pc := 11) dX7_back_11 rfl ?_
    refine e_get (pc := 12) dX7_back_12 fX7_296 rfl rfl ?_
    refine put_y_clerks (pc := 15) dX7_back_15 pX7_72 ?_
    refine e_aloadn (pc := 18) dX7_back_18 rfl ?_
    refine e_aloadn (pc := 19) dX7_back_19 rfl ?_
    refine e_get (pc := 20) dX7_back_20 fX7_299 rfl rfl ?_
    refine put_y_base0 (pc := 23) dX7_back_23 pX7_7 ?_
    refine e_aloadn (pc := 26) dX7_back_26 rfl ?_
    refine e_aloadn (pc := 27) dX7_back_27 rfl ?_
    refine e_get (pc := 28) dX7_back_28 fX7_302 rfl rfl ?_
    refine put_y_year0 (pc := 31) dX7_back_31 pX7_13 ?_
    refine e_aloadn (pc := 34) dX7_back_34 rfl ?_
    refine e_aloadn (pc := 35) dX7_back_35 rfl ?_
    refine e_get (pc := 36) dX7_back_36 fX7_305 rfl rfl ?_
    refine put_y_rule (pc := 39) dX7_back_39 pX7_83 ?_
    refine e_iconst (v := 0) (pc := 42) dX7_back_42 (by decide) ?_
    refine e_isn1 (pc := 43) dX7_back_43 (Nat.le_of_ble_eq_true rfl) rfl ?_
    have K := lp_y_back (s := s) (a := a) (q := q) (u := u) (c := c) (h := h) (z := z) (n := n) (d := d) (m := mc_up (mc_up (mc_up (mc_up m 2 (m 7)) 0 (m 8)) 1 (m 9)) 5 (m 10)) (B := b) hL.2.2.2.2.2.2.1 36 0 (b 2) b (mc_up_self b 2).symm (by omega) hL.2.2.1 (fun j hj => absurd hj (by omega))
    unfold ybkm ybkb
    rw [if_neg c_4, if_neg c_4, if_neg c_4]
    exact K
  · skip
    refine e_bipush (v := -3) (pc := 7) dX7_back_7 (by decide) ?_
    exact e_iret (pc := 9) dX7_back_9 rfl (Nat.le_refl _) (Nat.le_refl _) ⟨by first | rw [if_pos (c := m 6 = 0) (by assumption)] | simp_all, by unfold ybkm ybkb; first | (rw [if_pos (c := m 6 = 0) (by assumption), if_pos (c := m 6 = 0) (by assumption)]) | simp_all⟩
def yzr (σ : Nat) : Nat → Nat → List Int32 → List Int32
  | 0, _, l => l
  | g + 1, i, l => yzr σ g (i + 1) (l.set (40 * σ + i) 0)
theorem yzr_len (σ : Nat) : ∀ g i l, (yzr σ g i l).length = l.length := by
  intro g
  induction g with
  | zero => intro i l; rfl
  | succ g ih => intro i l; unfold yzr; rw [ih, List.length_set]
theorem yzr_get (σ : Nat) : ∀ g i l j, l.length = 160 → 40 * σ + i + g ≤ 160 → (yzr σ g i l).getD j 0 = if 40 * σ + i ≤ j ∧ j < 40 * σ + i + g then 0 else l.getD j 0 := by
  intro g
  induction g with
  | zero => intro i l j h1 h2; rw [if_neg (by omega)]; rfl
  | succ g ih =>
    intro i l j h1 h2
    unfold yzr
    rw [ih (i + 1) _ j (by rw [List.length_set]; exact h1) (by omega), gD_set (by omega)]
    by_cases e2 : 40 * σ + (i + 1) ≤ j ∧ j < 40 * σ + (i + 1) + g
    · rw [if_pos e2, if_pos (by omega)]
    · rw [if_neg e2]
      by_cases e1 : j = 40 * σ + i
      · rw [if_pos e1, if_pos (by omega)]
      · rw [if_neg e1, if_neg (by omega)]
theorem cl_at {σ i : Nat} (hs : σ < 4) (hi : i < 40) : (40 * nI σ + nI i).toNatClampNeg = 40 * σ + i := by
  rw [show (40 : Int32) * nI σ = nI (40 * σ) from pk_mul 40 σ, nI_add, nIc (by omega)]
theorem cl_in {σ i : Nat} {l : List Int32} (hl : l.length = 160) (hs : σ < 4) (hi : i < 40) : vp_in (40 * nI σ + nI i) l.length := by
  rw [show (40 : Int32) * nI σ = nI (40 * σ) from pk_mul 40 σ, nI_add, hl]; exact vp_in_nI (by omega) (by decide)
def ysh1 (s0 so k : Int32) : Int32 := if (mc_wi s0 0 3 && mc_wi so (-1) 2) = false ∨ (¬ so = -1 ∧ 40 < k) then -2 else if ¬ so = -1 ∧ k < 0 then -14 else 1
def yshx (b : Nat → List Int32) (s0 so k : Int32) : Nat → List Int32 := mc_up (mc_up (mc_up b 7 ((b 7).set s0.toNatClampNeg so)) 8 ((b 8).set s0.toNatClampNeg k)) 9 (yzr s0.toNatClampNeg 40 0 (b 9))
def yshb (b : Nat → List Int32) (s0 so k : Int32) : Nat → List Int32 := if ysh1 s0 so k = 1 then yshx b s0 so (if so = -1 then 0 else k) else b
theorem lp_y_sheet {s u m n : Nat → Int32} {a c d : Nat → List Int32} {q : List (Option Nat)} {h : Nat} {z : mc_W} {Post : Option Value → mc_W → Prop} {B : Nat → List Int32} {L : List Int32} {σ : Nat} (hs : σ < 4) {so k0 : Int32}
    (hK : mc_E RX7 cX7_sheet 5 (mc_JM (some .int) false 2 0 0 Post) 96 [some (.ref 29), some (.int (nI σ)), some (.int so), some (.int k0), some (.int (nI 40))] [] (WW s a q u c h m (mc_up B 9 L) n d z) 0 0) :
    ∀ (g i : Nat) (l : List Int32) (b : Nat → List Int32), b = mc_up B 9 l → i + g = 40 → l.length = 160 → yzr σ g i l = L →
      mc_E RX7 cX7_sheet 5 (mc_JM (some .int) false 2 0 0 Post) 70 [some (.ref 29), some (.int (nI σ)), some (.int so), some (.int k0), some (.int (nI i))] [] (WW s a q u c h m b n d z) 0 0 := by
  intro g
  induction g with
  | zero =>
    intro i l b hb hi hl hx
    have e : i = 40 := by omega
    subst e
    have hx : l = L := hx
    subst hx hb
    refine e_iload (pc := 70) dX7_sheet_70 rfl ?_
    refine e_bipush (v := 40) (pc := 72) dX7_sheet_72 (by decide) ?_
    refine e_icmp_ge (pc := 74) dX7_sheet_74 (t := 96) (by decide) (fun _ => ?_) (fun c_74 => absurd (by decide) c_74)
    exact hK
  | succ g ih =>
    intro i l b hb hi hl hx
    subst hb
    have iv2 : vp_in (40 * nI σ + nI i) ((mc_up B 9 l) 9).length := cl_in hl hs (by omega)
    refine e_iload (pc := 70) dX7_sheet_70 rfl ?_
    refine e_bipush (v := 40) (pc := 72) dX7_sheet_72 (by decide) ?_
    refine e_icmp_ge (pc := 74) dX7_sheet_74 (t := 96) (by decide) (fun c_74 => absurd c_74 (nI_ge (by omega : i < 40) (by decide))) (fun _ => ?_)
    refine e_aloadn (pc := 77) dX7_sheet_77 rfl ?_
    refine e_get (pc := 78) dX7_sheet_78 fX7_44 rfl rfl ?_
    refine e_bipush (v := 40) (pc := 81) dX7_sheet_81 (by decide) ?_
    refine e_iloadn (pc := 83) dX7_sheet_83 rfl ?_
    refine e_imul (pc := 84) dX7_sheet_84 ?_
    refine e_iload (pc := 85) dX7_sheet_85 rfl ?_
    refine e_iadd (pc := 87) dX7_sheet_87 ?_
    refine e_iconst (v := 0) (pc := 88) dX7_sheet_88 (by decide) ?_
    refine ast_ycells (pc := 89) dX7_sheet_89 iv2 ?_
    rw [up_setl, cl_at hs (by omega)]
    refine e_incC4 (pc := 90) dX7_sheet_90 (nI_1 i) (Nat.le_of_ble_eq_true rfl) rfl ?_
    refine e_goto (pc := 93) dX7_sheet_93 (t := 70) (by decide) ?_
    exact ih (i + 1) _ _ rfl (by omega) (by rw [List.length_set]; exact hl) hx
theorem lp_y_sheet_end {s u m n : Nat → Int32} {a c b d : Nat → List Int32} {q : List (Option Nat)} {h : Nat} {z : mc_W} {x1 x2 x3 x4 : Option Value} :
    mc_E RX7 cX7_sheet 5 (mc_JM (some .int) false 2 0 0 (fun r' w' => r' = some (.int (1)) ∧ w' = WW s a q u c h m b n d z)) 96 [some (.ref 29), x1, x2, x3, x4] [] (WW s a q u c h m b n d z) 0 0 := by
  refine e_iconst (v := 1) (pc := 96) dX7_sheet_96 (by decide) ?_
  exact e_iret (pc := 97) dX7_sheet_97 rfl (Nat.le_refl _) (Nat.le_refl _) ⟨rfl, rfl⟩
theorem sp_y_sheet {s u m n : Nat → Int32} {a c b d : Nat → List Int32} {q : List (Option Nat)} {h : Nat} {z : mc_W} {s0 so k : Int32} (hL : yL b) : mc_D yX7_sheet cX7_sheet 5 (some .int) 2 [.ref 29, .int s0, .int so, .int k] (WW s a q u c h m b n d z) (some (.int (ysh1 s0 so k))) (WW s a q u c h m (yshb b s0 so k) n d z) := by
  refine mc_start (own := RX7) (ini := false) rfl (by decide +kernel) (fun h => by cases h) (Nat.le_of_ble_eq_true rfl) ?_
  show mc_E _ _ _ _ _ [some (.ref 29), some (.int s0), some (.int so), some (.int k), none] [] _ _ _
  have h7 : mc_wi s0 0 3 = true → vp_in s0 (b 7).length := fun h => by rw [hL.2.2.2.2.2.2.2.1]; exact vp_in_w2 h (by decide) (by decide)
  have h8 : mc_wi s0 0 3 = true → vp_in s0 (b 8).length := fun h => by rw [hL.2.2.2.2.2.2.2.2.1]; exact vp_in_w2 h (by decide) (by decide)
  refine e_iloadn (pc := 0) dX7_sheet_0 rfl ?_
  refine e_iconst (v := 0) (pc := 1) dX7_sheet_1 (by decide) ?_
  refine e_iconst (v := 3) (pc := 2) dX7_sheet_2 (by decide) ?_
  refine e_csD (pc := 3) (sp_y_in) dX7_sheet_3 kX7_75 rfl rfl (mc_CR_of (Nat.le_of_ble_eq_true rfl) (Nat.le_of_ble_eq_true rfl) (Nat.le_refl _) (Nat.le_refl _)) (Nat.le_of_ble_eq_true rfl) ?_
  refine e_if_eq (pc := 6) dX7_sheet_6 (t := 29) (by decide) (fun c_6 => ?_) (fun c_6 => ?_)
  · skip
    refine e_bipush (v := -2) (pc := 29) dX7_sheet_29 (by decide) ?_
    exact e_iret (pc := 31) dX7_sheet_31 rfl (Nat.le_refl _) (Nat.le_refl _) (have e1 : ysh1 s0 so k = -2 := (by unfold ysh1; rw [if_pos (Or.inl (by rw [mc_b0.mp c_6]; rfl))]); ⟨by rw [e1], by unfold yshb; rw [e1]; rfl⟩)
  · skip
    refine e_iloadn (pc := 9) dX7_sheet_9 rfl ?_
    refine e_iconst (v := -1) (pc := 10) dX7_sheet_10 (by decide) ?_
    refine e_iconst (v := 2) (pc := 11) dX7_sheet_11 (by decide) ?_
    refine e_csD (pc := 12) (sp_y_in) dX7_sheet_12 kX7_75 rfl rfl (mc_CR_of (Nat.le_of_ble_eq_true rfl) (Nat.le_of_ble_eq_true rfl) (Nat.le_refl _) (Nat.le_refl _)) (Nat.le_of_ble_eq_true rfl) ?_
    refine e_if_eq (pc := 15) dX7_sheet_15 (t := 29) (by decide) (fun c_15 => ?_) (fun c_15 => ?_)
    · skip
      refine e_bipush (v := -2) (pc := 29) dX7_sheet_29 (by decide) ?_
      exact e_iret (pc := 31) dX7_sheet_31 rfl (Nat.le_refl _) (Nat.le_refl _) (have e1 : ysh1 s0 so k = -2 := (by unfold ysh1; rw [if_pos (Or.inl (by rw [mc_b0.mp c_15, Bool.and_false]))]); ⟨by rw [e1], by unfold yshb; rw [e1]; rfl⟩)
    · skip
      refine e_iloadn (pc := 18) dX7_sheet_18 rfl ?_
      refine e_iconst (v := -1) (pc := 19) dX7_sheet_19 (by decide) ?_
      refine e_icmp_eq (pc := 20) dX7_sheet_20 (t := 32) (by decide) (fun c_20 => ?_) (fun c_20 => ?_)
      · skip
        refine e_iloadn (pc := 32) dX7_sheet_32 rfl ?_
        refine e_iconst (v := -1) (pc := 33) dX7_sheet_33 (by decide) ?_
        refine e_icmp_eq (pc := 34) dX7_sheet_34 (t := 44) (by decide) (fun _ => ?_) (fun c_34 => absurd c_20 c_34)
        refine e_aloadn (pc := 44) dX7_sheet_44 rfl ?_
        refine e_get (pc := 45) dX7_sheet_45 fX7_38 rfl rfl ?_
        refine e_iloadn (pc := 48) dX7_sheet_48 rfl ?_
        refine e_iloadn (pc := 49) dX7_sheet_49 rfl ?_
        refine ast_sheetSort (pc := 50) dX7_sheet_50 (h7 (by simpa [mc_b0] using c_6)) ?_
        refine e_aloadn (pc := 51) dX7_sheet_51 rfl ?_
        refine e_get (pc := 52) dX7_sheet_52 fX7_41 rfl rfl ?_
        refine e_iloadn (pc := 55) dX7_sheet_55 rfl ?_
        refine e_iloadn (pc := 56) dX7_sheet_56 rfl ?_
        refine e_iconst (v := -1) (pc := 57) dX7_sheet_57 (by decide) ?_
        refine e_icmp_ne (pc := 58) dX7_sheet_58 (t := 65) (by decide) (fun c_58 => absurd c_58 (fun q => q c_20)) (fun _ => ?_)
        refine e_iconst (v := 0) (pc := 61) dX7_sheet_61 (by decide) ?_
        refine e_goto (pc := 62) dX7_sheet_62 (t := 66) (by decide) ?_
        refine ast_sheetSize (pc := 66) dX7_sheet_66 (h8 (by simpa [mc_b0] using c_6)) ?_
        refine e_iconst (v := 0) (pc := 67) dX7_sheet_67 (by decide) ?_
        refine e_isw4 (pc := 68) dX7_sheet_68 (Nat.le_of_ble_eq_true rfl) rfl ?_
        have q6 : mc_wi s0 0 3 = true := by simpa [mc_b0] using c_6
        have q15 : mc_wi so (-1) 2 = true := by simpa [mc_b0] using c_15
        have e1 : ysh1 s0 so k = 1 := by unfold ysh1; rw [if_neg (fun q => q.elim (fun q => by simp [q15, q6] at q) (fun q => q.1 c_20)), if_neg (fun q => q.1 c_20)]
        have e2 : yshb b s0 so k = yshx b s0 so 0 := by unfold yshb; rw [if_pos e1, if_pos c_20]
        rw [e1, e2]
        clear h7 h8 e1 e2
        have hs4 : vp_in s0 4 := vp_in_w2 q6 (by decide) (by decide)
        obtain ⟨σ, h4, rfl⟩ := vp_in_of hs4 (by decide)
        refine lp_y_sheet h4 (lp_y_sheet_end) 40 0 _ _ (mc_up_self _ 9).symm (by omega) hL.2.2.2.2.2.2.2.2.2 ?_
        rw [nIc (n := σ) (by omega)]
        rfl
      · skip
        refine e_iloadn (pc := 23) dX7_sheet_23 rfl ?_
        refine e_bipush (v := 40) (pc := 24) dX7_sheet_24 (by decide) ?_
        refine e_icmp_le (pc := 26) dX7_sheet_26 (t := 32) (by decide) (fun c_26 => ?_) (fun c_26 => ?_)
        · skip
          refine e_iloadn (pc := 32) dX7_sheet_32 rfl ?_
          refine e_iconst (v := -1) (pc := 33) dX7_sheet_33 (by decide) ?_
          refine e_icmp_eq (pc := 34) dX7_sheet_34 (t := 44) (by decide) (fun c_34 => absurd c_34 c_20) (fun _ => ?_)
          refine e_iloadn (pc := 37) dX7_sheet_37 rfl ?_
          refine e_if_ge (pc := 38) dX7_sheet_38 (t := 44) (by decide) (fun c_38 => ?_) (fun c_38 => ?_)
          · skip
            refine e_aloadn (pc := 44) dX7_sheet_44 rfl ?_
            refine e_get (pc := 45) dX7_sheet_45 fX7_38 rfl rfl ?_
            refine e_iloadn (pc := 48) dX7_sheet_48 rfl ?_
            refine e_iloadn (pc := 49) dX7_sheet_49 rfl ?_
            refine ast_sheetSort (pc := 50) dX7_sheet_50 (h7 (by simpa [mc_b0] using c_6)) ?_
            refine e_aloadn (pc := 51) dX7_sheet_51 rfl ?_
            refine e_get (pc := 52) dX7_sheet_52 fX7_41 rfl rfl ?_
            refine e_iloadn (pc := 55) dX7_sheet_55 rfl ?_
            refine e_iloadn (pc := 56) dX7_sheet_56 rfl ?_
            refine e_iconst (v := -1) (pc := 57) dX7_sheet_57 (by decide) ?_
            refine e_icmp_ne (pc := 58) dX7_sheet_58 (t := 65) (by decide) (fun c_58 => ?_) (fun c_58 => ?_)
            · skip
              refine e_iloadn (pc := 65) dX7_sheet_65 rfl ?_
              refine ast_sheetSize (pc := 66) dX7_sheet_66 (h8 (by simpa [mc_b0] using c_6)) ?_
              refine e_iconst (v := 0) (pc := 67) dX7_sheet_67 (by decide) ?_
              refine e_isw4 (pc := 68) dX7_sheet_68 (Nat.le_of_ble_eq_true rfl) rfl ?_
              have q6 : mc_wi s0 0 3 = true := by simpa [mc_b0] using c_6
              have q15 : mc_wi so (-1) 2 = true := by simpa [mc_b0] using c_15
              have e1 : ysh1 s0 so k = 1 := by unfold ysh1; rw [if_neg (fun q => q.elim (fun q => by simp [q15, q6] at q) (fun q => absurd q.2 (Int32.not_lt.mpr c_26))), if_neg (fun q => absurd q.2 (Int32.not_lt.mpr c_38))]
              have e2 : yshb b s0 so k = yshx b s0 so k := by unfold yshb; rw [if_pos e1, if_neg c_20]
              rw [e1, e2]
              clear h7 h8 e1 e2
              have hs4 : vp_in s0 4 := vp_in_w2 q6 (by decide) (by decide)
              obtain ⟨σ, h4, rfl⟩ := vp_in_of hs4 (by decide)
              refine lp_y_sheet h4 (lp_y_sheet_end) 40 0 _ _ (mc_up_self _ 9).symm (by omega) hL.2.2.2.2.2.2.2.2.2 ?_
              rw [nIc (n := σ) (by omega)]
              rfl
            · skip
              refine e_iconst (v := 0) (pc := 61) dX7_sheet_61 (by decide) ?_
              refine e_goto (pc := 62) dX7_sheet_62 (t := 66) (by decide) ?_
              refine ast_sheetSize (pc := 66) dX7_sheet_66 (h8 (by simpa [mc_b0] using c_6)) ?_
              refine e_iconst (v := 0) (pc := 67) dX7_sheet_67 (by decide) ?_
              refine e_isw4 (pc := 68) dX7_sheet_68 (Nat.le_of_ble_eq_true rfl) rfl ?_
              exact absurd c_58 c_20
          · skip
            refine e_bipush (v := -14) (pc := 41) dX7_sheet_41 (by decide) ?_
            exact e_iret (pc := 43) dX7_sheet_43 rfl (Nat.le_refl _) (Nat.le_refl _) (have q6 : mc_wi s0 0 3 = true := (by simpa [mc_b0] using c_6); have q15 : mc_wi so (-1) 2 = true := (by simpa [mc_b0] using c_15); have e1 : ysh1 s0 so k = -14 := (by unfold ysh1; rw [if_neg (fun q => q.elim (fun q => by simp [q6, q15] at q) (fun q => absurd q.2 (Int32.not_lt.mpr c_26))), if_pos ⟨c_20, Int32.not_le.mp c_38⟩]); ⟨by rw [e1], by unfold yshb; rw [e1]; rfl⟩)
        · skip
          refine e_bipush (v := -2) (pc := 29) dX7_sheet_29 (by decide) ?_
          exact e_iret (pc := 31) dX7_sheet_31 rfl (Nat.le_refl _) (Nat.le_refl _) (have e1 : ysh1 s0 so k = -2 := (by unfold ysh1; rw [if_pos (Or.inr ⟨c_20, Int32.not_le.mp c_26⟩)]); ⟨by rw [e1], by unfold yshb; rw [e1]; rfl⟩)
