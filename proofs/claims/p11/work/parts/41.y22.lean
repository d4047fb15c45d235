/-! the reading of a text -/
def ysg (t : Int32) : Int32 := if t = 4 then 11 else if t = 5 then 12 else if t = 60 then 14 else if t = 61 then 15 else if t = 43 then 16 else if t = 45 then 17 else if t = 42 then 18 else -1
theorem sp_y_signOf {s u m n : Nat → Int32} {a c b d : Nat → List Int32} {q : List (Option Nat)} {h : Nat} {z : mc_W} : mc_D yX7_signOf cX7_signOf 1 (some .int) 1 [.ref 29] (WW s a q u c h m b n d z) (some (.int (ysg (n 2)))) (WW s a q u c h m b n d z) := by
  refine mc_start (own := RX7) (ini := false) rfl (by decide +kernel) (fun h => by cases h) (Nat.le_of_ble_eq_true rfl) ?_
  show mc_E _ _ _ _ _ [some (.ref 29)] [] _ _ _
  refine e_aloadn (pc := 0) dX7_signOf_0 rfl ?_
  refine e_get (pc := 1) dX7_signOf_1 fX7_99 rfl rfl ?_
  refine e_iconst (v := 4) (pc := 4) dX7_signOf_4 (by decide) ?_
  refine e_icmp_ne (pc := 5) dX7_signOf_5 (t := 13) (by decide) (fun c_5 => ?_) (fun c_5 => ?_)
  · skip
    refine e_aloadn (pc := 13) dX7_signOf_13 rfl ?_
    refine e_get (pc := 14) dX7_signOf_14 fX7_99 rfl rfl ?_
    refine e_iconst (v := 5) (pc := 17) dX7_signOf_17 (by decide) ?_
    refine e_icmp_ne (pc := 18) dX7_signOf_18 (t := 26) (by decide) (fun c_18 => ?_) (fun c_18 => ?_)
    · skip
      refine e_aloadn (pc := 26) dX7_signOf_26 rfl ?_
      refine e_get (pc := 27) dX7_signOf_27 fX7_99 rfl rfl ?_
      refine e_bipush (v := 60) (pc := 30) dX7_signOf_30 (by decide) ?_
      refine e_icmp_ne (pc := 32) dX7_signOf_32 (t := 40) (by decide) (fun c_32 => ?_) (fun c_32 => ?_)
      · skip
        refine e_aloadn (pc := 40) dX7_signOf_40 rfl ?_
        refine e_get (pc := 41) dX7_signOf_41 fX7_99 rfl rfl ?_
        refine e_bipush (v := 61) (pc := 44) dX7_signOf_44 (by decide) ?_
        refine e_icmp_ne (pc := 46) dX7_signOf_46 (t := 54) (by decide) (fun c_46 => ?_) (fun c_46 => ?_)
        · skip
          refine e_aloadn (pc := 54) dX7_signOf_54 rfl ?_
          refine e_get (pc := 55) dX7_signOf_55 fX7_99 rfl rfl ?_
          refine e_bipush (v := 43) (pc := 58) dX7_signOf_58 (by decide) ?_
          refine e_icmp_ne (pc := 60) dX7_signOf_60 (t := 68) (by decide) (fun c_60 => ?_) (fun c_60 => ?_)
          · skip
            refine e_aloadn (pc := 68) dX7_signOf_68 rfl ?_
            refine e_get (pc := 69) dX7_signOf_69 fX7_99 rfl rfl ?_
            refine e_bipush (v := 45) (pc := 72) dX7_signOf_72 (by decide) ?_
            refine e_icmp_ne (pc := 74) dX7_signOf_74 (t := 82) (by decide) (fun c_74 => ?_) (fun c_74 => ?_)
            · skip
              refine e_aloadn (pc := 82) dX7_signOf_82 rfl ?_
              refine e_get (pc := 83) dX7_signOf_83 fX7_99 rfl rfl ?_
              refine e_bipush (v := 42) (pc := 86) dX7_signOf_86 (by decide) ?_
              refine e_icmp_ne (pc := 88) dX7_signOf_88 (t := 96) (by decide) (fun c_88 => ?_) (fun c_88 => ?_)
              · skip
                refine e_iconst (v := -1) (pc := 96) dX7_signOf_96 (by decide) ?_
                exact e_iret (pc := 97) dX7_signOf_97 rfl (Nat.le_refl _) (Nat.le_refl _) ⟨(by (try simp only [mc_cmp_le, mc_cmp_ge, mc_cmp_eq, mc_cmp_lt, mc_cmp_gt, mc_b0, mc_b1, Bool.not_eq_false, Bool.not_eq_true] at c_5 c_18 c_32 c_46 c_60 c_74 c_88); first | rfl | (simp [ysg, c_5, c_18, c_32, c_46, c_60, c_74, c_88]; done) | ((try simp only [← Int32.not_lt, ← Int64.not_lt, Classical.not_not] at c_5 c_18 c_32 c_46 c_60 c_74 c_88); simp [ysg, c_5, c_18, c_32, c_46, c_60, c_74, c_88])), rfl⟩
              · skip
                refine e_bipush (v := 18) (pc := 91) dX7_signOf_91 (by decide) ?_
                refine e_goto (pc := 93) dX7_signOf_93 (t := 97) (by decide) ?_
                exact e_iret (pc := 97) dX7_signOf_97 rfl (Nat.le_refl _) (Nat.le_refl _) ⟨(by (try simp only [mc_cmp_le, mc_cmp_ge, mc_cmp_eq, mc_cmp_lt, mc_cmp_gt, mc_b0, mc_b1, Bool.not_eq_false, Bool.not_eq_true] at c_5 c_18 c_32 c_46 c_60 c_74 c_88); first | rfl | (simp [ysg, c_5, c_18, c_32, c_46, c_60, c_74, c_88]; done) | ((try simp only [← Int32.not_lt, ← Int64.not_lt, Classical.not_not] at c_5 c_18 c_32 c_46 c_60 c_74 c_88); simp [ysg, c_5, c_18, c_32, c_46, c_60, c_74, c_88])), rfl⟩
            · skip
              refine e_bipush (v := 17) (pc := 77) dX7_signOf_77 (by decide) ?_
              refine e_goto (pc := 79) dX7_signOf_79 (t := 97) (by decide) ?_
              exact e_iret (pc := 97) dX7_signOf_97 rfl (Nat.le_refl _) (Nat.le_refl _) ⟨(by (try simp only [mc_cmp_le, mc_cmp_ge, mc_cmp_eq, mc_cmp_lt, mc_cmp_gt, mc_b0, mc_b1, Bool.not_eq_false, Bool.not_eq_true] at c_5 c_18 c_32 c_46 c_60 c_74); first | rfl | (simp [ysg, c_5, c_18, c_32, c_46, c_60, c_74]; done) | ((try simp only [← Int32.not_lt, ← Int64.not_lt, Classical.not_not] at c_5 c_18 c_32 c_46 c_60 c_74); simp [ysg, c_5, c_18, c_32, c_46, c_60, c_74])), rfl⟩
          · skip
            refine e_bipush (v := 16) (pc := 63) dX7_signOf_63 (by decide) ?_
            refine e_goto (pc := 65) dX7_signOf_65 (t := 97) (by decide) ?_
            exact e_iret (pc := 97) dX7_signOf_97 rfl (Nat.le_refl _) (Nat.le_refl _) ⟨(by (try simp only [mc_cmp_le, mc_cmp_ge, mc_cmp_eq, mc_cmp_lt, mc_cmp_gt, mc_b0, mc_b1, Bool.not_eq_false, Bool.not_eq_true] at c_5 c_18 c_32 c_46 c_60); first | rfl | (simp [ysg, c_5, c_18, c_32, c_46, c_60]; done) | ((try simp only [← Int32.not_lt, ← Int64.not_lt, Classical.not_not] at c_5 c_18 c_32 c_46 c_60); simp [ysg, c_5, c_18, c_32, c_46, c_60])), rfl⟩
        · skip
          refine e_bipush (v := 15) (pc := 49) dX7_signOf_49 (by decide) ?_
          refine e_goto (pc := 51) dX7_signOf_51 (t := 97) (by decide) ?_
          exact e_iret (pc := 97) dX7_signOf_97 rfl (Nat.le_refl _) (Nat.le_refl _) ⟨(by (try simp only [mc_cmp_le, mc_cmp_ge, mc_cmp_eq, mc_cmp_lt, mc_cmp_gt, mc_b0, mc_b1, Bool.not_eq_false, Bool.not_eq_true] at c_5 c_18 c_32 c_46); first | rfl | (simp [ysg, c_5, c_18, c_32, c_46]; done) | ((try simp only [← Int32.not_lt, ← Int64.not_lt, Classical.not_not] at c_5 c_18 c_32 c_46); simp [ysg, c_5, c_18, c_32, c_46])), rfl⟩
      · skip
        refine e_bipush (v := 14) (pc := 35) dX7_signOf_35 (by decide) ?_
        refine e_goto (pc := 37) dX7_signOf_37 (t := 97) (by decide) ?_
        exact e_iret (pc := 97) dX7_signOf_97 rfl (Nat.le_refl _) (Nat.le_refl _) ⟨(by (try simp only [mc_cmp_le, mc_cmp_ge, mc_cmp_eq, mc_cmp_lt, mc_cmp_gt, mc_b0, mc_b1, Bool.not_eq_false, Bool.not_eq_true] at c_5 c_18 c_32); first | rfl | (simp [ysg, c_5, c_18, c_32]; done) | ((try simp only [← Int32.not_lt, ← Int64.not_lt, Classical.not_not] at c_5 c_18 c_32); simp [ysg, c_5, c_18, c_32])), rfl⟩
    · skip
      refine e_bipush (v := 12) (pc := 21) dX7_signOf_21 (by decide) ?_
      refine e_goto (pc := 23) dX7_signOf_23 (t := 97) (by decide) ?_
      exact e_iret (pc := 97) dX7_signOf_97 rfl (Nat.le_refl _) (Nat.le_refl _) ⟨(by (try simp only [mc_cmp_le, mc_cmp_ge, mc_cmp_eq, mc_cmp_lt, mc_cmp_gt, mc_b0, mc_b1, Bool.not_eq_false, Bool.not_eq_true] at c_5 c_18); first | rfl | (simp [ysg, c_5, c_18]; done) | ((try simp only [← Int32.not_lt, ← Int64.not_lt, Classical.not_not] at c_5 c_18); simp [ysg, c_5, c_18])), rfl⟩
  · skip
    refine e_bipush (v := 11) (pc := 8) dX7_signOf_8 (by decide) ?_
    refine e_goto (pc := 10) dX7_signOf_10 (t := 97) (by decide) ?_
    exact e_iret (pc := 97) dX7_signOf_97 rfl (Nat.le_refl _) (Nat.le_refl _) ⟨(by (try simp only [mc_cmp_le, mc_cmp_ge, mc_cmp_eq, mc_cmp_lt, mc_cmp_gt, mc_b0, mc_b1, Bool.not_eq_false, Bool.not_eq_true] at c_5); first | rfl | (simp [ysg, c_5]; done) | ((try simp only [← Int32.not_lt, ← Int64.not_lt, Classical.not_not] at c_5); simp [ysg, c_5])), rfl⟩
def ypb (m : Nat → Int32) (b : Nat → List Int32) (n : Nat → Int32) (x : Int32) : Nat → List Int32 := mc_up b 4 ((b 4).set (200 * m 4 + n 6).toNatClampNeg x)
def ypn (n : Nat → Int32) : Nat → Int32 := mc_up n 6 (n 6 + 1)
def yhn (n : Nat → Int32) : Nat → Int32 := mc_up n 4 (n 4 + 1)
def yhd (n : Nat → Int32) (d : Nat → List Int32) (x : Int32) : Nat → List Int32 := mc_up d 0 ((d 0).set (n 4).toNatClampNeg x)
theorem sp_y_puts {s u m n : Nat → Int32} {a c b d : Nat → List Int32} {q : List (Option Nat)} {h : Nat} {z : mc_W} {x : Int32} (hi : vp_in (200 * m 4 + n 6) (b 4).length) : mc_D yX7_puts cX7_puts 2 none 1 [.ref 29, .int x] (WW s a q u c h m b n d z) none (WW s a q u c h m (ypb m b n x) (ypn n) d z) := by
  refine mc_start (own := RX7) (ini := false) rfl (by decide +kernel) (fun h => by cases h) (Nat.le_of_ble_eq_true rfl) ?_
  show mc_E _ _ _ _ _ [some (.ref 29), some (.int x)] [] _ _ _
  refine e_aloadn (pc := 0) dX7_puts_0 rfl ?_
  refine e_get (pc := 1) dX7_puts_1 fX7_29 rfl rfl ?_
  refine e_sipush (v := 200) (pc := 4) dX7_puts_4 (by decide) ?_
  refine e_aloadn (pc := 7) dX7_puts_7 rfl ?_
  refine e_get (pc := 8) dX7_puts_8 fX7_80 rfl rfl ?_
  refine e_imul (pc := 11) dX7_puts_11 ?_
  refine e_aloadn (pc := 12) dX7_puts_12 rfl ?_
  refine e_get (pc := 13) dX7_puts_13 fX7_109 rfl rfl ?_
  refine e_iadd (pc := 16) dX7_puts_16 ?_
  refine e_iloadn (pc := 17) dX7_puts_17 rfl ?_
  refine ast_codes (pc := 18) dX7_puts_18 hi ?_
  refine e_aloadn (pc := 19) dX7_puts_19 rfl ?_
  refine e_dup (pc := 20) dX7_puts_20 rfl ?_
  refine e_get (pc := 21) dX7_puts_21 fX7_109 rfl rfl ?_
  refine e_iconst (v := 1) (pc := 24) dX7_puts_24 (by decide) ?_
  refine e_iadd (pc := 25) dX7_puts_25 ?_
  refine put_y_out (pc := 26) dX7_puts_26 pX7_109 ?_
  exact e_vret (pc := 29) dX7_puts_29 rfl (Nat.le_refl _) (Nat.le_refl _) ⟨rfl, rfl⟩
theorem sp_y_holds {s u m n : Nat → Int32} {a c b d : Nat → List Int32} {q : List (Option Nat)} {h : Nat} {z : mc_W} {x : Int32} (hi : vp_in (n 4) (d 0).length) : mc_D yX7_holds cX7_holds 2 none 1 [.ref 29, .int x] (WW s a q u c h m b n d z) none (WW s a q u c h m b (yhn n) (yhd n d x) z) := by
  refine mc_start (own := RX7) (ini := false) rfl (by decide +kernel) (fun h => by cases h) (Nat.le_of_ble_eq_true rfl) ?_
  show mc_E _ _ _ _ _ [some (.ref 29), some (.int x)] [] _ _ _
  refine e_aloadn (pc := 0) dX7_holds_0 rfl ?_
  refine e_get (pc := 1) dX7_holds_1 fX7_53 rfl rfl ?_
  refine e_aloadn (pc := 4) dX7_holds_4 rfl ?_
  refine e_get (pc := 5) dX7_holds_5 fX7_112 rfl rfl ?_
  refine e_iloadn (pc := 8) dX7_holds_8 rfl ?_
  refine ast_held (pc := 9) dX7_holds_9 hi ?_
  refine e_aloadn (pc := 10) dX7_holds_10 rfl ?_
  refine e_dup (pc := 11) dX7_holds_11 rfl ?_
  refine e_get (pc := 12) dX7_holds_12 fX7_112 rfl rfl ?_
  refine e_iconst (v := 1) (pc := 15) dX7_holds_15 (by decide) ?_
  refine e_iadd (pc := 16) dX7_holds_16 ?_
  refine put_y_heldMany (pc := 17) dX7_holds_17 pX7_112 ?_
  exact e_vret (pc := 20) dX7_holds_20 rfl (Nat.le_refl _) (Nat.le_refl _) ⟨rfl, rfl⟩
def yoo (n : Nat → Int32) : Nat → Int32 := if n 5 = 5 then n else yhn (mc_up n 5 (n 5 + 1))
def yod (n : Nat → Int32) (d : Nat → List Int32) (x : Int32) : Nat → List Int32 := if n 5 = 5 then d else yhd n d x
theorem sp_y_opensOne {s u m n : Nat → Int32} {a c b d : Nat → List Int32} {q : List (Option Nat)} {h : Nat} {z : mc_W} {x : Int32} (hi : ¬ n 5 = 5 → vp_in (n 4) (d 0).length) : mc_D yX7_opensOne cX7_opensOne 2 (some .boolean) 2 [.ref 29, .int x] (WW s a q u c h m b n d z) (some (.int (mc_b (n 5 != 5)))) (WW s a q u c h m b (yoo n) (yod n d x) z) := by
  refine mc_start (own := RX7) (ini := false) rfl (by decide +kernel) (fun h => by cases h) (Nat.le_of_ble_eq_true rfl) ?_
  show mc_E _ _ _ _ _ [some (.ref 29), some (.int x)] [] _ _ _
  refine e_aloadn (pc := 0) dX7_opensOne_0 rfl ?_
  refine e_get (pc := 1) dX7_opensOne_1 fX7_119 rfl rfl ?_
  refine e_iconst (v := 5) (pc := 4) dX7_opensOne_4 (by decide) ?_
  refine e_icmp_ne (pc := 5) dX7_opensOne_5 (t := 10) (by decide) (fun c_5 => ?_) (fun c_5 => ?_)
  · skip
    refine e_aloadn (pc := 10) dX7_opensOne_10 rfl ?_
    refine e_dup (pc := 11) dX7_opensOne_11 rfl ?_
    refine e_get (pc := 12) dX7_opensOne_12 fX7_119 rfl rfl ?_
    refine e_iconst (v := 1) (pc := 15) dX7_opensOne_15 (by decide) ?_
    refine e_iadd (pc := 16) dX7_opensOne_16 ?_
    refine put_y_opens (pc := 17) dX7_opensOne_17 pX7_119 ?_
    refine e_aloadn (pc := 20) dX7_opensOne_20 rfl ?_
    refine e_iloadn (pc := 21) dX7_opensOne_21 rfl ?_
    refine e_cvU (pc := 22) (sp_y_holds (n := mc_up n 5 (n 5 + 1)) (hi c_5)) dX7_opensOne_22 kX7_126 rfl rfl rfl rfl rfl (mc_CR_of (Nat.le_of_ble_eq_true rfl) (Nat.le_of_ble_eq_true rfl) (Nat.le_refl _) (Nat.le_refl _)) (Nat.le_of_ble_eq_true rfl) ?_
    refine e_iconst (v := 1) (pc := 25) dX7_opensOne_25 (by decide) ?_
    exact e_zret (pc := 26) dX7_opensOne_26 rfl (by rfl) (Nat.le_refl _) (Nat.le_refl _) ⟨by rw [show (n 5 != 5) = true by simp [c_5]]; rfl, by unfold yoo yod; rw [if_neg c_5, if_neg c_5]; rfl⟩
  · skip
    refine e_iconst (v := 0) (pc := 8) dX7_opensOne_8 (by decide) ?_
    exact e_zret (pc := 9) dX7_opensOne_9 rfl (by rfl) (Nat.le_refl _) (Nat.le_refl _) ⟨by rw [show (n 5 != 5) = false by simp [c_5]]; rfl, by unfold yoo yod; rw [if_pos c_5, if_pos c_5]⟩
def ywi (T : Nat → Int32) (fr to k : Nat) : Nat → Nat → Bool → Bool
  | 0, _, L => L
  | g + 1, i, L => if L = true then ywi T fr to k g (i + 1) (decide (ww_words.getD (8 * k + i) 0 = (if fr + i < to then T (fr + i) else 32))) else false
/-- which word stands from fr to to -/
def ywo (T : Nat → Int32) (fr to : Nat) : Nat → Nat → Nat
  | 0, _ => 12
  | g + 1, k => if ywi T fr to k 8 0 (decide (to - fr ≤ 8)) = true then k else ywo T fr to g (k + 1)
def yt3 (b : Nat → List Int32) (i : Nat) : Int32 := (b 3).getD i 0
theorem lp_y_wi {s u m n : Nat → Int32} {a c b d : Nat → List Int32} {q : List (Option Nat)} {h : Nat} {z : mc_W} {Post : Option Value → mc_W → Prop} {fr to k : Nat} {V : Bool} (hL : yL b) (hto : to ≤ 160) (hft : fr ≤ to) (hk : k < 12)
    (hK : ∀ x5, mc_E RX7 cX7_wordFrom 6 (mc_JM (some .int) false 1 0 0 Post) 88 [some (.ref 29), some (.int (nI fr)), some (.int (nI to)), some (.int (nI k)), some (.int (mc_b V)), x5] [] (WW s a q u c h m b n d z) 0 0) :
    ∀ (g i : Nat) (L : Bool), i + g = 8 → ywi (yt3 b) fr to k g i L = V →
      mc_E RX7 cX7_wordFrom 6 (mc_JM (some .int) false 1 0 0 Post) 26 [some (.ref 29), some (.int (nI fr)), some (.int (nI to)), some (.int (nI k)), some (.int (mc_b L)), some (.int (nI i))] [] (WW s a q u c h m b n d z) 0 0 := by
  intro g
  induction g with
  | zero =>
    intro i L hi hV
    have e : i = 8 := by omega
    subst e
    have hV : L = V := hV
    subst hV
    refine e_iload (pc := 26) dX7_wordFrom_26 rfl ?_
    refine e_bipush (v := 8) (pc := 28) dX7_wordFrom_28 (by decide) ?_
    refine e_icmp_ge (pc := 30) dX7_wordFrom_30 (t := 88) (by decide) (fun _ => ?_) (fun c_30 => absurd (by decide) c_30)
    exact hK _
  | succ g ih =>
    intro i L hi hV
    have hi8 : i < 8 := by omega
    cases L with
    | false =>
      have hV : false = V := hV
      subst hV
      refine e_iload (pc := 26) dX7_wordFrom_26 rfl ?_
      refine e_bipush (v := 8) (pc := 28) dX7_wordFrom_28 (by decide) ?_
      refine e_icmp_ge (pc := 30) dX7_wordFrom_30 (t := 88) (by decide) (fun c_30 => absurd c_30 (nI_ge hi8 (by decide))) (fun _ => ?_)
      refine e_iload (pc := 33) dX7_wordFrom_33 rfl ?_
      refine e_if_eq (pc := 35) dX7_wordFrom_35 (t := 88) (by decide) (fun _ => ?_) (fun c_35 => absurd rfl c_35)
      exact hK _
    | true =>
      have hV : ywi (yt3 b) fr to k g (i + 1) (decide (ww_words.getD (8 * k + i) 0 = (if fr + i < to then yt3 b (fr + i) else 32))) = V := hV
      have e8 : 8 * nI k + nI i = nI (8 * k + i) := by rw [show (8 : Int32) * nI k = nI (8 * k) from pk_mul 8 k, nI_add]
      have i8 : vp_in (8 * nI k + nI i) ww_words.length := by rw [e8]; exact vp_in_nI (show 8 * k + i < 96 by omega) (by decide)
      have eW : ww_words.getD (8 * nI k + nI i).toNatClampNeg 0 = ww_words.getD (8 * k + i) 0 := by rw [e8, nIc (by omega)]
      have ef : nI fr + nI i = nI (fr + i) := nI_add fr i
      have cf : nI to ≤ nI (fr + i) ↔ ¬ fr + i < to := ⟨fun q w => nI_ge w (by omega) q, fun q => nI_le (by omega) (by omega)⟩
      have it : fr + i < to → vp_in (nI (fr + i)) (b 3).length := fun w => by rw [hL.2.2.2.1]; exact vp_in_nI (by omega) (by decide)
      have et : (b 3).getD (nI (fr + i)).toNatClampNeg 0 = yt3 b (fr + i) := by rw [nIc (by omega)]; rfl
      refine e_iload (pc := 26) dX7_wordFrom_26 rfl ?_
      refine e_bipush (v := 8) (pc := 28) dX7_wordFrom_28 (by decide) ?_
      refine e_icmp_ge (pc := 30) dX7_wordFrom_30 (t := 88) (by decide) (fun c_30 => absurd c_30 (nI_ge hi8 (by decide))) (fun _ => ?_)
      refine e_iload (pc := 33) dX7_wordFrom_33 rfl ?_
      refine e_if_eq (pc := 35) dX7_wordFrom_35 (t := 88) (by decide) (fun c_35 => absurd c_35 (by decide)) (fun _ => ?_)
      refine e_aloadn (pc := 38) dX7_wordFrom_38 rfl ?_
      refine e_get (pc := 39) dX7_wordFrom_39 fX7_50 rfl rfl ?_
      refine e_bipush (v := 8) (pc := 42) dX7_wordFrom_42 (by decide) ?_
      refine e_iloadn (pc := 44) dX7_wordFrom_44 rfl ?_
      refine e_imul (pc := 45) dX7_wordFrom_45 ?_
      refine e_iload (pc := 46) dX7_wordFrom_46 rfl ?_
      refine e_iadd (pc := 48) dX7_wordFrom_48 ?_
      refine ald_words (pc := 49) dX7_wordFrom_49 i8 ?_
      refine e_top (eW) ?_
      refine e_iloadn (pc := 50) dX7_wordFrom_50 rfl ?_
      refine e_iload (pc := 51) dX7_wordFrom_51 rfl ?_
      refine e_iadd (pc := 53) dX7_wordFrom_53 ?_
      refine e_top (ef) ?_
      refine e_iloadn (pc := 54) dX7_wordFrom_54 rfl ?_
      refine e_icmp_ge (pc := 55) dX7_wordFrom_55 (t := 70) (by decide) (fun c_55 => ?_) (fun c_55 => ?_)
      · skip
        refine e_bipush (v := 32) (pc := 70) dX7_wordFrom_70 (by decide) ?_
        refine e_icmp_ne (pc := 72) dX7_wordFrom_72 (t := 79) (by decide) (fun c_72 => ?_) (fun c_72 => ?_)
        · skip
          refine e_iconst (v := 0) (pc := 79) dX7_wordFrom_79 (by decide) ?_
          refine e_isw4 (pc := 80) dX7_wordFrom_80 (Nat.le_of_ble_eq_true rfl) rfl ?_
          refine e_incC5 (pc := 82) dX7_wordFrom_82 (nI_1 i) (Nat.le_of_ble_eq_true rfl) rfl ?_
          refine e_goto (pc := 85) dX7_wordFrom_85 (t := 26) (by decide) ?_
          exact ih (i + 1) false (by omega) (by rw [← hV, if_neg (cf.mp c_55), decide_eq_false c_72])
        · skip
          refine e_iconst (v := 1) (pc := 75) dX7_wordFrom_75 (by decide) ?_
          refine e_goto (pc := 76) dX7_wordFrom_76 (t := 80) (by decide) ?_
          refine e_isw4 (pc := 80) dX7_wordFrom_80 (Nat.le_of_ble_eq_true rfl) rfl ?_
          refine e_incC5 (pc := 82) dX7_wordFrom_82 (nI_1 i) (Nat.le_of_ble_eq_true rfl) rfl ?_
          refine e_goto (pc := 85) dX7_wordFrom_85 (t := 26) (by decide) ?_
          exact ih (i + 1) true (by omega) (by rw [← hV, if_neg (cf.mp c_55), decide_eq_true c_72])
      · skip
        refine e_aloadn (pc := 58) dX7_wordFrom_58 rfl ?_
        refine e_get (pc := 59) dX7_wordFrom_59 fX7_26 rfl rfl ?_
        refine e_iloadn (pc := 62) dX7_wordFrom_62 rfl ?_
        refine e_iload (pc := 63) dX7_wordFrom_63 rfl ?_
        refine e_iadd (pc := 65) dX7_wordFrom_65 ?_
        refine e_top (ef) ?_
        refine aldv_ytape (pc := 66) dX7_wordFrom_66 (it (Classical.not_not.mp (fun q => c_55 (cf.mpr q)))) et ?_
        refine e_goto (pc := 67) dX7_wordFrom_67 (t := 72) (by decide) ?_
        refine e_icmp_ne (pc := 72) dX7_wordFrom_72 (t := 79) (by decide) (fun c_72 => ?_) (fun c_72 => ?_)
        · skip
          refine e_iconst (v := 0) (pc := 79) dX7_wordFrom_79 (by decide) ?_
          refine e_isw4 (pc := 80) dX7_wordFrom_80 (Nat.le_of_ble_eq_true rfl) rfl ?_
          refine e_incC5 (pc := 82) dX7_wordFrom_82 (nI_1 i) (Nat.le_of_ble_eq_true rfl) rfl ?_
          refine e_goto (pc := 85) dX7_wordFrom_85 (t := 26) (by decide) ?_
          exact ih (i + 1) false (by omega) (by rw [← hV, if_pos (Classical.not_not.mp (fun q => c_55 (cf.mpr q))), decide_eq_false c_72])
        · skip
          refine e_iconst (v := 1) (pc := 75) dX7_wordFrom_75 (by decide) ?_
          refine e_goto (pc := 76) dX7_wordFrom_76 (t := 80) (by decide) ?_
          refine e_isw4 (pc := 80) dX7_wordFrom_80 (Nat.le_of_ble_eq_true rfl) rfl ?_
          refine e_incC5 (pc := 82) dX7_wordFrom_82 (nI_1 i) (Nat.le_of_ble_eq_true rfl) rfl ?_
          refine e_goto (pc := 85) dX7_wordFrom_85 (t := 26) (by decide) ?_
          exact ih (i + 1) true (by omega) (by rw [← hV, if_pos (Classical.not_not.mp (fun q => c_55 (cf.mpr q))), decide_eq_true c_72])
theorem lp_y_wo {s u m n : Nat → Int32} {a c b d : Nat → List Int32} {q : List (Option Nat)} {h : Nat} {z : mc_W} {fr to V : Nat} (hL : yL b) (hto : to ≤ 160) (hft : fr ≤ to) :
    ∀ (g k : Nat) (x4 x5 : Option Value), k + g = 12 → ywo (yt3 b) fr to g k = V →
      mc_E RX7 cX7_wordFrom 6 (mc_JM (some .int) false 1 0 0 (fun r' w' => r' = some (.int (nI V)) ∧ w' = WW s a q u c h m b n d z)) 2 [some (.ref 29), some (.int (nI fr)), some (.int (nI to)), some (.int (nI k)), x4, x5] [] (WW s a q u c h m b n d z) 0 0 := by
  intro g
  induction g with
  | zero =>
    intro k x4 x5 hk hV
    have e : k = 12 := by omega
    subst e
    have hV : 12 = V := hV
    subst hV
    refine e_iloadn (pc := 2) dX7_wordFrom_2 rfl ?_
    refine e_bipush (v := 12) (pc := 3) dX7_wordFrom_3 (by decide) ?_
    refine e_icmp_ge (pc := 5) dX7_wordFrom_5 (t := 101) (by decide) (fun _ => ?_) (fun c_5 => absurd (by decide) c_5)
    refine e_bipush (v := 12) (pc := 101) dX7_wordFrom_101 (by decide) ?_
    exact e_iret (pc := 103) dX7_wordFrom_103 rfl (Nat.le_refl _) (Nat.le_refl _) ⟨rfl, rfl⟩
  | succ g ih =>
    intro k x4 x5 hk hV
    have hk12 : k < 12 := by omega
    have es : nI to - nI fr = nI (to - fr) := pk_sub hft
    simp only [ywo] at hV
    have MID : ∀ x5, mc_E RX7 cX7_wordFrom 6 (mc_JM (some .int) false 1 0 0 (fun r' w' => r' = some (.int (nI V)) ∧ w' = WW s a q u c h m b n d z)) 88 [some (.ref 29), some (.int (nI fr)), some (.int (nI to)), some (.int (nI k)), some (.int (mc_b (ywi (yt3 b) fr to k 8 0 (decide (to - fr ≤ 8))))), x5] [] (WW s a q u c h m b n d z) 0 0 := by
      intro x5
      refine e_iload (pc := 88) dX7_wordFrom_88 rfl ?_
      refine e_if_eq (pc := 90) dX7_wordFrom_90 (t := 95) (by decide) (fun c_90 => ?_) (fun c_90 => ?_)
      · skip
        refine e_incC3 (pc := 95) dX7_wordFrom_95 (nI_1 k) (Nat.le_of_ble_eq_true rfl) rfl ?_
        refine e_goto (pc := 98) dX7_wordFrom_98 (t := 2) (by decide) ?_
        exact ih (k + 1) _ _ (by omega) (by rw [← hV, if_neg (nbt (mc_b0.mp c_90))])
      · skip
        refine e_iloadn (pc := 93) dX7_wordFrom_93 rfl ?_
        exact e_iret (pc := 94) dX7_wordFrom_94 rfl (Nat.le_refl _) (Nat.le_refl _) ⟨by rw [← hV, if_pos (mc_b1.mp c_90)], rfl⟩
    have c8 : (8 : Int32) < nI (to - fr) ↔ ¬ to - fr ≤ 8 := by
      rw [Int32.lt_iff_toInt_lt, nI_toInt (by omega), show (8 : Int32).toInt = 8 from rfl]; omega
    refine e_iloadn (pc := 2) dX7_wordFrom_2 rfl ?_
    refine e_bipush (v := 12) (pc := 3) dX7_wordFrom_3 (by decide) ?_
    refine e_icmp_ge (pc := 5) dX7_wordFrom_5 (t := 101) (by decide) (fun c_5 => absurd c_5 (nI_ge hk12 (by decide))) (fun _ => ?_)
    refine e_iloadn (pc := 8) dX7_wordFrom_8 rfl ?_
    refine e_iloadn (pc := 9) dX7_wordFrom_9 rfl ?_
    refine e_isub (pc := 10) dX7_wordFrom_10 ?_
    refine e_top (es) ?_
    refine e_bipush (v := 8) (pc := 11) dX7_wordFrom_11 (by decide) ?_
    refine e_icmp_gt (pc := 13) dX7_wordFrom_13 (t := 20) (by decide) (fun c_13 => ?_) (fun c_13 => ?_)
    · skip
      refine e_iconst (v := 0) (pc := 20) dX7_wordFrom_20 (by decide) ?_
      refine e_isw4 (pc := 21) dX7_wordFrom_21 (Nat.le_of_ble_eq_true rfl) rfl ?_
      refine e_iconst (v := 0) (pc := 23) dX7_wordFrom_23 (by decide) ?_
      refine e_isw5 (pc := 24) dX7_wordFrom_24 (Nat.le_of_ble_eq_true rfl) rfl ?_
      exact lp_y_wi hL hto hft hk12 MID 8 0 false (by omega) (by rw [decide_eq_false (c8.mp c_13)])
    · skip
      refine e_iconst (v := 1) (pc := 16) dX7_wordFrom_16 (by decide) ?_
      refine e_goto (pc := 17) dX7_wordFrom_17 (t := 21) (by decide) ?_
      refine e_isw4 (pc := 21) dX7_wordFrom_21 (Nat.le_of_ble_eq_true rfl) rfl ?_
      refine e_iconst (v := 0) (pc := 23) dX7_wordFrom_23 (by decide) ?_
      refine e_isw5 (pc := 24) dX7_wordFrom_24 (Nat.le_of_ble_eq_true rfl) rfl ?_
      exact lp_y_wi hL hto hft hk12 MID 8 0 true (by omega) (by rw [decide_eq_true (Classical.not_not.mp (fun q => c_13 (c8.mpr q)))])
theorem sp_y_wordFrom {s u m n : Nat → Int32} {a c b d : Nat → List Int32} {q : List (Option Nat)} {h : Nat} {z : mc_W} {fr to : Nat} (hL : yL b) (hto : to ≤ 160) (hft : fr ≤ to) : mc_D yX7_wordFrom cX7_wordFrom 6 (some .int) 1 [.ref 29, .int (nI fr), .int (nI to)] (WW s a q u c h m b n d z) (some (.int (nI (ywo (yt3 b) fr to 12 0)))) (WW s a q u c h m b n d z) := by
  refine mc_start (own := RX7) (ini := false) rfl (by decide +kernel) (fun h => by cases h) (Nat.le_of_ble_eq_true rfl) ?_
  show mc_E _ _ _ _ _ [some (.ref 29), some (.int (nI fr)), some (.int (nI to)), none, none, none] [] _ _ _
  refine e_iconst (v := 0) (pc := 0) dX7_wordFrom_0 (by decide) ?_
  refine e_isn3 (pc := 1) dX7_wordFrom_1 (Nat.le_of_ble_eq_true rfl) rfl ?_
  exact lp_y_wo hL hto hft 12 0 none none (by omega) rfl
