/-! rings -/
theorem yL_2 {b : Nat → List Int32} (h : yL b) {l : List Int32} (hl : l.length = 36) : yL (mc_up b 2 l) :=
  ⟨h.1, h.2.1, hl, h.2.2.2.1, h.2.2.2.2.1, h.2.2.2.2.2.1, h.2.2.2.2.2.2.1, h.2.2.2.2.2.2.2.1, h.2.2.2.2.2.2.2.2.1, h.2.2.2.2.2.2.2.2.2⟩
theorem ow_at {f g : Nat} (hf : f < 6) (hg : g < 6) : 6 * nI f + nI g = nI (6 * f + g) := by
  rw [show (6 : Int32) * nI f = nI (6 * f) from pk_mul 6 f, nI_add]
theorem ow_in {f g : Nat} {l : List Int32} (hl : l.length = 36) (hf : f < 6) (hg : g < 6) : vp_in (6 * nI f + nI g) l.length := by
  rw [ow_at hf hg, hl]; exact vp_in_nI (by omega) (by decide)
theorem ow_get {f g : Nat} {l : List Int32} (hf : f < 6) (hg : g < 6) : l.getD (6 * nI f + nI g).toNatClampNeg 0 = l.getD (6 * f + g) 0 := by
  rw [ow_at hf hg, nIc (by omega)]
def yrS (o : List Int32) (f : Int32) (a : Nat) (s : Int32) (i : Nat) : Int32 := s ||| (if (nI a = f ∨ (s >>> (nI a &&& 31)) &&& 1 = 1) ∧ 0 < o.getD (6 * a + i) 0 then (1 : Int32) <<< (nI i &&& 31) else 0)
def yr1 (o : List Int32) (f : Int32) (a : Nat) : Nat → Nat → Int32 → Int32
  | 0, _, s => s
  | g + 1, i, s => yr1 o f a g (i + 1) (yrS o f a s i)
def yr2 (o : List Int32) (f : Int32) : Nat → Nat → Int32 → Int32
  | 0, _, s => s
  | g + 1, i, s => yr2 o f g (i + 1) (yr1 o f i 6 0 s)
def yr3 (o : List Int32) (f : Int32) : Nat → Int32 → Int32
  | 0, s => s
  | g + 1, s => yr3 o f g (yr2 o f 6 0 s)
/-- who is reached from f, by debts -/
def yreach (o : List Int32) (f : Int32) : Int32 := yr3 o f 6 0
theorem lp_y_r1 {s u m n : Nat → Int32} {a c b d : Nat → List Int32} {q : List (Option Nat)} {h : Nat} {z : mc_W} {Post : Option Value → mc_W → Prop} {f0 kx V : Int32} {ai : Nat} (hL : yL b) (ha : ai < 6)
    (hK : ∀ x6, mc_E RX7 cX7_reachedFrom 7 (mc_JM (some .int) false 1 0 0 Post) 91 [some (.ref 29), some (.int f0), some (.int V), some (.int kx), some (.int (nI ai)), some (.int (nI 6)), x6] [] (WW s a q u c h m b n d z) 0 0) :
    ∀ (g i : Nat) (S : Int32) (x6 : Option Value), i + g = 6 → yr1 (b 2) f0 ai g i S = V →
      mc_E RX7 cX7_reachedFrom 7 (mc_JM (some .int) false 1 0 0 Post) 23 [some (.ref 29), some (.int f0), some (.int S), some (.int kx), some (.int (nI ai)), some (.int (nI i)), x6] [] (WW s a q u c h m b n d z) 0 0 := by
  intro g
  induction g with
  | zero =>
    intro i S x6 hi hV
    have e : i = 6 := by omega
    subst e
    simp only [yr1] at hV
    subst hV
    refine e_iload (pc := 23) dX7_reachedFrom_23 rfl ?_
    refine e_bipush (v := 6) (pc := 25) dX7_reachedFrom_25 (by decide) ?_
    refine e_icmp_ge (pc := 27) dX7_reachedFrom_27 (t := 91) (by decide) (fun _ => ?_) (fun c_27 => absurd (by decide) c_27)
    exact hK _
  | succ g ih =>
    intro i S x6 hi hV
    simp only [yr1, yrS] at hV
    have hi6 : i < 6 := by omega
    refine e_iload (pc := 23) dX7_reachedFrom_23 rfl ?_
    refine e_bipush (v := 6) (pc := 25) dX7_reachedFrom_25 (by decide) ?_
    refine e_icmp_ge (pc := 27) dX7_reachedFrom_27 (t := 91) (by decide) (fun c_27 => absurd c_27 (nI_ge (by omega : i < 6) (by decide))) (fun _ => ?_)
    refine e_iload (pc := 30) dX7_reachedFrom_30 rfl ?_
    refine e_iloadn (pc := 32) dX7_reachedFrom_32 rfl ?_
    refine e_icmp_eq (pc := 33) dX7_reachedFrom_33 (t := 46) (by decide) (fun c_33 => ?_) (fun c_33 => ?_)
    · skip
      refine e_aloadn (pc := 46) dX7_reachedFrom_46 rfl ?_
      refine e_get (pc := 47) dX7_reachedFrom_47 fX7_23 rfl rfl ?_
      refine e_bipush (v := 6) (pc := 50) dX7_reachedFrom_50 (by decide) ?_
      refine e_iload (pc := 52) dX7_reachedFrom_52 rfl ?_
      refine e_imul (pc := 54) dX7_reachedFrom_54 ?_
      refine e_iload (pc := 55) dX7_reachedFrom_55 rfl ?_
      refine e_iadd (pc := 57) dX7_reachedFrom_57 ?_
      refine aldv_owes (pc := 58) dX7_reachedFrom_58 (ow_in hL.2.2.1 ha hi6) (ow_get ha hi6) ?_
      refine e_if_le (pc := 59) dX7_reachedFrom_59 (t := 66) (by decide) (fun c_59 => ?_) (fun c_59 => ?_)
      · skip
        refine e_iconst (v := 0) (pc := 66) dX7_reachedFrom_66 (by decide) ?_
        refine e_isw6 (pc := 67) dX7_reachedFrom_67 (Nat.le_of_ble_eq_true rfl) rfl ?_
        refine e_iloadn (pc := 69) dX7_reachedFrom_69 rfl ?_
        refine e_iload (pc := 70) dX7_reachedFrom_70 rfl ?_
        refine e_if_eq (pc := 72) dX7_reachedFrom_72 (t := 82) (by decide) (fun _ => ?_) (fun c_72 => absurd (by decide) c_72)
        refine e_iconst (v := 0) (pc := 82) dX7_reachedFrom_82 (by decide) ?_
        refine e_ior (pc := 83) dX7_reachedFrom_83 ?_
        refine e_isn2 (pc := 84) dX7_reachedFrom_84 (Nat.le_of_ble_eq_true rfl) rfl ?_
        refine e_incC5 (pc := 85) dX7_reachedFrom_85 (nI_1 i) (Nat.le_of_ble_eq_true rfl) rfl ?_
        refine e_goto (pc := 88) dX7_reachedFrom_88 (t := 23) (by decide) ?_
        exact ih (i + 1) _ _ (by omega) (by rw [← hV, if_neg (fun q => absurd q.2 (Int32.not_lt.mpr c_59))])
      · skip
        refine e_iconst (v := 1) (pc := 62) dX7_reachedFrom_62 (by decide) ?_
        refine e_goto (pc := 63) dX7_reachedFrom_63 (t := 67) (by decide) ?_
        refine e_isw6 (pc := 67) dX7_reachedFrom_67 (Nat.le_of_ble_eq_true rfl) rfl ?_
        refine e_iloadn (pc := 69) dX7_reachedFrom_69 rfl ?_
        refine e_iload (pc := 70) dX7_reachedFrom_70 rfl ?_
        refine e_if_eq (pc := 72) dX7_reachedFrom_72 (t := 82) (by decide) (fun c_72 => absurd c_72 (by decide)) (fun _ => ?_)
        refine e_iconst (v := 1) (pc := 75) dX7_reachedFrom_75 (by decide) ?_
        refine e_iload (pc := 76) dX7_reachedFrom_76 rfl ?_
        refine e_ishl (pc := 78) dX7_reachedFrom_78 ?_
        refine e_goto (pc := 79) dX7_reachedFrom_79 (t := 83) (by decide) ?_
        refine e_ior (pc := 83) dX7_reachedFrom_83 ?_
        refine e_isn2 (pc := 84) dX7_reachedFrom_84 (Nat.le_of_ble_eq_true rfl) rfl ?_
        refine e_incC5 (pc := 85) dX7_reachedFrom_85 (nI_1 i) (Nat.le_of_ble_eq_true rfl) rfl ?_
        refine e_goto (pc := 88) dX7_reachedFrom_88 (t := 23) (by decide) ?_
        exact ih (i + 1) _ _ (by omega) (by rw [← hV, if_pos ⟨(Or.inl c_33), Int32.not_le.mp c_59⟩])
    · skip
      refine e_iloadn (pc := 36) dX7_reachedFrom_36 rfl ?_
      refine e_iload (pc := 37) dX7_reachedFrom_37 rfl ?_
      refine e_ishr (pc := 39) dX7_reachedFrom_39 ?_
      refine e_iconst (v := 1) (pc := 40) dX7_reachedFrom_40 (by decide) ?_
      refine e_iand (pc := 41) dX7_reachedFrom_41 ?_
      refine e_iconst (v := 1) (pc := 42) dX7_reachedFrom_42 (by decide) ?_
      refine e_icmp_ne (pc := 43) dX7_reachedFrom_43 (t := 66) (by decide) (fun c_43 => ?_) (fun c_43 => ?_)
      · skip
        refine e_iconst (v := 0) (pc := 66) dX7_reachedFrom_66 (by decide) ?_
        refine e_isw6 (pc := 67) dX7_reachedFrom_67 (Nat.le_of_ble_eq_true rfl) rfl ?_
        refine e_iloadn (pc := 69) dX7_reachedFrom_69 rfl ?_
        refine e_iload (pc := 70) dX7_reachedFrom_70 rfl ?_
        refine e_if_eq (pc := 72) dX7_reachedFrom_72 (t := 82) (by decide) (fun _ => ?_) (fun c_72 => absurd (by decide) c_72)
        refine e_iconst (v := 0) (pc := 82) dX7_reachedFrom_82 (by decide) ?_
        refine e_ior (pc := 83) dX7_reachedFrom_83 ?_
        refine e_isn2 (pc := 84) dX7_reachedFrom_84 (Nat.le_of_ble_eq_true rfl) rfl ?_
        refine e_incC5 (pc := 85) dX7_reachedFrom_85 (nI_1 i) (Nat.le_of_ble_eq_true rfl) rfl ?_
        refine e_goto (pc := 88) dX7_reachedFrom_88 (t := 23) (by decide) ?_
        exact ih (i + 1) _ _ (by omega) (by rw [← hV, if_neg (fun q => q.1.elim c_33 c_43)])
      · skip
        refine e_aloadn (pc := 46) dX7_reachedFrom_46 rfl ?_
        refine e_get (pc := 47) dX7_reachedFrom_47 fX7_23 rfl rfl ?_
        refine e_bipush (v := 6) (pc := 50) dX7_reachedFrom_50 (by decide) ?_
        refine e_iload (pc := 52) dX7_reachedFrom_52 rfl ?_
        refine e_imul (pc := 54) dX7_reachedFrom_54 ?_
        refine e_iload (pc := 55) dX7_reachedFrom_55 rfl ?_
        refine e_iadd (pc := 57) dX7_reachedFrom_57 ?_
        refine aldv_owes (pc := 58) dX7_reachedFrom_58 (ow_in hL.2.2.1 ha hi6) (ow_get ha hi6) ?_
        refine e_if_le (pc := 59) dX7_reachedFrom_59 (t := 66) (by decide) (fun c_59 => ?_) (fun c_59 => ?_)
        · skip
          refine e_iconst (v := 0) (pc := 66) dX7_reachedFrom_66 (by decide) ?_
          refine e_isw6 (pc := 67) dX7_reachedFrom_67 (Nat.le_of_ble_eq_true rfl) rfl ?_
          refine e_iloadn (pc := 69) dX7_reachedFrom_69 rfl ?_
          refine e_iload (pc := 70) dX7_reachedFrom_70 rfl ?_
          refine e_if_eq (pc := 72) dX7_reachedFrom_72 (t := 82) (by decide) (fun _ => ?_) (fun c_72 => absurd (by decide) c_72)
          refine e_iconst (v := 0) (pc := 82) dX7_reachedFrom_82 (by decide) ?_
          refine e_ior (pc := 83) dX7_reachedFrom_83 ?_
          refine e_isn2 (pc := 84) dX7_reachedFrom_84 (Nat.le_of_ble_eq_true rfl) rfl ?_
          refine e_incC5 (pc := 85) dX7_reachedFrom_85 (nI_1 i) (Nat.le_of_ble_eq_true rfl) rfl ?_
          refine e_goto (pc := 88) dX7_reachedFrom_88 (t := 23) (by decide) ?_
          exact ih (i + 1) _ _ (by omega) (by rw [← hV, if_neg (fun q => absurd q.2 (Int32.not_lt.mpr c_59))])
        · skip
          refine e_iconst (v := 1) (pc := 62) dX7_reachedFrom_62 (by decide) ?_
          refine e_goto (pc := 63) dX7_reachedFrom_63 (t := 67) (by decide) ?_
          refine e_isw6 (pc := 67) dX7_reachedFrom_67 (Nat.le_of_ble_eq_true rfl) rfl ?_
          refine e_iloadn (pc := 69) dX7_reachedFrom_69 rfl ?_
          refine e_iload (pc := 70) dX7_reachedFrom_70 rfl ?_
          refine e_if_eq (pc := 72) dX7_reachedFrom_72 (t := 82) (by decide) (fun c_72 => absurd c_72 (by decide)) (fun _ => ?_)
          refine e_iconst (v := 1) (pc := 75) dX7_reachedFrom_75 (by decide) ?_
          refine e_iload (pc := 76) dX7_reachedFrom_76 rfl ?_
          refine e_ishl (pc := 78) dX7_reachedFrom_78 ?_
          refine e_goto (pc := 79) dX7_reachedFrom_79 (t := 83) (by decide) ?_
          refine e_ior (pc := 83) dX7_reachedFrom_83 ?_
          refine e_isn2 (pc := 84) dX7_reachedFrom_84 (Nat.le_of_ble_eq_true rfl) rfl ?_
          refine e_incC5 (pc := 85) dX7_reachedFrom_85 (nI_1 i) (Nat.le_of_ble_eq_true rfl) rfl ?_
          refine e_goto (pc := 88) dX7_reachedFrom_88 (t := 23) (by decide) ?_
          exact ih (i + 1) _ _ (by omega) (by rw [← hV, if_pos ⟨(Or.inr c_43), Int32.not_le.mp c_59⟩])
theorem lp_y_r2 {s u m n : Nat → Int32} {a c b d : Nat → List Int32} {q : List (Option Nat)} {h : Nat} {z : mc_W} {Post : Option Value → mc_W → Prop} {f0 kx V : Int32} (hL : yL b)
    (hK : ∀ x5 x6, mc_E RX7 cX7_reachedFrom 7 (mc_JM (some .int) false 1 0 0 Post) 97 [some (.ref 29), some (.int f0), some (.int V), some (.int kx), some (.int (nI 6)), x5, x6] [] (WW s a q u c h m b n d z) 0 0) :
    ∀ (g i : Nat) (S : Int32) (x5 x6 : Option Value), i + g = 6 → yr2 (b 2) f0 g i S = V →
      mc_E RX7 cX7_reachedFrom 7 (mc_JM (some .int) false 1 0 0 Post) 13 [some (.ref 29), some (.int f0), some (.int S), some (.int kx), some (.int (nI i)), x5, x6] [] (WW s a q u c h m b n d z) 0 0 := by
  intro g
  induction g with
  | zero =>
    intro i S x5 x6 hi hV
    have e : i = 6 := by omega
    subst e
    simp only [yr2] at hV
    subst hV
    refine e_iload (pc := 13) dX7_reachedFrom_13 rfl ?_
    refine e_bipush (v := 6) (pc := 15) dX7_reachedFrom_15 (by decide) ?_
    refine e_icmp_ge (pc := 17) dX7_reachedFrom_17 (t := 97) (by decide) (fun _ => ?_) (fun c_17 => absurd (by decide) c_17)
    exact hK _ _
  | succ g ih =>
    intro i S x5 x6 hi hV
    simp only [yr2] at hV
    have hi6 : i < 6 := by omega
    have MID : ∀ x6, mc_E RX7 cX7_reachedFrom 7 (mc_JM (some .int) false 1 0 0 Post) 91 [some (.ref 29), some (.int f0), some (.int (yr1 (b 2) f0 i 6 0 S)), some (.int kx), some (.int (nI i)), some (.int (nI 6)), x6] [] (WW s a q u c h m b n d z) 0 0 := by
      intro x6
      refine e_incC4 (pc := 91) dX7_reachedFrom_91 (nI_1 i) (Nat.le_of_ble_eq_true rfl) rfl ?_
      refine e_goto (pc := 94) dX7_reachedFrom_94 (t := 13) (by decide) ?_
      exact ih (i + 1) _ _ _ (by omega) hV
    refine e_iload (pc := 13) dX7_reachedFrom_13 rfl ?_
    refine e_bipush (v := 6) (pc := 15) dX7_reachedFrom_15 (by decide) ?_
    refine e_icmp_ge (pc := 17) dX7_reachedFrom_17 (t := 97) (by decide) (fun c_17 => absurd c_17 (nI_ge (by omega : i < 6) (by decide))) (fun _ => ?_)
    refine e_iconst (v := 0) (pc := 20) dX7_reachedFrom_20 (by decide) ?_
    refine e_isw5 (pc := 21) dX7_reachedFrom_21 (Nat.le_of_ble_eq_true rfl) rfl ?_
    exact lp_y_r1 hL hi6 MID 6 0 S _ (by omega) rfl
theorem lp_y_r3 {s u m n : Nat → Int32} {a c b d : Nat → List Int32} {q : List (Option Nat)} {h : Nat} {z : mc_W} {f0 V : Int32} (hL : yL b) :
    ∀ (g i : Nat) (S : Int32) (x4 x5 x6 : Option Value), i + g = 6 → yr3 (b 2) f0 g S = V →
      mc_E RX7 cX7_reachedFrom 7 (mc_JM (some .int) false 1 0 0 (fun r' w' => r' = some (.int V) ∧ w' = WW s a q u c h m b n d z)) 4 [some (.ref 29), some (.int f0), some (.int S), some (.int (nI i)), x4, x5, x6] [] (WW s a q u c h m b n d z) 0 0 := by
  intro g
  induction g with
  | zero =>
    intro i S x4 x5 x6 hi hV
    have e : i = 6 := by omega
    subst e
    simp only [yr3] at hV
    subst hV
    refine e_iloadn (pc := 4) dX7_reachedFrom_4 rfl ?_
    refine e_bipush (v := 6) (pc := 5) dX7_reachedFrom_5 (by decide) ?_
    refine e_icmp_ge (pc := 7) dX7_reachedFrom_7 (t := 103) (by decide) (fun _ => ?_) (fun c_7 => absurd (by decide) c_7)
    refine e_iloadn (pc := 103) dX7_reachedFrom_103 rfl ?_
    exact e_iret (pc := 104) dX7_reachedFrom_104 rfl (Nat.le_refl _) (Nat.le_refl _) ⟨rfl, rfl⟩
  | succ g ih =>
    intro i S x4 x5 x6 hi hV
    simp only [yr3] at hV
    have MID : ∀ x5 x6, mc_E RX7 cX7_reachedFrom 7 (mc_JM (some .int) false 1 0 0 (fun r' w' => r' = some (.int V) ∧ w' = WW s a q u c h m b n d z)) 97 [some (.ref 29), some (.int f0), some (.int (yr2 (b 2) f0 6 0 S)), some (.int (nI i)), some (.int (nI 6)), x5, x6] [] (WW s a q u c h m b n d z) 0 0 := by
      intro x5 x6
      refine e_incC3 (pc := 97) dX7_reachedFrom_97 (nI_1 i) (Nat.le_of_ble_eq_true rfl) rfl ?_
      refine e_goto (pc := 100) dX7_reachedFrom_100 (t := 4) (by decide) ?_
      exact ih (i + 1) _ _ _ _ (by omega) hV
    refine e_iloadn (pc := 4) dX7_reachedFrom_4 rfl ?_
    refine e_bipush (v := 6) (pc := 5) dX7_reachedFrom_5 (by decide) ?_
    refine e_icmp_ge (pc := 7) dX7_reachedFrom_7 (t := 103) (by decide) (fun c_7 => absurd c_7 (nI_ge (by omega : i < 6) (by decide))) (fun _ => ?_)
    refine e_iconst (v := 0) (pc := 10) dX7_reachedFrom_10 (by decide) ?_
    refine e_isw4 (pc := 11) dX7_reachedFrom_11 (Nat.le_of_ble_eq_true rfl) rfl ?_
    exact lp_y_r2 hL MID 6 0 S _ _ (by omega) rfl
theorem sp_y_reachedFrom {s u m n : Nat → Int32} {a c b d : Nat → List Int32} {q : List (Option Nat)} {h : Nat} {z : mc_W} {f0 : Int32} (hL : yL b) : mc_D yX7_reachedFrom cX7_reachedFrom 7 (some .int) 1 [.ref 29, .int f0] (WW s a q u c h m b n d z) (some (.int (yreach (b 2) f0))) (WW s a q u c h m b n d z) := by
  refine mc_start (own := RX7) (ini := false) rfl (by decide +kernel) (fun h => by cases h) (Nat.le_of_ble_eq_true rfl) ?_
  show mc_E _ _ _ _ _ [some (.ref 29), some (.int f0), none, none, none, none, none] [] _ _ _
  refine e_iconst (v := 0) (pc := 0) dX7_reachedFrom_0 (by decide) ?_
  refine e_isn2 (pc := 1) dX7_reachedFrom_1 (Nat.le_of_ble_eq_true rfl) rfl ?_
  refine e_iconst (v := 0) (pc := 2) dX7_reachedFrom_2 (by decide) ?_
  refine e_isn3 (pc := 3) dX7_reachedFrom_3 (Nat.le_of_ble_eq_true rfl) rfl ?_
  exact lp_y_r3 hL 6 0 0 none none none (by omega) rfl
def yrn (o : List Int32) : Nat → Nat → Int32 → Int32
  | 0, _, s => s
  | g + 1, i, s => yrn o g (i + 1) (s ||| (yreach o (nI i) &&& ((1 : Int32) <<< (nI i &&& 31))))
def yrings (o : List Int32) : Int32 := yrn o 6 0 0
theorem lp_y_rings {s u m n : Nat → Int32} {a c b d : Nat → List Int32} {q : List (Option Nat)} {h : Nat} {z : mc_W} {V : Int32} (hL : yL b) :
    ∀ (g i : Nat) (S : Int32), i + g = 6 → yrn (b 2) g i S = V →
      mc_E RX7 cX7_ringsNow 3 (mc_JM (some .int) false 2 0 0 (fun r' w' => r' = some (.int V) ∧ w' = WW s a q u c h m b n d z)) 4 [some (.ref 29), some (.int S), some (.int (nI i))] [] (WW s a q u c h m b n d z) 0 0 := by
  intro g
  induction g with
  | zero =>
    intro i S hi hV
    have e : i = 6 := by omega
    subst e
    simp only [yrn] at hV
    subst hV
    refine e_iloadn (pc := 4) dX7_ringsNow_4 rfl ?_
    refine e_bipush (v := 6) (pc := 5) dX7_ringsNow_5 (by decide) ?_
    refine e_icmp_ge (pc := 7) dX7_ringsNow_7 (t := 28) (by decide) (fun _ => ?_) (fun c_7 => absurd (by decide) c_7)
    refine e_iloadn (pc := 28) dX7_ringsNow_28 rfl ?_
    exact e_iret (pc := 29) dX7_ringsNow_29 rfl (Nat.le_refl _) (Nat.le_refl _) ⟨rfl, rfl⟩
  | succ g ih =>
    intro i S hi hV
    simp only [yrn] at hV
    refine e_iloadn (pc := 4) dX7_ringsNow_4 rfl ?_
    refine e_bipush (v := 6) (pc := 5) dX7_ringsNow_5 (by decide) ?_
    refine e_icmp_ge (pc := 7) dX7_ringsNow_7 (t := 28) (by decide) (fun c_7 => absurd c_7 (nI_ge (by omega : i < 6) (by decide))) (fun _ => ?_)
    refine e_iloadn (pc := 10) dX7_ringsNow_10 rfl ?_
    refine e_aloadn (pc := 11) dX7_ringsNow_11 rfl ?_
    refine e_iloadn (pc := 12) dX7_ringsNow_12 rfl ?_
    refine e_cvD (pc := 13) (sp_y_reachedFrom hL) dX7_ringsNow_13 kX7_244 rfl rfl rfl rfl rfl (mc_CR_of (Nat.le_of_ble_eq_true rfl) (Nat.le_of_ble_eq_true rfl) (Nat.le_refl _) (Nat.le_refl _)) (Nat.le_of_ble_eq_true rfl) ?_
    refine e_iconst (v := 1) (pc := 16) dX7_ringsNow_16 (by decide) ?_
    refine e_iloadn (pc := 17) dX7_ringsNow_17 rfl ?_
    refine e_ishl (pc := 18) dX7_ringsNow_18 ?_
    refine e_iand (pc := 19) dX7_ringsNow_19 ?_
    refine e_ior (pc := 20) dX7_ringsNow_20 ?_
    refine e_isn1 (pc := 21) dX7_ringsNow_21 (Nat.le_of_ble_eq_true rfl) rfl ?_
    refine e_incC2 (pc := 22) dX7_ringsNow_22 (nI_1 i) (Nat.le_of_ble_eq_true rfl) rfl ?_
    refine e_goto (pc := 25) dX7_ringsNow_25 (t := 4) (by decide) ?_
    exact ih (i + 1) _ (by omega) hV
theorem sp_y_ringsNow {s u m n : Nat → Int32} {a c b d : Nat → List Int32} {q : List (Option Nat)} {h : Nat} {z : mc_W} (hL : yL b) : mc_D yX7_ringsNow cX7_ringsNow 3 (some .int) 2 [.ref 29] (WW s a q u c h m b n d z) (some (.int (yrings (b 2)))) (WW s a q u c h m b n d z) := by
  refine mc_start (own := RX7) (ini := false) rfl (by decide +kernel) (fun h => by cases h) (Nat.le_of_ble_eq_true rfl) ?_
  show mc_E _ _ _ _ _ [some (.ref 29), none, none] [] _ _ _
  refine e_iconst (v := 0) (pc := 0) dX7_ringsNow_0 (by decide) ?_
  refine e_isn1 (pc := 1) dX7_ringsNow_1 (Nat.le_of_ble_eq_true rfl) rfl ?_
  refine e_iconst (v := 0) (pc := 2) dX7_ringsNow_2 (by decide) ?_
  refine e_isn2 (pc := 3) dX7_ringsNow_3 (Nat.le_of_ble_eq_true rfl) rfl ?_
  exact lp_y_rings hL 6 0 0 (by omega) rfl
theorem sp_y_rings {s u m n : Nat → Int32} {a c b d : Nat → List Int32} {q : List (Option Nat)} {h : Nat} {z : mc_W} (hL : yL b) : mc_D yX7_rings cX7_rings 1 (some .int) 3 [.ref 29] (WW s a q u c h m b n d z) (some (.int (yrings (b 2)))) (WW s a q u c h m b n d z) := by
  refine mc_start (own := RX7) (ini := false) rfl (by decide +kernel) (fun h => by cases h) (Nat.le_of_ble_eq_true rfl) ?_
  show mc_E _ _ _ _ _ [some (.ref 29)] [] _ _ _
  refine e_aloadn (pc := 0) dX7_rings_0 rfl ?_
  refine e_cvD (pc := 1) (sp_y_ringsNow hL) dX7_rings_1 kX7_247 rfl rfl rfl rfl rfl (mc_CR_of (Nat.le_of_ble_eq_true rfl) (Nat.le_of_ble_eq_true rfl) (Nat.le_refl _) (Nat.le_refl _)) (Nat.le_of_ble_eq_true rfl) ?_
  exact e_iret (pc := 4) dX7_rings_4 rfl (Nat.le_refl _) (Nat.le_refl _) ⟨rfl, rfl⟩
def yfor (o : List Int32) : Nat → Nat → Int32 → Int32 → Int32 × Int32
  | 0, _, be, fe => (be, fe)
  | g + 1, i, be, fe => if yy_ones (yrings (o.set i 0)) < fe then yfor o g (i + 1) (10 * (nI i / 6) + (nI i - nI i / 6 * 6)) (yy_ones (yrings (o.set i 0))) else yfor o g (i + 1) be fe
def yforgive (o : List Int32) (w : Int32) : Int32 := if mc_wi w 0 1 = false then -2 else if w = 0 then (yfor o 36 0 (-1) (yy_ones (yrings o))).1 else (yfor o 36 0 (-1) (yy_ones (yrings o))).2
theorem up_back {b : Nat → List Int32} {k : Nat} {i : Nat} {x v : Int32} (h : i < (b k).length) (hv : (b k).getD i 0 = v) : mc_up (mc_up b k ((b k).set i x)) k (((mc_up b k ((b k).set i x)) k).set i v) = b := by
  rw [mc_up_up]
  have e : ((mc_up b k ((b k).set i x)) k) = (b k).set i x := by unfold mc_up; rw [if_pos rfl]
  rw [e, ← hv, set_back h, mc_up_self]
theorem lp_y_forgive {s u m n : Nat → Int32} {a c b d : Nat → List Int32} {q : List (Option Nat)} {h : Nat} {z : mc_W} {w : Int32} {V : Int32 × Int32} (hL : yL b) :
    ∀ (g i : Nat) (be fe : Int32) (x5 x6 : Option Value), i + g = 36 → yfor (b 2) g i be fe = V →
      mc_E RX7 cX7_forgive 7 (mc_JM (some .int) false 3 0 0 (fun r' w' => r' = some (.int (if w = 0 then V.1 else V.2)) ∧ w' = WW s a q u c h m b n d z)) 25 [some (.ref 29), some (.int w), some (.int be), some (.int fe), some (.int (nI i)), x5, x6] [] (WW s a q u c h m b n d z) 0 0 := by
  intro g
  induction g with
  | zero =>
    intro i be fe x5 x6 hi hV
    have e : i = 36 := by omega
    subst e
    simp only [yfor] at hV
    subst hV
    refine e_iload (pc := 25) dX7_forgive_25 rfl ?_
    refine e_bipush (v := 36) (pc := 27) dX7_forgive_27 (by decide) ?_
    refine e_icmp_ge (pc := 29) dX7_forgive_29 (t := 111) (by decide) (fun _ => ?_) (fun c_29 => absurd (by decide) c_29)
    refine e_iloadn (pc := 111) dX7_forgive_111 rfl ?_
    refine e_if_ne (pc := 112) dX7_forgive_112 (t := 119) (by decide) (fun c_112 => ?_) (fun c_112 => ?_)
    · skip
      refine e_iloadn (pc := 119) dX7_forgive_119 rfl ?_
      exact e_iret (pc := 120) dX7_forgive_120 rfl (Nat.le_refl _) (Nat.le_refl _) ⟨by rw [if_neg c_112], rfl⟩
    · skip
      refine e_iloadn (pc := 115) dX7_forgive_115 rfl ?_
      refine e_goto (pc := 116) dX7_forgive_116 (t := 120) (by decide) ?_
      exact e_iret (pc := 120) dX7_forgive_120 rfl (Nat.le_refl _) (Nat.le_refl _) ⟨by rw [if_pos c_112], rfl⟩
  | succ g ih =>
    intro i be fe x5 x6 hi hV
    simp only [yfor] at hV
    have iv : vp_in (nI i) (b 2).length := by rw [hL.2.2.1]; exact vp_in_nI (by omega) (by decide)
    have ic : (nI i).toNatClampNeg = i := nIc (by omega)
    have ex : (b 2).getD (nI i).toNatClampNeg 0 = (b 2).getD i 0 := by rw [ic]
    have hL2 : yL (mc_up b 2 ((b 2).set (nI i).toNatClampNeg 0)) := yL_2 hL (by rw [List.length_set]; exact hL.2.2.1)
    have iv2 : vp_in (nI i) ((mc_up b 2 ((b 2).set (nI i).toNatClampNeg 0)) 2).length := by rw [hL2.2.2.1]; exact vp_in_nI (by omega) (by decide)
    have eb := up_back (b := b) (k := 2) (i := (nI i).toNatClampNeg) (x := 0) (v := (b 2).getD i 0) (by rw [ic, hL.2.2.1]; omega) ex
    have er : yrings ((mc_up b 2 ((b 2).set (nI i).toNatClampNeg 0)) 2) = yrings ((b 2).set i 0) := by rw [ic]; rfl
    refine e_iload (pc := 25) dX7_forgive_25 rfl ?_
    refine e_bipush (v := 36) (pc := 27) dX7_forgive_27 (by decide) ?_
    refine e_icmp_ge (pc := 29) dX7_forgive_29 (t := 111) (by decide) (fun c_29 => absurd c_29 (nI_ge (by omega : i < 36) (by decide))) (fun _ => ?_)
    refine e_aloadn (pc := 32) dX7_forgive_32 rfl ?_
    refine e_get (pc := 33) dX7_forgive_33 fX7_23 rfl rfl ?_
    refine e_iload (pc := 36) dX7_forgive_36 rfl ?_
    refine aldv_owes (pc := 38) dX7_forgive_38 iv ex ?_
    refine e_isw5 (pc := 39) dX7_forgive_39 (Nat.le_of_ble_eq_true rfl) rfl ?_
    refine e_aloadn (pc := 41) dX7_forgive_41 rfl ?_
    refine e_get (pc := 42) dX7_forgive_42 fX7_23 rfl rfl ?_
    refine e_iload (pc := 45) dX7_forgive_45 rfl ?_
    refine e_iconst (v := 0) (pc := 47) dX7_forgive_47 (by decide) ?_
    refine ast_owes (pc := 48) dX7_forgive_48 iv ?_
    refine e_aloadn (pc := 49) dX7_forgive_49 rfl ?_
    refine e_cvD (pc := 50) (sp_y_ringsNow hL2) dX7_forgive_50 kX7_247 rfl rfl rfl rfl rfl (mc_CR_of (Nat.le_of_ble_eq_true rfl) (Nat.le_of_ble_eq_true rfl) (Nat.le_refl _) (Nat.le_refl _)) (Nat.le_of_ble_eq_true rfl) ?_
    refine e_csD (pc := 53) (sp_y_ones) dX7_forgive_53 kX7_253 rfl rfl (mc_CR_of (Nat.le_of_ble_eq_true rfl) (Nat.le_of_ble_eq_true rfl) (Nat.le_refl _) (Nat.le_refl _)) (Nat.le_of_ble_eq_true rfl) ?_
    rw [er]
    refine e_isw6 (pc := 56) dX7_forgive_56 (Nat.le_of_ble_eq_true rfl) rfl ?_
    refine e_aloadn (pc := 58) dX7_forgive_58 rfl ?_
    refine e_get (pc := 59) dX7_forgive_59 fX7_23 rfl rfl ?_
    refine e_iload (pc := 62) dX7_forgive_62 rfl ?_
    refine e_iload (pc := 64) dX7_forgive_64 rfl ?_
    refine ast_owes (pc := 66) dX7_forgive_66 iv2 ?_
    rw [eb]
    refine e_iload (pc := 67) dX7_forgive_67 rfl ?_
    refine e_iloadn (pc := 69) dX7_forgive_69 rfl ?_
    refine e_icmp_ge (pc := 70) dX7_forgive_70 (t := 90) (by decide) (fun c_70 => ?_) (fun c_70 => ?_)
    · skip
      refine e_iloadn (pc := 90) dX7_forgive_90 rfl ?_
      refine e_isn2 (pc := 91) dX7_forgive_91 (Nat.le_of_ble_eq_true rfl) rfl ?_
      refine e_iload (pc := 92) dX7_forgive_92 rfl ?_
      refine e_iloadn (pc := 94) dX7_forgive_94 rfl ?_
      refine e_icmp_ge (pc := 95) dX7_forgive_95 (t := 103) (by decide) (fun c_95 => ?_) (fun c_95 => ?_)
      · skip
        refine e_iloadn (pc := 103) dX7_forgive_103 rfl ?_
        refine e_isn3 (pc := 104) dX7_forgive_104 (Nat.le_of_ble_eq_true rfl) rfl ?_
        refine e_incC4 (pc := 105) dX7_forgive_105 (nI_1 i) (Nat.le_of_ble_eq_true rfl) rfl ?_
        refine e_goto (pc := 108) dX7_forgive_108 (t := 25) (by decide) ?_
        exact ih (i + 1) _ _ _ _ (by omega) (by rw [← hV, if_neg (Int32.not_lt.mpr c_70)])
      · skip
        refine e_iload (pc := 98) dX7_forgive_98 rfl ?_
        refine e_goto (pc := 100) dX7_forgive_100 (t := 104) (by decide) ?_
        refine e_isn3 (pc := 104) dX7_forgive_104 (Nat.le_of_ble_eq_true rfl) rfl ?_
        refine e_incC4 (pc := 105) dX7_forgive_105 (nI_1 i) (Nat.le_of_ble_eq_true rfl) rfl ?_
        refine e_goto (pc := 108) dX7_forgive_108 (t := 25) (by decide) ?_
        exact absurd c_70 c_95
    · skip
      refine e_bipush (v := 10) (pc := 73) dX7_forgive_73 (by decide) ?_
      refine e_iload (pc := 75) dX7_forgive_75 rfl ?_
      refine e_bipush (v := 6) (pc := 77) dX7_forgive_77 (by decide) ?_
      refine e_idiv (pc := 79) dX7_forgive_79 (by decide) ?_
      refine e_imul (pc := 80) dX7_forgive_80 ?_
      refine e_iload (pc := 81) dX7_forgive_81 rfl ?_
      refine e_bipush (v := 6) (pc := 83) dX7_forgive_83 (by decide) ?_
      refine e_irem (pc := 85) dX7_forgive_85 (by decide) ?_
      refine e_iadd (pc := 86) dX7_forgive_86 ?_
      refine e_goto (pc := 87) dX7_forgive_87 (t := 91) (by decide) ?_
      refine e_isn2 (pc := 91) dX7_forgive_91 (Nat.le_of_ble_eq_true rfl) rfl ?_
      refine e_iload (pc := 92) dX7_forgive_92 rfl ?_
      refine e_iloadn (pc := 94) dX7_forgive_94 rfl ?_
      refine e_icmp_ge (pc := 95) dX7_forgive_95 (t := 103) (by decide) (fun c_95 => ?_) (fun c_95 => ?_)
      · skip
        refine e_iloadn (pc := 103) dX7_forgive_103 rfl ?_
        refine e_isn3 (pc := 104) dX7_forgive_104 (Nat.le_of_ble_eq_true rfl) rfl ?_
        refine e_incC4 (pc := 105) dX7_forgive_105 (nI_1 i) (Nat.le_of_ble_eq_true rfl) rfl ?_
        refine e_goto (pc := 108) dX7_forgive_108 (t := 25) (by decide) ?_
        exact absurd c_95 c_70
      · skip
        refine e_iload (pc := 98) dX7_forgive_98 rfl ?_
        refine e_goto (pc := 100) dX7_forgive_100 (t := 104) (by decide) ?_
        refine e_isn3 (pc := 104) dX7_forgive_104 (Nat.le_of_ble_eq_true rfl) rfl ?_
        refine e_incC4 (pc := 105) dX7_forgive_105 (nI_1 i) (Nat.le_of_ble_eq_true rfl) rfl ?_
        refine e_goto (pc := 108) dX7_forgive_108 (t := 25) (by decide) ?_
        exact ih (i + 1) _ _ _ _ (by omega) (by rw [← hV, if_pos (Int32.not_le.mp c_70)])
theorem sp_y_forgive {s u m n : Nat → Int32} {a c b d : Nat → List Int32} {q : List (Option Nat)} {h : Nat} {z : mc_W} {w : Int32} (hL : yL b) : mc_D yX7_forgive cX7_forgive 7 (some .int) 3 [.ref 29, .int w] (WW s a q u c h m b n d z) (some (.int (yforgive (b 2) w))) (WW s a q u c h m b n d z) := by
  refine mc_start (own := RX7) (ini := false) rfl (by decide +kernel) (fun h => by cases h) (Nat.le_of_ble_eq_true rfl) ?_
  show mc_E _ _ _ _ _ [some (.ref 29), some (.int w), none, none, none, none, none] [] _ _ _
  refine e_iloadn (pc := 0) dX7_forgive_0 rfl ?_
  refine e_iconst (v := 0) (pc := 1) dX7_forgive_1 (by decide) ?_
  refine e_iconst (v := 1) (pc := 2) dX7_forgive_2 (by decide) ?_
  refine e_csD (pc := 3) (sp_y_in) dX7_forgive_3 kX7_75 rfl rfl (mc_CR_of (Nat.le_of_ble_eq_true rfl) (Nat.le_of_ble_eq_true rfl) (Nat.le_refl _) (Nat.le_refl _)) (Nat.le_of_ble_eq_true rfl) ?_
  refine e_if_ne (pc := 6) dX7_forgive_6 (t := 12) (by decide) (fun c_6 => ?_) (fun c_6 => ?_)
  · skip
    refine e_iconst (v := -1) (pc := 12) dX7_forgive_12 (by decide) ?_
    refine e_isn2 (pc := 13) dX7_forgive_13 (Nat.le_of_ble_eq_true rfl) rfl ?_
    refine e_aloadn (pc := 14) dX7_forgive_14 rfl ?_
    refine e_cvD (pc := 15) (sp_y_ringsNow hL) dX7_forgive_15 kX7_247 rfl rfl rfl rfl rfl (mc_CR_of (Nat.le_of_ble_eq_true rfl) (Nat.le_of_ble_eq_true rfl) (Nat.le_refl _) (Nat.le_refl _)) (Nat.le_of_ble_eq_true rfl) ?_
    refine e_csD (pc := 18) (sp_y_ones) dX7_forgive_18 kX7_253 rfl rfl (mc_CR_of (Nat.le_of_ble_eq_true rfl) (Nat.le_of_ble_eq_true rfl) (Nat.le_refl _) (Nat.le_refl _)) (Nat.le_of_ble_eq_true rfl) ?_
    refine e_isn3 (pc := 21) dX7_forgive_21 (Nat.le_of_ble_eq_true rfl) rfl ?_
    refine e_iconst (v := 0) (pc := 22) dX7_forgive_22 (by decide) ?_
    refine e_isw4 (pc := 23) dX7_forgive_23 (Nat.le_of_ble_eq_true rfl) rfl ?_
    have K := lp_y_forgive (s := s) (a := a) (q := q) (u := u) (c := c) (h := h) (z := z) (m := m) (n := n) (d := d) (w := w) hL 36 0 (-1) (yy_ones (yrings (b 2))) none none (by omega) rfl
    unfold yforgive
    rw [if_neg (c := mc_wi w 0 1 = false) (by simp [mc_b1.mp c_6])]
    exact K
  · skip
    refine e_bipush (v := -2) (pc := 9) dX7_forgive_9 (by decide) ?_
    exact e_iret (pc := 11) dX7_forgive_11 rfl (Nat.le_refl _) (Nat.le_refl _) ⟨(by (try simp only [mc_cmp_le, mc_cmp_ge, mc_cmp_eq, mc_cmp_lt, mc_cmp_gt, mc_b0, mc_b1, Bool.not_eq_false, Bool.not_eq_true] at c_6); first | rfl | (simp [yforgive, c_6]; done) | ((try simp only [← Int32.not_lt, ← Int64.not_lt, Classical.not_not] at c_6); simp [yforgive, c_6])), rfl⟩
/-! paying -/
def ypat (fg : Int32) : Int32 := 6 * (fg / 10) + (fg - fg / 10 * 10)
def ypyc (m : Nat → Int32) (b : Nat → List Int32) (k fg mu : Int32) : Int32 :=
  if mc_wi k 0 (m 2 - 1) = false then -6 else if fg < 0 ∨ yy_fo (fg / 10) (fg - fg / 10 * 10) = false then -5 else if mc_wi mu 0 9999 = false then -7
  else if gt (b 2) (ypat fg) < mu then -3 else 0
def ypyv (m : Nat → Int32) (b : Nat → List Int32) (k fg mu : Int32) : Int32 :=
  if gt (b 2) (ypat fg) - mu = 0 then yy_wn (ymk m b k 0) 0 9999 else gt (b 2) (ypat fg) - mu
def ypay (m : Nat → Int32) (b : Nat → List Int32) (k fg mu : Int32) : Int32 := if ypyc m b k fg mu = 0 then ypyv m b k fg mu else ypyc m b k fg mu
def ypyb (m : Nat → Int32) (b : Nat → List Int32) (k fg mu : Int32) : Nat → List Int32 := if ypyc m b k fg mu = 0 then mc_up b 2 ((b 2).set (ypat fg).toNatClampNeg (ypyv m b k fg mu)) else b
theorem vp_clt {x : Int32} {n : Nat} (h : vp_in x n) : x.toNatClampNeg < n := by
  rw [vp_in_iff] at h
  have := tnc h.1
  omega
theorem up_set2 {b : Nat → List Int32} {k i : Nat} {x y : Int32} : mc_up (mc_up b k ((b k).set i x)) k (((mc_up b k ((b k).set i x)) k).set i y) = mc_up b k ((b k).set i y) := by
  have e : ((mc_up b k ((b k).set i x)) k) = (b k).set i x := by unfold mc_up; rw [if_pos rfl]
  rw [mc_up_up, e, List.set_set]
theorem up_get {b : Nat → List Int32} {k i : Nat} {x : Int32} (h : i < (b k).length) : ((mc_up b k ((b k).set i x)) k).getD i 0 = x := by
  have e : ((mc_up b k ((b k).set i x)) k) = (b k).set i x := by unfold mc_up; rw [if_pos rfl]
  rw [e, gD_set h, if_pos rfl]
theorem up_in {b : Nat → List Int32} {k : Nat} {i : Nat} {x j : Int32} (h : vp_in j (b k).length) : vp_in j ((mc_up b k ((b k).set i x)) k).length := by
  have e : ((mc_up b k ((b k).set i x)) k) = (b k).set i x := by unfold mc_up; rw [if_pos rfl]
  rw [e, List.length_set]; exact h
theorem yG_2 {m : Nat → Int32} {b : Nat → List Int32} (h : yG m b) {l : List Int32} (hl : l.length = 36) : yG m (mc_up b 2 l) :=
  ⟨yL_2 h.1 hl, h.2.1, h.2.2.1, h.2.2.2.1, h.2.2.2.2.1, h.2.2.2.2.2⟩
theorem sp_y_pay {s u m n : Nat → Int32} {a c b d : Nat → List Int32} {q : List (Option Nat)} {h : Nat} {z : mc_W} {k fg mu : Int32} (hG : yG m b) (hD : yD d) : mc_T yX7_pay cX7_pay 5 (some .int) 5 [.ref 29, .int k, .int fg, .int mu] (WW s a q u c h m b n d z) (some (.int (ypay m b k fg mu))) (fun w' => ∃ d1, yD d1 ∧ w' = WW s a q u c h m (ypyb m b k fg mu) n d1 z) := by
  refine mc_start (own := RX7) (ini := false) rfl (by decide +kernel) (fun h => by cases h) (Nat.le_of_ble_eq_true rfl) ?_
  show mc_E _ _ _ _ _ [some (.ref 29), some (.int k), some (.int fg), some (.int mu), none] [] _ _ _
  have hL := hG.1
  have hv : yy_fo (fg / 10) (fg - fg / 10 * 10) = true → vp_in (ypat fg) (b 2).length := fun h => by rw [hL.2.2.1]; exact vp_in_ow h
  have hG2 : ∀ i x, yG m (mc_up b 2 ((b 2).set i x)) := fun i x => yG_2 hG (by rw [List.length_set]; exact hL.2.2.1)
  refine e_aloadn (pc := 0) dX7_pay_0 rfl ?_
  refine e_iloadn (pc := 1) dX7_pay_1 rfl ?_
  refine e_cvD (pc := 2) (sp_y_isClerk) dX7_pay_2 kX7_159 rfl rfl rfl rfl rfl (mc_CR_of (Nat.le_of_ble_eq_true rfl) (Nat.le_of_ble_eq_true rfl) (Nat.le_refl _) (Nat.le_refl _)) (Nat.le_of_ble_eq_true rfl) ?_
  refine e_if_ne (pc := 5) dX7_pay_5 (t := 11) (by decide) (fun c_5 => ?_) (fun c_5 => ?_)
  · skip
    refine e_iloadn (pc := 11) dX7_pay_11 rfl ?_
    refine e_if_lt (pc := 12) dX7_pay_12 (t := 29) (by decide) (fun c_12 => ?_) (fun c_12 => ?_)
    · skip
      refine e_bipush (v := -5) (pc := 29) dX7_pay_29 (by decide) ?_
      exact e_iret (pc := 31) dX7_pay_31 rfl (Nat.le_refl _) (Nat.le_refl _) (have e0 : ypyc m b k fg mu = -5 := (by unfold ypyc; rw [if_neg (c := mc_wi k 0 (m 2 - 1) = false) (by simp [mc_b1.mp c_5]), if_pos (Or.inl c_12)]); ⟨by unfold ypay; rw [e0]; rfl, d, hD, by unfold ypyb; rw [e0]; rfl⟩)
    · skip
      refine e_iloadn (pc := 15) dX7_pay_15 rfl ?_
      refine e_bipush (v := 10) (pc := 16) dX7_pay_16 (by decide) ?_
      refine e_idiv (pc := 18) dX7_pay_18 (by decide) ?_
      refine e_iloadn (pc := 19) dX7_pay_19 rfl ?_
      refine e_bipush (v := 10) (pc := 20) dX7_pay_20 (by decide) ?_
      refine e_irem (pc := 22) dX7_pay_22 (by decide) ?_
      refine e_csD (pc := 23) (sp_y_areFolk) dX7_pay_23 kX7_240 rfl rfl (mc_CR_of (Nat.le_of_ble_eq_true rfl) (Nat.le_of_ble_eq_true rfl) (Nat.le_refl _) (Nat.le_refl _)) (Nat.le_of_ble_eq_true rfl) ?_
      refine e_if_ne (pc := 26) dX7_pay_26 (t := 32) (by decide) (fun c_26 => ?_) (fun c_26 => ?_)
      · skip
        refine e_iloadn (pc := 32) dX7_pay_32 rfl ?_
        refine e_iconst (v := 0) (pc := 33) dX7_pay_33 (by decide) ?_
        refine e_sipush (v := 9999) (pc := 34) dX7_pay_34 (by decide) ?_
        refine e_csD (pc := 37) (sp_y_in) dX7_pay_37 kX7_75 rfl rfl (mc_CR_of (Nat.le_of_ble_eq_true rfl) (Nat.le_of_ble_eq_true rfl) (Nat.le_refl _) (Nat.le_refl _)) (Nat.le_of_ble_eq_true rfl) ?_
        refine e_if_ne (pc := 40) dX7_pay_40 (t := 46) (by decide) (fun c_40 => ?_) (fun c_40 => ?_)
        · skip
          refine e_bipush (v := 6) (pc := 46) dX7_pay_46 (by decide) ?_
          refine e_iloadn (pc := 48) dX7_pay_48 rfl ?_
          refine e_bipush (v := 10) (pc := 49) dX7_pay_49 (by decide) ?_
          refine e_idiv (pc := 51) dX7_pay_51 (by decide) ?_
          refine e_imul (pc := 52) dX7_pay_52 ?_
          refine e_iloadn (pc := 53) dX7_pay_53 rfl ?_
          refine e_bipush (v := 10) (pc := 54) dX7_pay_54 (by decide) ?_
          refine e_irem (pc := 56) dX7_pay_56 (by decide) ?_
          refine e_iadd (pc := 57) dX7_pay_57 ?_
          refine e_isw4 (pc := 58) dX7_pay_58 (Nat.le_of_ble_eq_true rfl) rfl ?_
          refine e_aloadn (pc := 60) dX7_pay_60 rfl ?_
          refine e_get (pc := 61) dX7_pay_61 fX7_23 rfl rfl ?_
          refine e_iload (pc := 64) dX7_pay_64 rfl ?_
          refine ald_owes (pc := 66) dX7_pay_66 (hv (mc_b1.mp c_26)) ?_
          refine e_iloadn (pc := 67) dX7_pay_67 rfl ?_
          refine e_icmp_ge (pc := 68) dX7_pay_68 (t := 74) (by decide) (fun c_68 => ?_) (fun c_68 => ?_)
          · skip
            refine e_aloadn (pc := 74) dX7_pay_74 rfl ?_
            refine e_get (pc := 75) dX7_pay_75 fX7_23 rfl rfl ?_
            refine e_iload (pc := 78) dX7_pay_78 rfl ?_
            refine e_dup2 (pc := 80) dX7_pay_80 rfl rfl ?_
            refine ald_owes (pc := 81) dX7_pay_81 (hv (mc_b1.mp c_26)) ?_
            refine e_iloadn (pc := 82) dX7_pay_82 rfl ?_
            refine e_isub (pc := 83) dX7_pay_83 ?_
            refine ast_owes (pc := 84) dX7_pay_84 (hv (mc_b1.mp c_26)) ?_
            have e0 : ypyc m b k fg mu = 0 := by unfold ypyc; rw [if_neg (c := mc_wi k 0 (m 2 - 1) = false) (by simp [mc_b1.mp c_5]), if_neg (fun q => q.elim c_12 (by simp [mc_b1.mp c_26])), if_neg (c := mc_wi mu 0 9999 = false) (by simp [mc_b1.mp c_40]), if_neg (c := gt (b 2) (ypat fg) < mu) (Int32.not_lt.mpr c_68)]
            refine e_aloadn (pc := 85) dX7_pay_85 rfl ?_
            refine e_get (pc := 86) dX7_pay_86 fX7_23 rfl rfl ?_
            refine e_iload (pc := 89) dX7_pay_89 rfl ?_
            refine e_aloadn (pc := 91) dX7_pay_91 rfl ?_
            refine e_get (pc := 92) dX7_pay_92 fX7_23 rfl rfl ?_
            refine e_iload (pc := 95) dX7_pay_95 rfl ?_
            refine aldv_owes (pc := 97) dX7_pay_97 (up_in (hv (mc_b1.mp c_26))) (up_get (vp_clt (hv (mc_b1.mp c_26)))) ?_
            refine e_if_ne (pc := 98) dX7_pay_98 (t := 117) (by decide) (fun c_98 => ?_) (fun c_98 => ?_)
            · skip
              refine e_aloadn (pc := 117) dX7_pay_117 rfl ?_
              refine e_get (pc := 118) dX7_pay_118 fX7_23 rfl rfl ?_
              refine e_iload (pc := 121) dX7_pay_121 rfl ?_
              refine aldv_owes (pc := 123) dX7_pay_123 (up_in (hv (mc_b1.mp c_26))) (up_get (vp_clt (hv (mc_b1.mp c_26)))) ?_
              refine ast_owes (pc := 124) dX7_pay_124 (up_in (hv (mc_b1.mp c_26))) ?_
              rw [up_set2]
              refine e_aloadn (pc := 125) dX7_pay_125 rfl ?_
              refine e_get (pc := 126) dX7_pay_126 fX7_23 rfl rfl ?_
              refine e_iload (pc := 129) dX7_pay_129 rfl ?_
              refine aldv_owes (pc := 131) dX7_pay_131 (up_in (hv (mc_b1.mp c_26))) (up_get (vp_clt (hv (mc_b1.mp c_26)))) ?_
              exact e_iret (pc := 132) dX7_pay_132 rfl (Nat.le_refl _) (Nat.le_refl _) ⟨by unfold ypay; rw [e0, if_pos rfl]; unfold ypyv; rw [if_neg (c := gt (b 2) (ypat fg) - mu = 0) c_98]; rfl, d, hD, by unfold ypyb; rw [e0, if_pos rfl]; unfold ypyv; rw [if_neg (c := gt (b 2) (ypat fg) - mu = 0) c_98]; rfl⟩
            · skip
              refine e_aloadn (pc := 101) dX7_pay_101 rfl ?_
              refine e_iloadn (pc := 102) dX7_pay_102 rfl ?_
              refine e_iconst (v := 0) (pc := 103) dX7_pay_103 (by decide) ?_
              refine e_cvX (pc := 104) (sp_y_makesOf (hG2 _ _).1 (hG2 _ _).V ((hG2 _ _).k0 (mc_b1.mp c_5)) ((hG2 _ _).k1 (mc_b1.mp c_5)) hD) dX7_pay_104 kX7_178 rfl rfl rfl rfl rfl (mc_CR_of (Nat.le_of_ble_eq_true rfl) (Nat.le_of_ble_eq_true rfl) (Nat.le_refl _) (Nat.le_refl _)) (Nat.le_of_ble_eq_true rfl) (fun w1 hw1 => ?_)
              obtain ⟨d1, hD1, g3, rfl⟩ := hw1
              refine e_iconst (v := 0) (pc := 107) dX7_pay_107 (by decide) ?_
              refine e_sipush (v := 9999) (pc := 108) dX7_pay_108 (by decide) ?_
              refine e_csD (pc := 111) (sp_y_within) dX7_pay_111 kX7_156 rfl rfl (mc_CR_of (Nat.le_of_ble_eq_true rfl) (Nat.le_of_ble_eq_true rfl) (Nat.le_refl _) (Nat.le_refl _)) (Nat.le_of_ble_eq_true rfl) ?_
              refine e_goto (pc := 114) dX7_pay_114 (t := 124) (by decide) ?_
              refine ast_owes (pc := 124) dX7_pay_124 (up_in (hv (mc_b1.mp c_26))) ?_
              rw [up_set2]
              refine e_aloadn (pc := 125) dX7_pay_125 rfl ?_
              refine e_get (pc := 126) dX7_pay_126 fX7_23 rfl rfl ?_
              refine e_iload (pc := 129) dX7_pay_129 rfl ?_
              refine aldv_owes (pc := 131) dX7_pay_131 (up_in (hv (mc_b1.mp c_26))) (up_get (vp_clt (hv (mc_b1.mp c_26)))) ?_
              exact e_iret (pc := 132) dX7_pay_132 rfl (Nat.le_refl _) (Nat.le_refl _) ⟨by unfold ypay; rw [e0, if_pos rfl]; unfold ypyv; rw [if_pos (c := gt (b 2) (ypat fg) - mu = 0) c_98]; rfl, d1, hD1, by unfold ypyb; rw [e0, if_pos rfl]; unfold ypyv; rw [if_pos (c := gt (b 2) (ypat fg) - mu = 0) c_98]; rfl⟩
          · skip
            refine e_bipush (v := -3) (pc := 71) dX7_pay_71 (by decide) ?_
            exact e_iret (pc := 73) dX7_pay_73 rfl (Nat.le_refl _) (Nat.le_refl _) (have e0 : ypyc m b k fg mu = -3 := (by unfold ypyc; rw [if_neg (c := mc_wi k 0 (m 2 - 1) = false) (by simp [mc_b1.mp c_5]), if_neg (fun q => q.elim c_12 (by simp [mc_b1.mp c_26])), if_neg (c := mc_wi mu 0 9999 = false) (by simp [mc_b1.mp c_40]), if_pos (c := gt (b 2) (ypat fg) < mu) (Int32.not_le.mp c_68)]); ⟨by unfold ypay; rw [e0]; rfl, d, hD, by unfold ypyb; rw [e0]; rfl⟩)
        · skip
          refine e_bipush (v := -7) (pc := 43) dX7_pay_43 (by decide) ?_
          exact e_iret (pc := 45) dX7_pay_45 rfl (Nat.le_refl _) (Nat.le_refl _) (have e0 : ypyc m b k fg mu = -7 := (by unfold ypyc; rw [if_neg (c := mc_wi k 0 (m 2 - 1) = false) (by simp [mc_b1.mp c_5]), if_neg (fun q => q.elim c_12 (by simp [mc_b1.mp c_26])), if_pos (c := mc_wi mu 0 9999 = false) (mc_b0.mp c_40)]); ⟨by unfold ypay; rw [e0]; rfl, d, hD, by unfold ypyb; rw [e0]; rfl⟩)
      · skip
        refine e_bipush (v := -5) (pc := 29) dX7_pay_29 (by decide) ?_
        exact e_iret (pc := 31) dX7_pay_31 rfl (Nat.le_refl _) (Nat.le_refl _) (have e0 : ypyc m b k fg mu = -5 := (by unfold ypyc; rw [if_neg (c := mc_wi k 0 (m 2 - 1) = false) (by simp [mc_b1.mp c_5]), if_pos (Or.inr (mc_b0.mp c_26))]); ⟨by unfold ypay; rw [e0]; rfl, d, hD, by unfold ypyb; rw [e0]; rfl⟩)
  · skip
    refine e_bipush (v := -6) (pc := 8) dX7_pay_8 (by decide) ?_
    exact e_iret (pc := 10) dX7_pay_10 rfl (Nat.le_refl _) (Nat.le_refl _) (have e0 : ypyc m b k fg mu = -6 := (by unfold ypyc; rw [if_pos (c := mc_wi k 0 (m 2 - 1) = false) (mc_b0.mp c_5)]); ⟨by unfold ypay; rw [e0]; rfl, d, hD, by unfold ypyb; rw [e0]; rfl⟩)
