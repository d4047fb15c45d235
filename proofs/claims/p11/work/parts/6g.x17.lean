/-! ===== laws, kinds, film ===== -/
def xlw (s : Nat → Int32) (a : Nat → List Int32) (sg : Nat → Nat → List Int32) (k : Nat) (j : Int32) (i : Nat) : Int32 := xunl (gt (a 0) j) (gt (a 1) j) j (s 0) (s 1) (sg i) (xrow s a k)
def xlaws (s : Nat → Int32) (a : Nat → List Int32) (sg : Nat → Nat → List Int32) (T k : Nat) (j : Int32) : Int32 := if ¬ xtw s a k j = 0 then xtw s a k j else ybits (xlw s a sg k j) T 0 0
theorem lp_x_laws {s m n : Nat → Int32} {a b d : Nat → List Int32} {q : List (Option Nat)}  {z : mc_W} {T : Nat} {sg : Nat → Nat → List Int32} {c0 : Nat → List Int32} {k : Nat} {j : Int32} {V : Int32} (hO : xOK s a q c0 z T sg) (hk : k < 4) (hS : xS s) (hE : xev (xrow s a k)) (h3 : s 3 = nI T) :
    ∀ (f i : Nat) (acc ba ye : Int32) (sg1 : Nat → List Int32) (u : Nat → Int32) (c : Nat → List Int32) (h : Nat), xHd q z h u c (gt (a 0) j) (gt (a 1) j) j ba ye sg1 → xKc c0 c → i + f = T → ybits (xlw s a sg k j) f i acc = V →
      mc_E RX6 cX6_laws 7 (mc_JM (some .int) false 9 0 0 (fun r' w' => r' = some (.int V) ∧ ∃ u1 c1 h1, xC c1 ∧ w' = (WW s a q u1 c1 h1 m b n d z))) 26 [some (.ref 0), some (.int (nI k)), some (.int j), some (.int 0), some (.ref 17), some (.int acc), some (.int (nI i))] [] (WW s a q u c h m b n d z) 0 0 := by
  have hL := hO.1
  obtain ⟨-, -, -, hT, -, hc0, hb0, -⟩ := id hO
  have hT6 := hT.2.1
  intro f
  induction f with
  | zero =>
    intro i acc ba ye sg1 u c h hH hk0 hi hV
    have e : i = T := by omega
    subst e
    simp only [ybits] at hV
    subst hV
    refine e_iload (pc := 26) dX6_laws_26 rfl ?_
    refine e_aloadn (pc := 28) dX6_laws_28 rfl ?_
    refine e_get (pc := 29) dX6_laws_29 fX6_36 rfl rfl ?_
    refine e_icmp_ge (pc := 32) dX6_laws_32 (t := 77) (by decide) (fun _ => ?_) (fun c_32 => absurd (by rw [h3]; exact nI_le (Nat.le_refl _) (by omega)) c_32)
    refine e_iload (pc := 77) dX6_laws_77 rfl ?_
    exact e_iret (pc := 79) dX6_laws_79 rfl (Nat.le_refl _) (Nat.le_refl _) ⟨rfl, u, c, h, hH.C hk0 hc0, rfl⟩
  | succ f ih =>
    intro i acc ba ye sg1 u c h hH hk0 hi hV
    rw [ybits_s] at hV
    have hi2 : i < T := by omega
    refine e_iload (pc := 26) dX6_laws_26 rfl ?_
    refine e_aloadn (pc := 28) dX6_laws_28 rfl ?_
    refine e_get (pc := 29) dX6_laws_29 fX6_36 rfl rfl ?_
    refine e_icmp_ge (pc := 32) dX6_laws_32 (t := 77) (by decide) (fun c_32 => absurd c_32 (by rw [h3]; exact nI_ge hi2 (by omega))) (fun _ => ?_)
    refine e_aload (pc := 35) dX6_laws_35 rfl ?_
    refine e_aloadn (pc := 37) dX6_laws_37 rfl ?_
    refine e_get (pc := 38) dX6_laws_38 fX6_7 rfl rfl ?_
    refine e_aloadn (pc := 41) dX6_laws_41 rfl ?_
    refine e_get (pc := 42) dX6_laws_42 fX6_13 rfl rfl ?_
    refine e_aloadn (pc := 45) dX6_laws_45 rfl ?_
    refine e_iload (pc := 46) dX6_laws_46 rfl ?_
    refine e_cvD (pc := 48) (sp_x_textAt hT (rfl : nI i = nI i) hi2) dX6_laws_48 kX6_216 rfl rfl rfl rfl rfl (mc_CR_of (Nat.le_of_ble_eq_true rfl) (Nat.le_of_ble_eq_true rfl) (Nat.le_refl _) (Nat.le_refl _)) (Nat.le_of_ble_eq_true rfl) ?_
    refine e_cvY (pc := 51) (sp_x_liveH (bb := s 0) (yy := s 1) (h1 := xad i) (sg1 := sg i) hH (hT.2.2 _ hi2).2 hb0) dX6_laws_51 kX6_220 rfl rfl rfl rfl rfl (mc_CR_of (Nat.le_of_ble_eq_true rfl) (Nat.le_of_ble_eq_true rfl) (Nat.le_refl _) (Nat.le_refl _)) (Nat.le_of_ble_eq_true rfl) (fun w1 hw1 => ?_)
    obtain ⟨c1, hH1, hk1, rfl⟩ := hw1
    refine e_iload (pc := 54) dX6_laws_54 rfl ?_
    refine e_iload (pc := 56) dX6_laws_56 rfl ?_
    refine e_aloadn (pc := 58) dX6_laws_58 rfl ?_
    refine e_iloadn (pc := 59) dX6_laws_59 rfl ?_
    refine e_cvD (pc := 60) (sp_x_sheetAt hk) dX6_laws_60 kX6_171 rfl rfl rfl rfl rfl (mc_CR_of (Nat.le_of_ble_eq_true rfl) (Nat.le_of_ble_eq_true rfl) (Nat.le_refl _) (Nat.le_refl _)) (Nat.le_of_ble_eq_true rfl) ?_
    refine e_aload (pc := 63) dX6_laws_63 rfl ?_
    refine e_csX (pc := 65) (sp_x_bitOf hH1 hk hL hS hE) dX6_laws_65 kX6_282 rfl rfl (mc_CR_of (Nat.le_of_ble_eq_true rfl) (Nat.le_of_ble_eq_true rfl) (Nat.le_refl _) (Nat.le_refl _)) (Nat.le_of_ble_eq_true rfl) (fun w1 hw1 => ?_)
    obtain ⟨u2, c2, hH2, hk2, rfl⟩ := hw1
    refine e_ior (pc := 68) dX6_laws_68 ?_
    refine e_isw5 (pc := 69) dX6_laws_69 (Nat.le_of_ble_eq_true rfl) rfl ?_
    refine e_incC6 (pc := 71) dX6_laws_71 (nI_1 i) (Nat.le_of_ble_eq_true rfl) rfl ?_
    refine e_goto (pc := 74) dX6_laws_74 (t := 26) (by decide) ?_
    exact ih (i + 1) _ _ _ _ _ _ _ hH2 ((hk0.trans hk1).trans hk2) (by omega) hV
theorem sp_x_laws {s u m n : Nat → Int32} {a c b d : Nat → List Int32} {q : List (Option Nat)} {h : Nat} {z : mc_W} {T : Nat} {sg : Nat → Nat → List Int32} {k : Nat} (hk : k < 4) (hS : xS s) {j : Int32} (h3 : s 3 = nI T) (hO : xOK s a q c z T sg) : mc_T yX6_laws cX6_laws 7 (some .int) 9 [.ref 0, .int (nI k), .int j] (WW s a q u c h m b n d z) (some (.int (xlaws s a sg T k j))) (fun w1 => ∃ u1 c1 h1, xC c1 ∧ w1 = (WW s a q u1 c1 h1 m b n d z)) := by
  refine mc_start (own := RX6) (ini := false) rfl (by decide +kernel) (fun h => by cases h) (Nat.le_of_ble_eq_true rfl) ?_
  show mc_E _ _ _ _ _ [some (.ref 0), some (.int (nI k)), some (.int j), none, none, none, none] [] _ _ _
  have hL := hO.1
  have hl40 := (xrow_len hk hL hS).2
  refine e_aloadn (pc := 0) dX6_laws_0 rfl ?_
  refine e_iloadn (pc := 1) dX6_laws_1 rfl ?_
  refine e_iloadn (pc := 2) dX6_laws_2 rfl ?_
  refine e_cvD (pc := 3) (sp_x_refRowsBy hk hL hS hO.2.1) dX6_laws_3 kX6_275 rfl rfl rfl rfl rfl (mc_CR_of (Nat.le_of_ble_eq_true rfl) (Nat.le_of_ble_eq_true rfl) (Nat.le_refl _) (Nat.le_refl _)) (Nat.le_of_ble_eq_true rfl) ?_
  refine e_isn3 (pc := 6) dX6_laws_6 (Nat.le_of_ble_eq_true rfl) rfl ?_
  refine e_iloadn (pc := 7) dX6_laws_7 rfl ?_
  refine e_if_eq (pc := 8) dX6_laws_8 (t := 13) (by decide) (fun c_8 => ?_) (fun c_8 => ?_)
  · skip
    refine e_aloadn (pc := 13) dX6_laws_13 rfl ?_
    refine e_iloadn (pc := 14) dX6_laws_14 rfl ?_
    refine e_cvX (pc := 15) (sp_x_handOf hO (xtw_0 c_8).2) dX6_laws_15 kX6_121 rfl rfl rfl rfl rfl (mc_CR_of (Nat.le_of_ble_eq_true rfl) (Nat.le_of_ble_eq_true rfl) (Nat.le_refl _) (Nat.le_refl _)) (Nat.le_of_ble_eq_true rfl) (fun w1 hw1 => ?_)
    obtain ⟨u1, c1, hH, hk1, rfl⟩ := hw1
    refine e_asw4 (pc := 18) dX6_laws_18 (Nat.le_of_ble_eq_true rfl) rfl ?_
    refine e_iconst (v := 0) (pc := 20) dX6_laws_20 (by decide) ?_
    refine e_isw5 (pc := 21) dX6_laws_21 (Nat.le_of_ble_eq_true rfl) rfl ?_
    refine e_iconst (v := 0) (pc := 23) dX6_laws_23 (by decide) ?_
    refine e_isw6 (pc := 24) dX6_laws_24 (Nat.le_of_ble_eq_true rfl) rfl ?_
    have e : xlaws s a sg T k j = ybits (xlw s a sg k j) T 0 0 := if_neg (fun q => q c_8)
    rw [e, show xtw s a k j = 0 from c_8]
    exact lp_x_laws hO hk hS (xsw_ev hl40 (xtw_0 c_8).1) h3 T 0 0 _ _ _ u1 c1 _ hH hk1 (by omega) rfl
  · skip
    refine e_iloadn (pc := 11) dX6_laws_11 rfl ?_
    exact e_iret (pc := 12) dX6_laws_12 rfl (Nat.le_refl _) (Nat.le_refl _) ⟨by unfold xlaws; rw [if_pos (show ¬ xtw s a k j = 0 from c_8)], u, c, h, hO.2.2.2.2.2.1, rfl⟩
theorem sp_x_laws0 {s u m n : Nat → Int32} {a c b d : Nat → List Int32} {q : List (Option Nat)} {h : Nat} {z : mc_W} {j : Int32} {x0 : Int32} (hv : mc_wi x0 0 3 = false) : mc_D yX6_laws cX6_laws 7 (some .int) 7 [.ref 0, .int x0, .int j] (WW s a q u c h m b n d z) (some (.int (-2))) (WW s a q u c h m b n d z) := by
  refine mc_start (own := RX6) (ini := false) rfl (by decide +kernel) (fun h => by cases h) (Nat.le_of_ble_eq_true rfl) ?_
  show mc_E _ _ _ _ _ [some (.ref 0), some (.int x0), some (.int j), none, none, none, none] [] _ _ _
  refine e_aloadn (pc := 0) dX6_laws_0 rfl ?_
  refine e_iloadn (pc := 1) dX6_laws_1 rfl ?_
  refine e_iloadn (pc := 2) dX6_laws_2 rfl ?_
  refine e_cvD (pc := 3) (sp_x_refRowsBy0 hv) dX6_laws_3 kX6_275 rfl rfl rfl rfl rfl (mc_CR_of (Nat.le_of_ble_eq_true rfl) (Nat.le_of_ble_eq_true rfl) (Nat.le_refl _) (Nat.le_refl _)) (Nat.le_of_ble_eq_true rfl) ?_
  refine e_isn3 (pc := 6) dX6_laws_6 (Nat.le_of_ble_eq_true rfl) rfl ?_
  refine e_iloadn (pc := 7) dX6_laws_7 rfl ?_
  refine e_if_eq (pc := 8) dX6_laws_8 (t := 13) (by decide) (fun c_8 => absurd c_8 (by decide)) (fun _ => ?_)
  refine e_iloadn (pc := 11) dX6_laws_11 rfl ?_
  exact e_iret (pc := 12) dX6_laws_12 rfl (Nat.le_refl _) (Nat.le_refl _) ⟨rfl, rfl⟩
def xk0 (s : Nat → Int32) (a : Nat → List Int32) (sg : Nat → List Int32) (k : Nat) (j : Int32) (i : Nat) : Int32 := xunl (nI i) (gt (a 1) j) j (s 0) (s 1) sg (xrow s a k)
def xk1 (s : Nat → Int32) (a : Nat → List Int32) (sg : Nat → List Int32) (k : Nat) (j : Int32) (i : Nat) : Int32 := xunl (gt (a 0) j) (nI i) j (s 0) (s 1) sg (xrow s a k)
def xk2 (s : Nat → Int32) (a : Nat → List Int32) (sg : Nat → List Int32) (k : Nat) (j : Int32) (i : Nat) : Int32 := xunl (gt (a 0) j) (gt (a 1) j) j (nI i) (s 1) sg (xrow s a k)
def xkinds (s : Nat → Int32) (a : Nat → List Int32) (sg : Nat → List Int32) (k : Nat) (j so : Int32) : Int32 :=
  if ¬ xtw s a k j = 0 then xtw s a k j else if so = 0 then ybits (xk0 s a sg k j) 6 0 0 else if so = 1 then ybits (xk1 s a sg k j) 10 0 0 else if so = 2 then ybits (xk2 s a sg k j) 11 2 0 else -7
theorem lp_x_kinds0 {s m n : Nat → Int32} {a b d : Nat → List Int32} {q : List (Option Nat)}  {z : mc_W} {T : Nat} {sg : Nat → Nat → List Int32} {c0 : Nat → List Int32} {k : Nat} {j so : Int32} {V : Int32} (hO : xOK s a q c0 z T sg) (hk : k < 4) (hS : xS s) (hE : xev (xrow s a k)) (hj : mc_wi j 0 (s 2 - 1) = true) :
    ∀ (f i : Nat) (acc : Int32) (K mm : Int32) (u : Nat → Int32) (c : Nat → List Int32), xHd q z (xad (tl s)) u c K mm j (s 0) (s 1) (sg (tl s)) → xKc c0 c → i + f = 6 → ybits (xk0 s a (sg (tl s)) k j) f i acc = V →
      mc_E RX6 cX6_kinds 9 (mc_JM (some .int) false 9 0 0 (fun r' w' => r' = some (.int V) ∧ ∃ u1 c1 h1, xC c1 ∧ w' = (WW s a q u1 c1 h1 m b n d z))) 63 [some (.ref 0), some (.int (nI k)), some (.int j), some (.int so), some (.int 0), some (.ref (21 + 2 * k)), some (.ref 17), some (.int acc), some (.int (nI i))] [] (WW s a q u c (xad (tl s)) m b n d z) 0 0 := by
  have hL := hO.1
  obtain ⟨-, hC, hKK, hT, hs4, hc0, hb0, hm0⟩ := id hO
  have t4 := tnc hs4.1
  have e4 : s 4 = nI (tl s) := nI_back hs4.1
  have l4 : tl s < T := by unfold tl; omega
  have v0 := vp_ck hO.1.1 hj hO.2.1.1 hO.2.1.2
  have v1 := vp_ck hO.1.2.1 hj hO.2.1.1 hO.2.1.2
  have jl : j.toNatClampNeg < 5 := by
    have g := vp_in_iff.mp v0
    rw [hO.1.1] at g
    have := tnc g.1
    omega
  intro f
  induction f with
  | zero =>
    intro i acc K mm u c hH hk0 hi hV
    have e : i = 6 := by omega
    subst e
    simp only [ybits] at hV
    subst hV
    refine e_iload (pc := 63) dX6_kinds_63 rfl ?_
    refine e_iconst (v := 5) (pc := 65) dX6_kinds_65 (by decide) ?_
    refine e_icmp_gt (pc := 66) dX6_kinds_66 (t := 103) (by decide) (fun _ => ?_) (fun c_66 => absurd (by decide) c_66)
    refine e_iload (pc := 103) dX6_kinds_103 rfl ?_
    exact e_iret (pc := 105) dX6_kinds_105 rfl (Nat.le_refl _) (Nat.le_refl _) ⟨rfl, u, c, _, hH.C hk0 hc0, rfl⟩
  | succ f ih =>
    intro i acc K mm u c hH hk0 hi hV
    rw [ybits_s] at hV
    have hi2 : i < 6 := by omega
    have hi0 : 0 ≤ (nI i).toInt ∧ (nI i).toInt ≤ 5 := by rw [nI_toInt (by omega)]; omega
    refine e_iload (pc := 63) dX6_kinds_63 rfl ?_
    refine e_iconst (v := 5) (pc := 65) dX6_kinds_65 (by decide) ?_
    refine e_icmp_gt (pc := 66) dX6_kinds_66 (t := 103) (by decide) (fun c_66 => absurd c_66 (fun q => absurd (nI_le (a := i) (b := 5) (by omega) (by decide)) (Int32.not_le.mpr q))) (fun _ => ?_)
    refine e_aload (pc := 69) dX6_kinds_69 rfl ?_
    refine e_iloadn (pc := 71) dX6_kinds_71 rfl ?_
    refine e_iload (pc := 72) dX6_kinds_72 rfl ?_
    refine e_aloadn (pc := 74) dX6_kinds_74 rfl ?_
    refine e_get (pc := 75) dX6_kinds_75 fX6_20 rfl rfl ?_
    refine e_iloadn (pc := 78) dX6_kinds_78 rfl ?_
    refine ald_moreOf (pc := 79) dX6_kinds_79 v1 ?_
    refine e_cvY (pc := 80) (sp_x_beH (nn := j) (KK := nI i) (mw := gt (a 1) j) hH hi0 (hm0 _ jl)) dX6_kinds_80 kX6_281 rfl rfl rfl rfl rfl (mc_CR_of (Nat.le_of_ble_eq_true rfl) (Nat.le_of_ble_eq_true rfl) (Nat.le_refl _) (Nat.le_refl _)) (Nat.le_of_ble_eq_true rfl) (fun w1 hw1 => ?_)
    obtain ⟨u1, c1, hH1, hk1, rfl⟩ := hw1
    refine e_iload (pc := 83) dX6_kinds_83 rfl ?_
    refine e_iload (pc := 85) dX6_kinds_85 rfl ?_
    refine e_aload (pc := 87) dX6_kinds_87 rfl ?_
    refine e_aload (pc := 89) dX6_kinds_89 rfl ?_
    refine e_csX (pc := 91) (sp_x_bitOf hH1 hk hL hS hE) dX6_kinds_91 kX6_282 rfl rfl (mc_CR_of (Nat.le_of_ble_eq_true rfl) (Nat.le_of_ble_eq_true rfl) (Nat.le_refl _) (Nat.le_refl _)) (Nat.le_of_ble_eq_true rfl) (fun w1 hw1 => ?_)
    obtain ⟨u2, c2, hH2, hk2, rfl⟩ := hw1
    refine e_ior (pc := 94) dX6_kinds_94 ?_
    refine e_isw7 (pc := 95) dX6_kinds_95 (Nat.le_of_ble_eq_true rfl) rfl ?_
    refine e_incC8 (pc := 97) dX6_kinds_97 (nI_1 i) (Nat.le_of_ble_eq_true rfl) rfl ?_
    refine e_goto (pc := 100) dX6_kinds_100 (t := 63) (by decide) ?_
    exact ih (i + 1) _ _ _ _ _ hH2 ((hk0.trans hk1).trans hk2) (by omega) hV
theorem lp_x_kinds1 {s m n : Nat → Int32} {a b d : Nat → List Int32} {q : List (Option Nat)}  {z : mc_W} {T : Nat} {sg : Nat → Nat → List Int32} {c0 : Nat → List Int32} {k : Nat} {j so : Int32} {V : Int32} (hO : xOK s a q c0 z T sg) (hk : k < 4) (hS : xS s) (hE : xev (xrow s a k)) (hj : mc_wi j 0 (s 2 - 1) = true) :
    ∀ (f i : Nat) (acc : Int32) (K mm : Int32) (u : Nat → Int32) (c : Nat → List Int32), xHd q z (xad (tl s)) u c K mm j (s 0) (s 1) (sg (tl s)) → xKc c0 c → i + f = 10 → ybits (xk1 s a (sg (tl s)) k j) f i acc = V →
      mc_E RX6 cX6_kinds 9 (mc_JM (some .int) false 9 0 0 (fun r' w' => r' = some (.int V) ∧ ∃ u1 c1 h1, xC c1 ∧ w' = (WW s a q u1 c1 h1 m b n d z))) 109 [some (.ref 0), some (.int (nI k)), some (.int j), some (.int so), some (.int 0), some (.ref (21 + 2 * k)), some (.ref 17), some (.int acc), some (.int (nI i))] [] (WW s a q u c (xad (tl s)) m b n d z) 0 0 := by
  have hL := hO.1
  obtain ⟨-, hC, hKK, hT, hs4, hc0, hb0, hm0⟩ := id hO
  have t4 := tnc hs4.1
  have e4 : s 4 = nI (tl s) := nI_back hs4.1
  have l4 : tl s < T := by unfold tl; omega
  have v0 := vp_ck hO.1.1 hj hO.2.1.1 hO.2.1.2
  have v1 := vp_ck hO.1.2.1 hj hO.2.1.1 hO.2.1.2
  have jl : j.toNatClampNeg < 5 := by
    have g := vp_in_iff.mp v0
    rw [hO.1.1] at g
    have := tnc g.1
    omega
  intro f
  induction f with
  | zero =>
    intro i acc K mm u c hH hk0 hi hV
    have e : i = 10 := by omega
    subst e
    simp only [ybits] at hV
    subst hV
    refine e_iload (pc := 109) dX6_kinds_109 rfl ?_
    refine e_bipush (v := 9) (pc := 111) dX6_kinds_111 (by decide) ?_
    refine e_icmp_gt (pc := 113) dX6_kinds_113 (t := 150) (by decide) (fun _ => ?_) (fun c_113 => absurd (by decide) c_113)
    refine e_iload (pc := 150) dX6_kinds_150 rfl ?_
    exact e_iret (pc := 152) dX6_kinds_152 rfl (Nat.le_refl _) (Nat.le_refl _) ⟨rfl, u, c, _, hH.C hk0 hc0, rfl⟩
  | succ f ih =>
    intro i acc K mm u c hH hk0 hi hV
    rw [ybits_s] at hV
    have hi2 : i < 10 := by omega
    have hi0 : 0 ≤ (nI i).toInt ∧ (nI i).toInt ≤ 9 := by rw [nI_toInt (by omega)]; omega
    refine e_iload (pc := 109) dX6_kinds_109 rfl ?_
    refine e_bipush (v := 9) (pc := 111) dX6_kinds_111 (by decide) ?_
    refine e_icmp_gt (pc := 113) dX6_kinds_113 (t := 150) (by decide) (fun c_113 => absurd c_113 (fun q => absurd (nI_le (a := i) (b := 9) (by omega) (by decide)) (Int32.not_le.mpr q))) (fun _ => ?_)
    refine e_aload (pc := 116) dX6_kinds_116 rfl ?_
    refine e_iloadn (pc := 118) dX6_kinds_118 rfl ?_
    refine e_aloadn (pc := 119) dX6_kinds_119 rfl ?_
    refine e_get (pc := 120) dX6_kinds_120 fX6_16 rfl rfl ?_
    refine e_iloadn (pc := 123) dX6_kinds_123 rfl ?_
    refine ald_kindOf (pc := 124) dX6_kinds_124 v0 ?_
    refine e_iload (pc := 125) dX6_kinds_125 rfl ?_
    refine e_cvY (pc := 127) (sp_x_beH (nn := j) (KK := gt (a 0) j) (mw := nI i) hH (hKK _ jl) hi0) dX6_kinds_127 kX6_281 rfl rfl rfl rfl rfl (mc_CR_of (Nat.le_of_ble_eq_true rfl) (Nat.le_of_ble_eq_true rfl) (Nat.le_refl _) (Nat.le_refl _)) (Nat.le_of_ble_eq_true rfl) (fun w1 hw1 => ?_)
    obtain ⟨u1, c1, hH1, hk1, rfl⟩ := hw1
    refine e_iload (pc := 130) dX6_kinds_130 rfl ?_
    refine e_iload (pc := 132) dX6_kinds_132 rfl ?_
    refine e_aload (pc := 134) dX6_kinds_134 rfl ?_
    refine e_aload (pc := 136) dX6_kinds_136 rfl ?_
    refine e_csX (pc := 138) (sp_x_bitOf hH1 hk hL hS hE) dX6_kinds_138 kX6_282 rfl rfl (mc_CR_of (Nat.le_of_ble_eq_true rfl) (Nat.le_of_ble_eq_true rfl) (Nat.le_refl _) (Nat.le_refl _)) (Nat.le_of_ble_eq_true rfl) (fun w1 hw1 => ?_)
    obtain ⟨u2, c2, hH2, hk2, rfl⟩ := hw1
    refine e_ior (pc := 141) dX6_kinds_141 ?_
    refine e_isw7 (pc := 142) dX6_kinds_142 (Nat.le_of_ble_eq_true rfl) rfl ?_
    refine e_incC8 (pc := 144) dX6_kinds_144 (nI_1 i) (Nat.le_of_ble_eq_true rfl) rfl ?_
    refine e_goto (pc := 147) dX6_kinds_147 (t := 109) (by decide) ?_
    exact ih (i + 1) _ _ _ _ _ hH2 ((hk0.trans hk1).trans hk2) (by omega) hV
theorem lp_x_kinds2 {s m n : Nat → Int32} {a b d : Nat → List Int32} {q : List (Option Nat)}  {z : mc_W} {T : Nat} {sg : Nat → Nat → List Int32} {c0 : Nat → List Int32} {k : Nat} {j so : Int32} {V : Int32} (hO : xOK s a q c0 z T sg) (hk : k < 4) (hS : xS s) (hE : xev (xrow s a k)) (hj : mc_wi j 0 (s 2 - 1) = true) :
    ∀ (f i : Nat) (acc : Int32) (ba : Int32) (u : Nat → Int32) (c : Nat → List Int32), xHd q z (xad (tl s)) u c (gt (a 0) j) (gt (a 1) j) j ba (s 1) (sg (tl s)) → xKc c0 c → 2 ≤ i → i + f = 13 → ybits (xk2 s a (sg (tl s)) k j) f i acc = V →
      mc_E RX6 cX6_kinds 9 (mc_JM (some .int) false 9 0 0 (fun r' w' => r' = some (.int V) ∧ ∃ u1 c1 h1, xC c1 ∧ w' = (WW s a q u1 c1 h1 m b n d z))) 156 [some (.ref 0), some (.int (nI k)), some (.int j), some (.int so), some (.int 0), some (.ref (21 + 2 * k)), some (.ref 17), some (.int acc), some (.int (nI i))] [] (WW s a q u c (xad (tl s)) m b n d z) 0 0 := by
  have hL := hO.1
  obtain ⟨-, hC, hKK, hT, hs4, hc0, hb0, hm0⟩ := id hO
  have t4 := tnc hs4.1
  have e4 : s 4 = nI (tl s) := nI_back hs4.1
  have l4 : tl s < T := by unfold tl; omega
  have v0 := vp_ck hO.1.1 hj hO.2.1.1 hO.2.1.2
  have v1 := vp_ck hO.1.2.1 hj hO.2.1.1 hO.2.1.2
  have jl : j.toNatClampNeg < 5 := by
    have g := vp_in_iff.mp v0
    rw [hO.1.1] at g
    have := tnc g.1
    omega
  intro f
  induction f with
  | zero =>
    intro i acc ba u c hH hk0 h2 hi hV
    have e : i = 13 := by omega
    subst e
    simp only [ybits] at hV
    subst hV
    refine e_iload (pc := 156) dX6_kinds_156 rfl ?_
    refine e_bipush (v := 12) (pc := 158) dX6_kinds_158 (by decide) ?_
    refine e_icmp_gt (pc := 160) dX6_kinds_160 (t := 202) (by decide) (fun _ => ?_) (fun c_160 => absurd (by decide) c_160)
    refine e_iload (pc := 202) dX6_kinds_202 rfl ?_
    exact e_iret (pc := 204) dX6_kinds_204 rfl (Nat.le_refl _) (Nat.le_refl _) ⟨rfl, u, c, _, hH.C hk0 hc0, rfl⟩
  | succ f ih =>
    intro i acc ba u c hH hk0 h2 hi hV
    rw [ybits_s] at hV
    have hi2 : i < 13 := by omega
    have hi0 : 2 ≤ (nI i).toInt ∧ (nI i).toInt ≤ 12 := by rw [nI_toInt (by omega)]; omega
    refine e_iload (pc := 156) dX6_kinds_156 rfl ?_
    refine e_bipush (v := 12) (pc := 158) dX6_kinds_158 (by decide) ?_
    refine e_icmp_gt (pc := 160) dX6_kinds_160 (t := 202) (by decide) (fun c_160 => absurd c_160 (fun q => absurd (nI_le (a := i) (b := 12) (by omega) (by decide)) (Int32.not_le.mpr q))) (fun _ => ?_)
    refine e_aload (pc := 163) dX6_kinds_163 rfl ?_
    refine e_iload (pc := 165) dX6_kinds_165 rfl ?_
    refine e_aloadn (pc := 167) dX6_kinds_167 rfl ?_
    refine e_get (pc := 168) dX6_kinds_168 fX6_13 rfl rfl ?_
    refine e_aloadn (pc := 171) dX6_kinds_171 rfl ?_
    refine e_aloadn (pc := 172) dX6_kinds_172 rfl ?_
    refine e_get (pc := 173) dX6_kinds_173 fX6_79 rfl rfl ?_
    refine e_cvD (pc := 176) (sp_x_textAt hT e4 l4) dX6_kinds_176 kX6_216 rfl rfl rfl rfl rfl (mc_CR_of (Nat.le_of_ble_eq_true rfl) (Nat.le_of_ble_eq_true rfl) (Nat.le_refl _) (Nat.le_refl _)) (Nat.le_of_ble_eq_true rfl) ?_
    refine e_cvY (pc := 179) (sp_x_liveH (bb := nI i) (yy := s 1) (h1 := xad (tl s)) (sg1 := (sg (tl s))) hH (hT.2.2 _ l4).2 hi0) dX6_kinds_179 kX6_220 rfl rfl rfl rfl rfl (mc_CR_of (Nat.le_of_ble_eq_true rfl) (Nat.le_of_ble_eq_true rfl) (Nat.le_refl _) (Nat.le_refl _)) (Nat.le_of_ble_eq_true rfl) (fun w1 hw1 => ?_)
    obtain ⟨c1, hH1, hk1, rfl⟩ := hw1
    refine e_iload (pc := 182) dX6_kinds_182 rfl ?_
    refine e_iload (pc := 184) dX6_kinds_184 rfl ?_
    refine e_aload (pc := 186) dX6_kinds_186 rfl ?_
    refine e_aload (pc := 188) dX6_kinds_188 rfl ?_
    refine e_csX (pc := 190) (sp_x_bitOf hH1 hk hL hS hE) dX6_kinds_190 kX6_282 rfl rfl (mc_CR_of (Nat.le_of_ble_eq_true rfl) (Nat.le_of_ble_eq_true rfl) (Nat.le_refl _) (Nat.le_refl _)) (Nat.le_of_ble_eq_true rfl) (fun w1 hw1 => ?_)
    obtain ⟨u2, c2, hH2, hk2, rfl⟩ := hw1
    refine e_ior (pc := 193) dX6_kinds_193 ?_
    refine e_isw7 (pc := 194) dX6_kinds_194 (Nat.le_of_ble_eq_true rfl) rfl ?_
    refine e_incC8 (pc := 196) dX6_kinds_196 (nI_1 i) (Nat.le_of_ble_eq_true rfl) rfl ?_
    refine e_goto (pc := 199) dX6_kinds_199 (t := 156) (by decide) ?_
    exact ih (i + 1) _ _ _ _ hH2 ((hk0.trans hk1).trans hk2) (by omega) (by omega) hV
theorem sp_x_kinds {s u m n : Nat → Int32} {a c b d : Nat → List Int32} {q : List (Option Nat)} {h : Nat} {z : mc_W} {T : Nat} {sg : Nat → Nat → List Int32} {k : Nat} (hk : k < 4) (hS : xS s) {j so : Int32} (hO : xOK s a q c z T sg) : mc_T yX6_kinds cX6_kinds 9 (some .int) 9 [.ref 0, .int (nI k), .int j, .int so] (WW s a q u c h m b n d z) (some (.int (xkinds s a (sg (tl s)) k j so))) (fun w1 => ∃ u1 c1 h1, xC c1 ∧ w1 = (WW s a q u1 c1 h1 m b n d z)) := by
  refine mc_start (own := RX6) (ini := false) rfl (by decide +kernel) (fun h => by cases h) (Nat.le_of_ble_eq_true rfl) ?_
  show mc_E _ _ _ _ _ [some (.ref 0), some (.int (nI k)), some (.int j), some (.int so), none, none, none, none, none] [] _ _ _
  have hL := hO.1
  have hl40 := (xrow_len hk hL hS).2
  refine e_aloadn (pc := 0) dX6_kinds_0 rfl ?_
  refine e_iloadn (pc := 1) dX6_kinds_1 rfl ?_
  refine e_iloadn (pc := 2) dX6_kinds_2 rfl ?_
  refine e_cvD (pc := 3) (sp_x_refRowsBy hk hL hS hO.2.1) dX6_kinds_3 kX6_275 rfl rfl rfl rfl rfl (mc_CR_of (Nat.le_of_ble_eq_true rfl) (Nat.le_of_ble_eq_true rfl) (Nat.le_refl _) (Nat.le_refl _)) (Nat.le_of_ble_eq_true rfl) ?_
  refine e_isw4 (pc := 6) dX6_kinds_6 (Nat.le_of_ble_eq_true rfl) rfl ?_
  refine e_iload (pc := 8) dX6_kinds_8 rfl ?_
  refine e_if_eq (pc := 10) dX6_kinds_10 (t := 16) (by decide) (fun c_10 => ?_) (fun c_10 => ?_)
  · skip
    refine e_aloadn (pc := 16) dX6_kinds_16 rfl ?_
    refine e_iloadn (pc := 17) dX6_kinds_17 rfl ?_
    refine e_cvD (pc := 18) (sp_x_sheetAt hk) dX6_kinds_18 kX6_171 rfl rfl rfl rfl rfl (mc_CR_of (Nat.le_of_ble_eq_true rfl) (Nat.le_of_ble_eq_true rfl) (Nat.le_refl _) (Nat.le_refl _)) (Nat.le_of_ble_eq_true rfl) ?_
    refine e_asw5 (pc := 21) dX6_kinds_21 (Nat.le_of_ble_eq_true rfl) rfl ?_
    refine e_aloadn (pc := 23) dX6_kinds_23 rfl ?_
    refine e_iloadn (pc := 24) dX6_kinds_24 rfl ?_
    refine e_cvX (pc := 25) (sp_x_handOf hO (xtw_0 c_10).2) dX6_kinds_25 kX6_121 rfl rfl rfl rfl rfl (mc_CR_of (Nat.le_of_ble_eq_true rfl) (Nat.le_of_ble_eq_true rfl) (Nat.le_refl _) (Nat.le_refl _)) (Nat.le_of_ble_eq_true rfl) (fun w1 hw1 => ?_)
    obtain ⟨u1, c1, hH, hk1, rfl⟩ := hw1
    refine e_asw6 (pc := 28) dX6_kinds_28 (Nat.le_of_ble_eq_true rfl) rfl ?_
    refine e_iconst (v := 0) (pc := 30) dX6_kinds_30 (by decide) ?_
    refine e_isw7 (pc := 31) dX6_kinds_31 (Nat.le_of_ble_eq_true rfl) rfl ?_
    refine e_iloadn (pc := 33) dX6_kinds_33 rfl ?_
    by_cases hs_34_0 : so = 0
    · rw [hs_34_0]
      refine e_tabIn (pc := 34) (t := 60) dX6_kinds_34 (by decide) (by decide) rfl (by decide) ?_
      refine e_iconst (v := 0) (pc := 60) dX6_kinds_60 (by decide) ?_
      refine e_isw8 (pc := 61) dX6_kinds_61 (Nat.le_of_ble_eq_true rfl) rfl ?_
      rw [show xkinds s a (sg (tl s)) k j 0 = ybits (xk0 s a (sg (tl s)) k j) 6 0 0 from by unfold xkinds; rw [if_neg (show ¬ ¬ xtw s a k j = 0 from fun q => q c_10)]; rfl, show xtw s a k j = 0 from c_10]
      exact lp_x_kinds0 hO hk hS (xsw_ev hl40 (xtw_0 c_10).1) (xtw_0 c_10).2 6 0 0 _ _ u1 c1 hH hk1 (by omega) rfl
    by_cases hs_34_1 : so = 1
    · rw [hs_34_1]
      refine e_tabIn (pc := 34) (t := 106) dX6_kinds_34 (by decide) (by decide) rfl (by decide) ?_
      refine e_iconst (v := 0) (pc := 106) dX6_kinds_106 (by decide) ?_
      refine e_isw8 (pc := 107) dX6_kinds_107 (Nat.le_of_ble_eq_true rfl) rfl ?_
      rw [show xkinds s a (sg (tl s)) k j 1 = ybits (xk1 s a (sg (tl s)) k j) 10 0 0 from by unfold xkinds; rw [if_neg (show ¬ ¬ xtw s a k j = 0 from fun q => q c_10)]; rfl, show xtw s a k j = 0 from c_10]
      exact lp_x_kinds1 hO hk hS (xsw_ev hl40 (xtw_0 c_10).1) (xtw_0 c_10).2 10 0 0 _ _ u1 c1 hH hk1 (by omega) rfl
    by_cases hs_34_2 : so = 2
    · rw [hs_34_2]
      refine e_tabIn (pc := 34) (t := 153) dX6_kinds_34 (by decide) (by decide) rfl (by decide) ?_
      refine e_iconst (v := 2) (pc := 153) dX6_kinds_153 (by decide) ?_
      refine e_isw8 (pc := 154) dX6_kinds_154 (Nat.le_of_ble_eq_true rfl) rfl ?_
      rw [show xkinds s a (sg (tl s)) k j 2 = ybits (xk2 s a (sg (tl s)) k j) 11 2 0 from by unfold xkinds; rw [if_neg (show ¬ ¬ xtw s a k j = 0 from fun q => q c_10)]; rfl, show xtw s a k j = 0 from c_10]
      exact lp_x_kinds2 hO hk hS (xsw_ev hl40 (xtw_0 c_10).1) (xtw_0 c_10).2 11 2 0 _ u1 c1 hH hk1 (by omega) (by omega) rfl
    refine e_tabOut (pc := 34) (t := 205) dX6_kinds_34 (mc_tabout (by decide) (fun k h1 h2 => ?_)) (by decide) ?_
    · rcases (show k = 0 ∨ k = 1 ∨ k = 2 by omega) with rfl | rfl | rfl <;> assumption
    refine e_bipush (v := -7) (pc := 205) dX6_kinds_205 (by decide) ?_
    exact e_iret (pc := 207) dX6_kinds_207 rfl (Nat.le_refl _) (Nat.le_refl _) ⟨by unfold xkinds; rw [if_neg (show ¬ ¬ xtw s a k j = 0 from fun q => q c_10), if_neg (show ¬ so = 0 from hs_34_0), if_neg (show ¬ so = 1 from hs_34_1), if_neg (show ¬ so = 2 from hs_34_2)], u1, c1, _, hH.C hk1 hO.2.2.2.2.2.1, rfl⟩
  · skip
    refine e_iload (pc := 13) dX6_kinds_13 rfl ?_
    exact e_iret (pc := 15) dX6_kinds_15 rfl (Nat.le_refl _) (Nat.le_refl _) ⟨by unfold xkinds; rw [if_pos (show ¬ xtw s a k j = 0 from c_10)], u, c, h, hO.2.2.2.2.2.1, rfl⟩
theorem sp_x_kinds0 {s u m n : Nat → Int32} {a c b d : Nat → List Int32} {q : List (Option Nat)} {h : Nat} {z : mc_W} {j so : Int32} {x0 : Int32} (hv : mc_wi x0 0 3 = false) : mc_D yX6_kinds cX6_kinds 9 (some .int) 7 [.ref 0, .int x0, .int j, .int so] (WW s a q u c h m b n d z) (some (.int (-2))) (WW s a q u c h m b n d z) := by
  refine mc_start (own := RX6) (ini := false) rfl (by decide +kernel) (fun h => by cases h) (Nat.le_of_ble_eq_true rfl) ?_
  show mc_E _ _ _ _ _ [some (.ref 0), some (.int x0), some (.int j), some (.int so), none, none, none, none, none] [] _ _ _
  refine e_aloadn (pc := 0) dX6_kinds_0 rfl ?_
  refine e_iloadn (pc := 1) dX6_kinds_1 rfl ?_
  refine e_iloadn (pc := 2) dX6_kinds_2 rfl ?_
  refine e_cvD (pc := 3) (sp_x_refRowsBy0 hv) dX6_kinds_3 kX6_275 rfl rfl rfl rfl rfl (mc_CR_of (Nat.le_of_ble_eq_true rfl) (Nat.le_of_ble_eq_true rfl) (Nat.le_refl _) (Nat.le_refl _)) (Nat.le_of_ble_eq_true rfl) ?_
  refine e_isw4 (pc := 6) dX6_kinds_6 (Nat.le_of_ble_eq_true rfl) rfl ?_
  refine e_iload (pc := 8) dX6_kinds_8 rfl ?_
  refine e_if_eq (pc := 10) dX6_kinds_10 (t := 16) (by decide) (fun c_10 => absurd c_10 (by decide)) (fun _ => ?_)
  refine e_iload (pc := 13) dX6_kinds_13 rfl ?_
  exact e_iret (pc := 15) dX6_kinds_15 rfl (Nat.le_refl _) (Nat.le_refl _) ⟨rfl, rfl⟩
