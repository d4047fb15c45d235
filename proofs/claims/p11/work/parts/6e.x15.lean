/-! ===== book, who, smuggled, shortest ===== -/
def xmS (s : Nat → Int32) (a : Nat → List Int32) (sg : Nat → List Int32) (k : Nat) (j : Int32) : Int64 := (xrow s a k).foldl (fun S v => S + (hmk (gt (a 0) j) (gt (a 1) j) j (s 0) (s 1) sg v).toInt64) 0
def xoS (s : Nat → Int32) (a : Nat → List Int32) (k : Nat) : Int64 := (xrow s a k).foldl (fun S v => S + v.toInt64) 0
def xgr (x : Int64) : Int32 := (if 99999 < x then 99999 else x).toInt32
def xbook (s : Nat → Int32) (a : Nat → List Int32) (sg : Nat → List Int32) (k : Nat) (j w : Int32) : Int64 :=
  if ¬ xbw s a k = 0 then (xbw s a k).toInt64 else if mc_wi j 0 (s 2 - 1) = false then -5 else if mc_wi w 0 3 = false then -7
  else if w = 0 then xmS s a sg k j else if w = 1 then xoS s a k else if w = 2 then xabl (xmS s a sg k j - xoS s a k)
  else (xask s a sg 2 j (xgr (xoS s a k)) (xgr (xabl (xmS s a sg k j - xoS s a k)))).toInt64
theorem sp_x_book {s u m n : Nat → Int32} {a c b d : Nat → List Int32} {q : List (Option Nat)} {h : Nat} {z : mc_W} {T : Nat} {sg : Nat → Nat → List Int32} {k : Nat} (hk : k < 4) (hS : xS s) {j w : Int32} (hO : xOK s a q c z T sg) : mc_T yX6_book cX6_book 13 (some .long) 7 [.ref 0, .int (nI k), .int j, .int w] (WW s a q u c h m b n d z) (some (.long (xbook s a (sg (tl s)) k j w))) (fun w1 => ∃ u1 c1 h1, xC c1 ∧ w1 = (WW s a q u1 c1 h1 m b n d z)) := by
  refine mc_start (own := RX6) (ini := false) rfl (by decide +kernel) (fun h => by cases h) (Nat.le_of_ble_eq_true rfl) ?_
  show mc_E _ _ _ _ _ [some (.ref 0), some (.int (nI k)), some (.int j), some (.int w), none, none, none, none, none, none, none, none, none] [] _ _ _
  have hL := hO.1
  have hl40 := (xrow_len hk hL hS).2
  refine e_aloadn (pc := 0) dX6_book_0 rfl ?_
  refine e_iloadn (pc := 1) dX6_book_1 rfl ?_
  refine e_cvD (pc := 2) (sp_x_refBook hk hL hS) dX6_book_2 kX6_168 rfl rfl rfl rfl rfl (mc_CR_of (Nat.le_of_ble_eq_true rfl) (Nat.le_of_ble_eq_true rfl) (Nat.le_refl _) (Nat.le_refl _)) (Nat.le_of_ble_eq_true rfl) ?_
  refine e_isw4 (pc := 5) dX6_book_5 (Nat.le_of_ble_eq_true rfl) rfl ?_
  refine e_iload (pc := 7) dX6_book_7 rfl ?_
  refine e_if_eq (pc := 9) dX6_book_9 (t := 16) (by decide) (fun c_9 => ?_) (fun c_9 => ?_)
  · skip
    refine e_aloadn (pc := 16) dX6_book_16 rfl ?_
    refine e_iloadn (pc := 17) dX6_book_17 rfl ?_
    refine e_cvD (pc := 18) (sp_x_isClerk hO.2.1) dX6_book_18 kX6_115 rfl rfl rfl rfl rfl (mc_CR_of (Nat.le_of_ble_eq_true rfl) (Nat.le_of_ble_eq_true rfl) (Nat.le_refl _) (Nat.le_refl _)) (Nat.le_of_ble_eq_true rfl) ?_
    refine e_if_ne (pc := 21) dX6_book_21 (t := 28) (by decide) (fun c_21 => ?_) (fun c_21 => ?_)
    · skip
      refine e_iloadn (pc := 28) dX6_book_28 rfl ?_
      refine e_iconst (v := 0) (pc := 29) dX6_book_29 (by decide) ?_
      refine e_iconst (v := 3) (pc := 30) dX6_book_30 (by decide) ?_
      refine e_csD (pc := 31) (sp_isWithin) dX6_book_31 kX6_86 rfl rfl (mc_CR_of (Nat.le_of_ble_eq_true rfl) (Nat.le_of_ble_eq_true rfl) (Nat.le_refl _) (Nat.le_refl _)) (Nat.le_of_ble_eq_true rfl) ?_
      refine e_if_ne (pc := 34) dX6_book_34 (t := 41) (by decide) (fun c_34 => ?_) (fun c_34 => ?_)
      · skip
        refine e_aloadn (pc := 41) dX6_book_41 rfl ?_
        refine e_iloadn (pc := 42) dX6_book_42 rfl ?_
        refine e_cvD (pc := 43) (sp_x_sheetAt hk) dX6_book_43 kX6_171 rfl rfl rfl rfl rfl (mc_CR_of (Nat.le_of_ble_eq_true rfl) (Nat.le_of_ble_eq_true rfl) (Nat.le_refl _) (Nat.le_refl _)) (Nat.le_of_ble_eq_true rfl) ?_
        refine e_asw5 (pc := 46) dX6_book_46 (Nat.le_of_ble_eq_true rfl) rfl ?_
        refine e_aloadn (pc := 48) dX6_book_48 rfl ?_
        refine e_iloadn (pc := 49) dX6_book_49 rfl ?_
        refine e_cvX (pc := 50) (sp_x_handOf hO (mc_b1.mp c_21)) dX6_book_50 kX6_121 rfl rfl rfl rfl rfl (mc_CR_of (Nat.le_of_ble_eq_true rfl) (Nat.le_of_ble_eq_true rfl) (Nat.le_refl _) (Nat.le_refl _)) (Nat.le_of_ble_eq_true rfl) (fun w1 hw1 => ?_)
        obtain ⟨u1, c1, hH, hk1, rfl⟩ := hw1
        refine e_asw6 (pc := 53) dX6_book_53 (Nat.le_of_ble_eq_true rfl) rfl ?_
        refine e_aload (pc := 55) dX6_book_55 rfl ?_
        refine e_aload (pc := 57) dX6_book_57 rfl ?_
        refine e_csX (pc := 59) (sp_x_made hH hk hL hS) dX6_book_59 kX6_175 rfl rfl (mc_CR_of (Nat.le_of_ble_eq_true rfl) (Nat.le_of_ble_eq_true rfl) (Nat.le_refl _) (Nat.le_refl _)) (Nat.le_of_ble_eq_true rfl) (fun w1 hw1 => ?_)
        obtain ⟨c2, hH2, hk2, rfl⟩ := hw1
        refine e_lsw7 (pc := 62) dX6_book_62 (Nat.le_of_ble_eq_true rfl) rfl ?_
        refine e_aload (pc := 64) dX6_book_64 rfl ?_
        refine e_csD (pc := 66) (sp_x_ours hk hL hS) dX6_book_66 kX6_179 rfl rfl (mc_CR_of (Nat.le_of_ble_eq_true rfl) (Nat.le_of_ble_eq_true rfl) (Nat.le_refl _) (Nat.le_refl _)) (Nat.le_of_ble_eq_true rfl) ?_
        refine e_lsw9 (pc := 69) dX6_book_69 (Nat.le_of_ble_eq_true rfl) rfl ?_
        refine e_lload (pc := 71) dX6_book_71 rfl ?_
        refine e_lload (pc := 73) dX6_book_73 rfl ?_
        refine e_lsub (pc := 75) dX6_book_75 ?_
        refine e_absl (pc := 76) dX6_book_76 mX6_183 (mc_JR_of (Nat.le_of_ble_eq_true rfl) (Nat.le_refl _) (Nat.le_refl _) (Nat.le_of_ble_eq_true rfl)) ?_
        refine e_lsw11 (pc := 79) dX6_book_79 (Nat.le_of_ble_eq_true rfl) rfl ?_
        refine e_iloadn (pc := 81) dX6_book_81 rfl ?_
        by_cases hs_82_0 : w = 0
        · rw [hs_82_0]
          refine e_tabIn (pc := 82) (t := 108) dX6_book_82 (by decide) (by decide) rfl (by decide) ?_
          refine e_lload (pc := 108) dX6_book_108 rfl ?_
          exact e_lret (pc := 110) dX6_book_110 rfl (Nat.le_refl _) (Nat.le_refl _) ⟨by unfold xbook; rw [if_neg (show ¬ ¬ xbw s a k = 0 from fun q => q c_9), if_neg (show ¬ mc_wi j 0 (s 2 - 1) = false by rw [mc_b1.mp c_21]; decide), if_neg (show ¬ mc_wi (0 : Int32) 0 3 = false by decide), if_pos rfl]; rfl, u1, c2, _, hH2.C (hk1.trans hk2) hO.2.2.2.2.2.1, rfl⟩
        by_cases hs_82_1 : w = 1
        · rw [hs_82_1]
          refine e_tabIn (pc := 82) (t := 111) dX6_book_82 (by decide) (by decide) rfl (by decide) ?_
          refine e_lload (pc := 111) dX6_book_111 rfl ?_
          exact e_lret (pc := 113) dX6_book_113 rfl (Nat.le_refl _) (Nat.le_refl _) ⟨by unfold xbook; rw [if_neg (show ¬ ¬ xbw s a k = 0 from fun q => q c_9), if_neg (show ¬ mc_wi j 0 (s 2 - 1) = false by rw [mc_b1.mp c_21]; decide), if_neg (show ¬ mc_wi (1 : Int32) 0 3 = false by decide), if_neg (show ¬ (1 : Int32) = 0 by decide), if_pos (show (1 : Int32) = 1 from rfl)]; rfl, u1, c2, _, hH2.C (hk1.trans hk2) hO.2.2.2.2.2.1, rfl⟩
        by_cases hs_82_2 : w = 2
        · rw [hs_82_2]
          refine e_tabIn (pc := 82) (t := 114) dX6_book_82 (by decide) (by decide) rfl (by decide) ?_
          refine e_lload (pc := 114) dX6_book_114 rfl ?_
          exact e_lret (pc := 116) dX6_book_116 rfl (Nat.le_refl _) (Nat.le_refl _) ⟨by unfold xbook; rw [if_neg (show ¬ ¬ xbw s a k = 0 from fun q => q c_9), if_neg (show ¬ mc_wi j 0 (s 2 - 1) = false by rw [mc_b1.mp c_21]; decide), if_neg (show ¬ mc_wi (2 : Int32) 0 3 = false by decide), if_neg (show ¬ (2 : Int32) = 0 by decide), if_neg (show ¬ (2 : Int32) = 1 by decide), if_pos (show (2 : Int32) = 2 from rfl)]; rfl, u1, c2, _, hH2.C (hk1.trans hk2) hO.2.2.2.2.2.1, rfl⟩
        refine e_tabOut (pc := 82) (t := 117) dX6_book_82 (mc_tabout (by decide) (fun k h1 h2 => ?_)) (by decide) ?_
        · rcases (show k = 0 ∨ k = 1 ∨ k = 2 by omega) with rfl | rfl | rfl <;> assumption
        refine e_aload (pc := 117) dX6_book_117 rfl ?_
        refine e_iconst (v := 2) (pc := 119) dX6_book_119 (by decide) ?_
        refine e_lload (pc := 120) dX6_book_120 rfl ?_
        refine e_ldc2 (pc := 122) dX6_book_122 qX6_186 ?_
        refine e_minl (pc := 125) dX6_book_125 mX6_188 (mc_JR_of (Nat.le_of_ble_eq_true rfl) (Nat.le_refl _) (Nat.le_refl _) (Nat.le_of_ble_eq_true rfl)) ?_
        skip
        refine e_l2i (pc := 128) dX6_book_128 ?_
        refine e_lload (pc := 129) dX6_book_129 rfl ?_
        refine e_ldc2 (pc := 131) dX6_book_131 qX6_186 ?_
        refine e_minl (pc := 134) dX6_book_134 mX6_188 (mc_JR_of (Nat.le_of_ble_eq_true rfl) (Nat.le_refl _) (Nat.le_refl _) (Nat.le_of_ble_eq_true rfl)) ?_
        refine e_l2i (pc := 137) dX6_book_137 ?_
        refine e_cvX (pc := 138) (sp_x_says2 hH2) dX6_book_138 kX6_125 rfl rfl rfl rfl rfl (mc_CR_of (Nat.le_of_ble_eq_true rfl) (Nat.le_of_ble_eq_true rfl) (Nat.le_refl _) (Nat.le_refl _)) (Nat.le_of_ble_eq_true rfl) (fun w1 hw1 => ?_)
        obtain ⟨c3, hH3, hk3, hr3, rfl⟩ := hw1
        refine e_i2l (pc := 141) dX6_book_141 ?_
        exact e_lret (pc := 142) dX6_book_142 rfl (Nat.le_refl _) (Nat.le_refl _) ⟨by unfold xbook; rw [if_neg (show ¬ ¬ xbw s a k = 0 from fun q => q c_9), if_neg (show ¬ mc_wi j 0 (s 2 - 1) = false by rw [mc_b1.mp c_21]; decide), if_neg (show ¬ mc_wi w 0 3 = false by rw [mc_b1.mp c_34]; decide), if_neg (show ¬ w = 0 from hs_82_0), if_neg (show ¬ w = 1 from hs_82_1), if_neg (show ¬ w = 2 from hs_82_2)]; rfl, u1, c3, _, hH3.C ((hk1.trans hk2).trans hk3) hO.2.2.2.2.2.1, rfl⟩
      · skip
        refine e_ldc2 (pc := 37) dX6_book_37 qX6_147 ?_
        exact e_lret (pc := 40) dX6_book_40 rfl (Nat.le_refl _) (Nat.le_refl _) ⟨(by unfold xbook; rw [if_neg (show ¬ ¬ xbw s a k = 0 from fun q => q c_9), if_neg (show ¬ mc_wi j 0 (s 2 - 1) = false by rw [mc_b1.mp c_21]; decide), if_pos (mc_b0.mp c_34)]; try rfl), u, c, h, hO.2.2.2.2.2.1, rfl⟩
    · skip
      refine e_ldc2 (pc := 24) dX6_book_24 qX6_145 ?_
      exact e_lret (pc := 27) dX6_book_27 rfl (Nat.le_refl _) (Nat.le_refl _) ⟨(by unfold xbook; rw [if_neg (show ¬ ¬ xbw s a k = 0 from fun q => q c_9), if_pos (mc_b0.mp c_21)]; try rfl), u, c, h, hO.2.2.2.2.2.1, rfl⟩
  · skip
    refine e_iload (pc := 12) dX6_book_12 rfl ?_
    refine e_i2l (pc := 14) dX6_book_14 ?_
    exact e_lret (pc := 15) dX6_book_15 rfl (Nat.le_refl _) (Nat.le_refl _) ⟨by unfold xbook; rw [if_pos (show ¬ xbw s a k = 0 from c_9)], u, c, h, hO.2.2.2.2.2.1, rfl⟩
theorem sp_x_book0 {s u m n : Nat → Int32} {a c b d : Nat → List Int32} {q : List (Option Nat)} {h : Nat} {z : mc_W} {j w : Int32} {x0 : Int32} (hv : mc_wi x0 0 3 = false) : mc_D yX6_book cX6_book 13 (some .long) 6 [.ref 0, .int x0, .int j, .int w] (WW s a q u c h m b n d z) (some (.long (-2))) (WW s a q u c h m b n d z) := by
  refine mc_start (own := RX6) (ini := false) rfl (by decide +kernel) (fun h => by cases h) (Nat.le_of_ble_eq_true rfl) ?_
  show mc_E _ _ _ _ _ [some (.ref 0), some (.int x0), some (.int j), some (.int w), none, none, none, none, none, none, none, none, none] [] _ _ _
  refine e_aloadn (pc := 0) dX6_book_0 rfl ?_
  refine e_iloadn (pc := 1) dX6_book_1 rfl ?_
  refine e_cvD (pc := 2) (sp_x_refBook0 hv) dX6_book_2 kX6_168 rfl rfl rfl rfl rfl (mc_CR_of (Nat.le_of_ble_eq_true rfl) (Nat.le_of_ble_eq_true rfl) (Nat.le_refl _) (Nat.le_refl _)) (Nat.le_of_ble_eq_true rfl) ?_
  refine e_isw4 (pc := 5) dX6_book_5 (Nat.le_of_ble_eq_true rfl) rfl ?_
  refine e_iload (pc := 7) dX6_book_7 rfl ?_
  refine e_if_eq (pc := 9) dX6_book_9 (t := 16) (by decide) (fun c_9 => absurd c_9 (by decide)) (fun _ => ?_)
  refine e_iload (pc := 12) dX6_book_12 rfl ?_
  refine e_i2l (pc := 14) dX6_book_14 ?_
  exact e_lret (pc := 15) dX6_book_15 rfl (Nat.le_refl _) (Nat.le_refl _) ⟨rfl, rfl⟩
def xwho (s : Nat → Int32) (a : Nat → List Int32) (sg : Nat → List Int32) (k : Nat) (w : Int32) : Int64 :=
  if ¬ xbw s a k = 0 then (xbw s a k).toInt64 else if mc_wi w 0 1 = false then -7
  else if w = 0 then (ybest (fun i => xabl (xmS s a sg k (nI i) - xoS s a k)) (s 2).toNatClampNeg 0 (-1) (-1)).1.toInt64 else (ybest (fun i => xabl (xmS s a sg k (nI i) - xoS s a k)) (s 2).toNatClampNeg 0 (-1) (-1)).2
theorem lp_x_who {s m n : Nat → Int32} {a b d : Nat → List Int32} {q : List (Option Nat)}  {z : mc_W} {T : Nat} {sg : Nat → Nat → List Int32} {k : Nat} {w : Int32} {V : Int32 × Int64} {N : Nat} (hk : k < 4) (hL : xL a) (hS : xS s) (hN : s 2 = nI N) (hN5 : N ≤ 5) :
    ∀ (f i : Nat) (be : Int32) (le : Int64) (u : Nat → Int32) (c : Nat → List Int32) (h : Nat) (x11 x12 : Option Value), xOK s a q c z T sg → i + f = N → ybest (fun i => xabl (xmS s a (sg (tl s)) k (nI i) - xoS s a k)) f i be le = V →
      mc_E RX6 cX6_who 13 (mc_JM (some .long) false 7 0 0 (fun r' w' => r' = some (.long (if w = 0 then V.1.toInt64 else V.2)) ∧ ∃ u1 c1 h1, xC c1 ∧ w' = (WW s a q u1 c1 h1 m b n d z))) 49 [some (.ref 0), some (.int (nI k)), some (.int w), some (.int 0), some (.ref (21 + 2 * k)), some (.long (xoS s a k)), none, some (.int be), some (.long le), none, some (.int (nI i)), x11, x12] [] (WW s a q u c h m b n d z) 0 0 := by
  intro f
  induction f with
  | zero =>
    intro i be le u c h x11 x12 hO hi hV
    have e : i = N := by omega
    subst e
    simp only [ybest] at hV
    subst hV
    refine e_iload (pc := 49) dX6_who_49 rfl ?_
    refine e_aloadn (pc := 51) dX6_who_51 rfl ?_
    refine e_get (pc := 52) dX6_who_52 fX6_76 rfl rfl ?_
    refine e_icmp_ge (pc := 55) dX6_who_55 (t := 105) (by decide) (fun _ => ?_) (fun c_55 => absurd (by rw [hN]; exact nI_le (Nat.le_refl _) (by omega)) c_55)
    refine e_iloadn (pc := 105) dX6_who_105 rfl ?_
    refine e_if_ne (pc := 106) dX6_who_106 (t := 115) (by decide) (fun c_106 => ?_) (fun c_106 => ?_)
    · skip
      refine e_lload (pc := 115) dX6_who_115 rfl ?_
      exact e_lret (pc := 117) dX6_who_117 rfl (Nat.le_refl _) (Nat.le_refl _) ⟨by rw [if_neg c_106], u, c, h, hO.2.2.2.2.2.1, rfl⟩
    · skip
      refine e_iload (pc := 109) dX6_who_109 rfl ?_
      refine e_i2l (pc := 111) dX6_who_111 ?_
      refine e_goto (pc := 112) dX6_who_112 (t := 117) (by decide) ?_
      exact e_lret (pc := 117) dX6_who_117 rfl (Nat.le_refl _) (Nat.le_refl _) ⟨by rw [if_pos c_106], u, c, h, hO.2.2.2.2.2.1, rfl⟩
  | succ f ih =>
    intro i be le u c h x11 x12 hO hi hV
    simp only [ybest] at hV
    have hi2 : i < N := by omega
    have hck : mc_wi (nI i) 0 (s 2 - 1) = true := by rw [hN, mc_wi_iff, i0, nI_toInt (by omega), i32_sub (by rw [nI_toInt (by omega)]; omega) (by decide), nI_toInt (by omega), i1]; omega
    refine e_iload (pc := 49) dX6_who_49 rfl ?_
    refine e_aloadn (pc := 51) dX6_who_51 rfl ?_
    refine e_get (pc := 52) dX6_who_52 fX6_76 rfl rfl ?_
    refine e_icmp_ge (pc := 55) dX6_who_55 (t := 105) (by decide) (fun c_55 => absurd c_55 (by rw [hN]; exact nI_ge hi2 (by omega))) (fun _ => ?_)
    refine e_aload (pc := 58) dX6_who_58 rfl ?_
    refine e_aloadn (pc := 60) dX6_who_60 rfl ?_
    refine e_iload (pc := 61) dX6_who_61 rfl ?_
    refine e_cvX (pc := 63) (sp_x_handOf hO hck) dX6_who_63 kX6_121 rfl rfl rfl rfl rfl (mc_CR_of (Nat.le_of_ble_eq_true rfl) (Nat.le_of_ble_eq_true rfl) (Nat.le_refl _) (Nat.le_refl _)) (Nat.le_of_ble_eq_true rfl) (fun w1 hw1 => ?_)
    obtain ⟨u1, c1, hH, hk1, rfl⟩ := hw1
    refine e_csX (pc := 66) (sp_x_made hH hk hL hS) dX6_who_66 kX6_175 rfl rfl (mc_CR_of (Nat.le_of_ble_eq_true rfl) (Nat.le_of_ble_eq_true rfl) (Nat.le_refl _) (Nat.le_refl _)) (Nat.le_of_ble_eq_true rfl) (fun w1 hw1 => ?_)
    obtain ⟨c2, hH2, hk2, rfl⟩ := hw1
    refine e_lload (pc := 69) dX6_who_69 rfl ?_
    refine e_lsub (pc := 71) dX6_who_71 ?_
    refine e_absl (pc := 72) dX6_who_72 mX6_183 (mc_JR_of (Nat.le_of_ble_eq_true rfl) (Nat.le_refl _) (Nat.le_refl _) (Nat.le_of_ble_eq_true rfl)) ?_
    refine e_topl (y := xabl (xmS s a (sg (tl s)) k (nI i) - xoS s a k)) rfl ?_
    refine e_lsw11 (pc := 75) dX6_who_75 (Nat.le_of_ble_eq_true rfl) rfl ?_
    refine e_iload (pc := 77) dX6_who_77 rfl ?_
    refine e_iconst (v := -1) (pc := 79) dX6_who_79 (by decide) ?_
    refine e_icmp_eq (pc := 80) dX6_who_80 (t := 91) (by decide) (fun c_80 => ?_) (fun c_80 => ?_)
    · skip
      refine e_iload (pc := 91) dX6_who_91 rfl ?_
      refine e_isw7 (pc := 93) dX6_who_93 (Nat.le_of_ble_eq_true rfl) rfl ?_
      refine e_lload (pc := 95) dX6_who_95 rfl ?_
      refine e_lsw8 (pc := 97) dX6_who_97 (Nat.le_of_ble_eq_true rfl) rfl ?_
      refine e_incC10 (pc := 99) dX6_who_99 (nI_1 i) (Nat.le_of_ble_eq_true rfl) rfl ?_
      refine e_goto (pc := 102) dX6_who_102 (t := 49) (by decide) ?_
      exact ih (i + 1) _ _ _ _ _ _ _ (hO.c (hH2.C (hk1.trans hk2) hO.2.2.2.2.2.1)) (by omega) (by rw [← hV, if_pos (Or.inl c_80)])
    · skip
      refine e_lload (pc := 83) dX6_who_83 rfl ?_
      refine e_lload (pc := 85) dX6_who_85 rfl ?_
      refine e_lcmp (pc := 87) dX6_who_87 ?_
      refine e_if_ge (pc := 88) dX6_who_88 (t := 99) (by decide) (fun c_88 => ?_) (fun c_88 => ?_)
      · skip
        refine e_incC10 (pc := 99) dX6_who_99 (nI_1 i) (Nat.le_of_ble_eq_true rfl) rfl ?_
        refine e_goto (pc := 102) dX6_who_102 (t := 49) (by decide) ?_
        exact ih (i + 1) _ _ _ _ _ _ _ (hO.c (hH2.C (hk1.trans hk2) hO.2.2.2.2.2.1)) (by omega) (by rw [← hV, if_neg (fun q => q.elim c_80 (fun r => mc_cnl_of c_88 r))])
      · skip
        refine e_iload (pc := 91) dX6_who_91 rfl ?_
        refine e_isw7 (pc := 93) dX6_who_93 (Nat.le_of_ble_eq_true rfl) rfl ?_
        refine e_lload (pc := 95) dX6_who_95 rfl ?_
        refine e_lsw8 (pc := 97) dX6_who_97 (Nat.le_of_ble_eq_true rfl) rfl ?_
        refine e_incC10 (pc := 99) dX6_who_99 (nI_1 i) (Nat.le_of_ble_eq_true rfl) rfl ?_
        refine e_goto (pc := 102) dX6_who_102 (t := 49) (by decide) ?_
        exact ih (i + 1) _ _ _ _ _ _ _ (hO.c (hH2.C (hk1.trans hk2) hO.2.2.2.2.2.1)) (by omega) (by rw [← hV, if_pos (Or.inr (mc_clt_of c_88))])
theorem sp_x_who {s u m n : Nat → Int32} {a c b d : Nat → List Int32} {q : List (Option Nat)} {h : Nat} {z : mc_W} {T : Nat} {sg : Nat → Nat → List Int32} {k : Nat} (hk : k < 4) (hS : xS s) {w : Int32} (hO : xOK s a q c z T sg) : mc_T yX6_who cX6_who 13 (some .long) 7 [.ref 0, .int (nI k), .int w] (WW s a q u c h m b n d z) (some (.long (xwho s a (sg (tl s)) k w))) (fun w1 => ∃ u1 c1 h1, xC c1 ∧ w1 = (WW s a q u1 c1 h1 m b n d z)) := by
  refine mc_start (own := RX6) (ini := false) rfl (by decide +kernel) (fun h => by cases h) (Nat.le_of_ble_eq_true rfl) ?_
  show mc_E _ _ _ _ _ [some (.ref 0), some (.int (nI k)), some (.int w), none, none, none, none, none, none, none, none, none, none] [] _ _ _
  have hL := hO.1
  have hl40 := (xrow_len hk hL hS).2
  refine e_aloadn (pc := 0) dX6_who_0 rfl ?_
  refine e_iloadn (pc := 1) dX6_who_1 rfl ?_
  refine e_cvD (pc := 2) (sp_x_refBook hk hL hS) dX6_who_2 kX6_168 rfl rfl rfl rfl rfl (mc_CR_of (Nat.le_of_ble_eq_true rfl) (Nat.le_of_ble_eq_true rfl) (Nat.le_refl _) (Nat.le_refl _)) (Nat.le_of_ble_eq_true rfl) ?_
  refine e_isn3 (pc := 5) dX6_who_5 (Nat.le_of_ble_eq_true rfl) rfl ?_
  refine e_iloadn (pc := 6) dX6_who_6 rfl ?_
  refine e_if_eq (pc := 7) dX6_who_7 (t := 13) (by decide) (fun c_7 => ?_) (fun c_7 => ?_)
  · skip
    refine e_iloadn (pc := 13) dX6_who_13 rfl ?_
    refine e_csD (pc := 14) (sp_isTwofold) dX6_who_14 kX6_160 rfl rfl (mc_CR_of (Nat.le_of_ble_eq_true rfl) (Nat.le_of_ble_eq_true rfl) (Nat.le_refl _) (Nat.le_refl _)) (Nat.le_of_ble_eq_true rfl) ?_
    refine e_if_ne (pc := 17) dX6_who_17 (t := 24) (by decide) (fun c_17 => ?_) (fun c_17 => ?_)
    · skip
      refine e_aloadn (pc := 24) dX6_who_24 rfl ?_
      refine e_iloadn (pc := 25) dX6_who_25 rfl ?_
      refine e_cvD (pc := 26) (sp_x_sheetAt hk) dX6_who_26 kX6_171 rfl rfl rfl rfl rfl (mc_CR_of (Nat.le_of_ble_eq_true rfl) (Nat.le_of_ble_eq_true rfl) (Nat.le_refl _) (Nat.le_refl _)) (Nat.le_of_ble_eq_true rfl) ?_
      refine e_asw4 (pc := 29) dX6_who_29 (Nat.le_of_ble_eq_true rfl) rfl ?_
      refine e_aload (pc := 31) dX6_who_31 rfl ?_
      refine e_csD (pc := 33) (sp_x_ours hk hL hS) dX6_who_33 kX6_179 rfl rfl (mc_CR_of (Nat.le_of_ble_eq_true rfl) (Nat.le_of_ble_eq_true rfl) (Nat.le_refl _) (Nat.le_refl _)) (Nat.le_of_ble_eq_true rfl) ?_
      refine e_lsw5 (pc := 36) dX6_who_36 (Nat.le_of_ble_eq_true rfl) rfl ?_
      refine e_iconst (v := -1) (pc := 38) dX6_who_38 (by decide) ?_
      refine e_isw7 (pc := 39) dX6_who_39 (Nat.le_of_ble_eq_true rfl) rfl ?_
      refine e_ldc2 (pc := 41) dX6_who_41 qX6_192 ?_
      refine e_lsw8 (pc := 44) dX6_who_44 (Nat.le_of_ble_eq_true rfl) rfl ?_
      refine e_iconst (v := 0) (pc := 46) dX6_who_46 (by decide) ?_
      refine e_isw10 (pc := 47) dX6_who_47 (Nat.le_of_ble_eq_true rfl) rfl ?_
      have e : xwho s a (sg (tl s)) k w = if w = 0 then (ybest (fun i => xabl (xmS s a (sg (tl s)) k (nI i) - xoS s a k)) (s 2).toNatClampNeg 0 (-1) (-1)).1.toInt64 else (ybest (fun i => xabl (xmS s a (sg (tl s)) k (nI i) - xoS s a k)) (s 2).toNatClampNeg 0 (-1) (-1)).2 := by unfold xwho; rw [if_neg (show ¬ ¬ xbw s a k = 0 from fun q => q c_7), if_neg (show ¬ mc_wi w 0 1 = false by rw [mc_b1.mp c_17]; decide)]
      rw [e, show xbw s a k = 0 from c_7]
      have hC := hO.2.1
      have tn := tnc hC.1
      exact lp_x_who (N := (s 2).toNatClampNeg) hk hL hS (nI_back hC.1) (by have := hC.2; omega) _ 0 (-1) (-1) u c h _ _ hO (by omega) rfl
    · skip
      refine e_ldc2 (pc := 20) dX6_who_20 qX6_147 ?_
      exact e_lret (pc := 23) dX6_who_23 rfl (Nat.le_refl _) (Nat.le_refl _) ⟨(by unfold xwho; rw [if_neg (show ¬ ¬ xbw s a k = 0 from fun q => q c_7), if_pos (mc_b0.mp c_17)]; try rfl), u, c, h, hO.2.2.2.2.2.1, rfl⟩
  · skip
    refine e_iloadn (pc := 10) dX6_who_10 rfl ?_
    refine e_i2l (pc := 11) dX6_who_11 ?_
    exact e_lret (pc := 12) dX6_who_12 rfl (Nat.le_refl _) (Nat.le_refl _) ⟨by unfold xwho; rw [if_pos (show ¬ xbw s a k = 0 from c_7)], u, c, h, hO.2.2.2.2.2.1, rfl⟩
theorem sp_x_who0 {s u m n : Nat → Int32} {a c b d : Nat → List Int32} {q : List (Option Nat)} {h : Nat} {z : mc_W} {w : Int32} {x0 : Int32} (hv : mc_wi x0 0 3 = false) : mc_D yX6_who cX6_who 13 (some .long) 6 [.ref 0, .int x0, .int w] (WW s a q u c h m b n d z) (some (.long (-2))) (WW s a q u c h m b n d z) := by
  refine mc_start (own := RX6) (ini := false) rfl (by decide +kernel) (fun h => by cases h) (Nat.le_of_ble_eq_true rfl) ?_
  show mc_E _ _ _ _ _ [some (.ref 0), some (.int x0), some (.int w), none, none, none, none, none, none, none, none, none, none] [] _ _ _
  refine e_aloadn (pc := 0) dX6_who_0 rfl ?_
  refine e_iloadn (pc := 1) dX6_who_1 rfl ?_
  refine e_cvD (pc := 2) (sp_x_refBook0 hv) dX6_who_2 kX6_168 rfl rfl rfl rfl rfl (mc_CR_of (Nat.le_of_ble_eq_true rfl) (Nat.le_of_ble_eq_true rfl) (Nat.le_refl _) (Nat.le_refl _)) (Nat.le_of_ble_eq_true rfl) ?_
  refine e_isn3 (pc := 5) dX6_who_5 (Nat.le_of_ble_eq_true rfl) rfl ?_
  refine e_iloadn (pc := 6) dX6_who_6 rfl ?_
  refine e_if_eq (pc := 7) dX6_who_7 (t := 13) (by decide) (fun c_7 => absurd c_7 (by decide)) (fun _ => ?_)
  refine e_iloadn (pc := 10) dX6_who_10 rfl ?_
  refine e_i2l (pc := 11) dX6_who_11 ?_
  exact e_lret (pc := 12) dX6_who_12 rfl (Nat.le_refl _) (Nat.le_refl _) ⟨rfl, rfl⟩
def xsmo (s : Nat → Int32) (a : Nat → List Int32) (sg : Nat → List Int32) (k : Nat) (j : Int32) (i : Nat) : Int64 := xabl (xmS s a sg k j - xoS s a k + (xmk s a sg j 0).toInt64 - (xmk s a sg j ((xrow s a k).getD i 0)).toInt64)
def xsm (s : Nat → Int32) (a : Nat → List Int32) (sg : Nat → List Int32) (k : Nat) (j w : Int32) : Int64 :=
  if ¬ xbwy s a k j = 0 then (xbwy s a k j).toInt64 else if mc_wi w 0 1 = false then -7
  else if w = 0 then (ybest (xsmo s a sg k j) (xrow s a k).length 0 (-1) (-1)).1.toInt64 else (ybest (xsmo s a sg k j) (xrow s a k).length 0 (-1) (-1)).2
theorem lp_x_smug {s u m n : Nat → Int32} {a b d : Nat → List Int32} {q : List (Option Nat)} {h : Nat} {z : mc_W} {c0 : Nat → List Int32} {K mm nu ba ye : Int32} {sg : Nat → List Int32} {k : Nat} {j w : Int32} {V : Int32 × Int64} {B : Int64} (hk : k < 4) (hL : xL a) (hS : xS s) (hc0 : xC c0) :
    ∀ (f i : Nat) (be : Int32) (le : Int64) (c : Nat → List Int32) (x13 x14 : Option Value), xHd q z h u c K mm nu ba ye sg → xKc c0 c → i + f = (xrow s a k).length → ybest (fun i => xabl (B - (hmk K mm nu ba ye sg ((xrow s a k).getD i 0)).toInt64)) f i be le = V →
      mc_E RX6 cX6_smuggled 15 (mc_JM (some .long) false 8 0 0 (fun r' w' => r' = some (.long (if w = 0 then V.1.toInt64 else V.2)) ∧ ∃ u1 c1 h1, xC c1 ∧ w' = (WW s a q u1 c1 h1 m b n d z))) 76 [some (.ref 0), some (.int (nI k)), some (.int j), some (.int w), some (.int 0), some (.ref (21 + 2 * k)), some (.ref 17), some (.long B), none, some (.int be), some (.long le), none, some (.int (nI i)), x13, x14] [] (WW s a q u c h m b n d z) 0 0 := by
  have hl40 := (xrow_len hk hL hS).2
  intro f
  induction f with
  | zero =>
    intro i be le c x13 x14 hH hk0 hi hV
    have e : i = (xrow s a k).length := by omega
    subst e
    simp only [ybest] at hV
    subst hV
    refine e_iload (pc := 76) dX6_smuggled_76 rfl ?_
    refine e_aload (pc := 78) dX6_smuggled_78 rfl ?_
    refine e_cvD (pc := 80) (sp_x_sizeR hk hL hS) dX6_smuggled_80 kX6_198 (WW_sh hk) rfl rfl rfl rfl (mc_CR_of (Nat.le_of_ble_eq_true rfl) (Nat.le_of_ble_eq_true rfl) (Nat.le_refl _) (Nat.le_refl _)) (Nat.le_of_ble_eq_true rfl) ?_
    refine e_icmp_ge (pc := 83) dX6_smuggled_83 (t := 135) (by decide) (fun _ => ?_) (fun c_83 => absurd (nI_le (Nat.le_refl _) (by omega)) c_83)
    refine e_iloadn (pc := 135) dX6_smuggled_135 rfl ?_
    refine e_if_ne (pc := 136) dX6_smuggled_136 (t := 145) (by decide) (fun c_136 => ?_) (fun c_136 => ?_)
    · skip
      refine e_lload (pc := 145) dX6_smuggled_145 rfl ?_
      exact e_lret (pc := 147) dX6_smuggled_147 rfl (Nat.le_refl _) (Nat.le_refl _) ⟨by rw [if_neg c_136], u, c, h, hH.C hk0 hc0, rfl⟩
    · skip
      refine e_iload (pc := 139) dX6_smuggled_139 rfl ?_
      refine e_i2l (pc := 141) dX6_smuggled_141 ?_
      refine e_goto (pc := 142) dX6_smuggled_142 (t := 147) (by decide) ?_
      exact e_lret (pc := 147) dX6_smuggled_147 rfl (Nat.le_refl _) (Nat.le_refl _) ⟨by rw [if_pos c_136], u, c, h, hH.C hk0 hc0, rfl⟩
  | succ f ih =>
    intro i be le c x13 x14 hH hk0 hi hV
    simp only [ybest] at hV
    have hi2 : i < (xrow s a k).length := by omega
    refine e_iload (pc := 76) dX6_smuggled_76 rfl ?_
    refine e_aload (pc := 78) dX6_smuggled_78 rfl ?_
    refine e_cvD (pc := 80) (sp_x_sizeR hk hL hS) dX6_smuggled_80 kX6_198 (WW_sh hk) rfl rfl rfl rfl (mc_CR_of (Nat.le_of_ble_eq_true rfl) (Nat.le_of_ble_eq_true rfl) (Nat.le_refl _) (Nat.le_refl _)) (Nat.le_of_ble_eq_true rfl) ?_
    refine e_icmp_ge (pc := 83) dX6_smuggled_83 (t := 135) (by decide) (fun c_83 => absurd c_83 (nI_ge hi2 (by omega))) (fun _ => ?_)
    refine e_lload (pc := 86) dX6_smuggled_86 rfl ?_
    refine e_aload (pc := 88) dX6_smuggled_88 rfl ?_
    refine e_aload (pc := 90) dX6_smuggled_90 rfl ?_
    refine e_iload (pc := 92) dX6_smuggled_92 rfl ?_
    refine e_cvD (pc := 94) (sp_x_atR hk hL hS hi2) dX6_smuggled_94 kX6_199 (WW_sh hk) rfl rfl rfl rfl (mc_CR_of (Nat.le_of_ble_eq_true rfl) (Nat.le_of_ble_eq_true rfl) (Nat.le_refl _) (Nat.le_refl _)) (Nat.le_of_ble_eq_true rfl) ?_
    refine e_cvX (pc := 97) (sp_x_makes hH) dX6_smuggled_97 kX6_157 rfl rfl rfl rfl rfl (mc_CR_of (Nat.le_of_ble_eq_true rfl) (Nat.le_of_ble_eq_true rfl) (Nat.le_refl _) (Nat.le_refl _)) (Nat.le_of_ble_eq_true rfl) (fun w1 hw1 => ?_)
    obtain ⟨c1, hH1, hk1, -, rfl⟩ := hw1
    refine e_i2l (pc := 100) dX6_smuggled_100 ?_
    refine e_lsub (pc := 101) dX6_smuggled_101 ?_
    refine e_absl (pc := 102) dX6_smuggled_102 mX6_183 (mc_JR_of (Nat.le_of_ble_eq_true rfl) (Nat.le_refl _) (Nat.le_refl _) (Nat.le_of_ble_eq_true rfl)) ?_
    refine e_topl (y := xabl (B - (hmk K mm nu ba ye sg ((xrow s a k).getD i 0)).toInt64)) rfl ?_
    refine e_lsw13 (pc := 105) dX6_smuggled_105 (Nat.le_of_ble_eq_true rfl) rfl ?_
    refine e_iload (pc := 107) dX6_smuggled_107 rfl ?_
    refine e_iconst (v := -1) (pc := 109) dX6_smuggled_109 (by decide) ?_
    refine e_icmp_eq (pc := 110) dX6_smuggled_110 (t := 121) (by decide) (fun c_110 => ?_) (fun c_110 => ?_)
    · skip
      refine e_iload (pc := 121) dX6_smuggled_121 rfl ?_
      refine e_isw9 (pc := 123) dX6_smuggled_123 (Nat.le_of_ble_eq_true rfl) rfl ?_
      refine e_lload (pc := 125) dX6_smuggled_125 rfl ?_
      refine e_lsw10 (pc := 127) dX6_smuggled_127 (Nat.le_of_ble_eq_true rfl) rfl ?_
      refine e_incC12 (pc := 129) dX6_smuggled_129 (nI_1 i) (Nat.le_of_ble_eq_true rfl) rfl ?_
      refine e_goto (pc := 132) dX6_smuggled_132 (t := 76) (by decide) ?_
      exact ih (i + 1) _ _ _ _ _ hH1 (hk0.trans hk1) (by omega) (by rw [← hV, if_pos (Or.inl c_110)])
    · skip
      refine e_lload (pc := 113) dX6_smuggled_113 rfl ?_
      refine e_lload (pc := 115) dX6_smuggled_115 rfl ?_
      refine e_lcmp (pc := 117) dX6_smuggled_117 ?_
      refine e_if_ge (pc := 118) dX6_smuggled_118 (t := 129) (by decide) (fun c_118 => ?_) (fun c_118 => ?_)
      · skip
        refine e_incC12 (pc := 129) dX6_smuggled_129 (nI_1 i) (Nat.le_of_ble_eq_true rfl) rfl ?_
        refine e_goto (pc := 132) dX6_smuggled_132 (t := 76) (by decide) ?_
        exact ih (i + 1) _ _ _ _ _ hH1 (hk0.trans hk1) (by omega) (by rw [← hV, if_neg (fun q => q.elim c_110 (fun r => mc_cnl_of c_118 r))])
      · skip
        refine e_iload (pc := 121) dX6_smuggled_121 rfl ?_
        refine e_isw9 (pc := 123) dX6_smuggled_123 (Nat.le_of_ble_eq_true rfl) rfl ?_
        refine e_lload (pc := 125) dX6_smuggled_125 rfl ?_
        refine e_lsw10 (pc := 127) dX6_smuggled_127 (Nat.le_of_ble_eq_true rfl) rfl ?_
        refine e_incC12 (pc := 129) dX6_smuggled_129 (nI_1 i) (Nat.le_of_ble_eq_true rfl) rfl ?_
        refine e_goto (pc := 132) dX6_smuggled_132 (t := 76) (by decide) ?_
        exact ih (i + 1) _ _ _ _ _ hH1 (hk0.trans hk1) (by omega) (by rw [← hV, if_pos (Or.inr (mc_clt_of c_118))])
theorem sp_x_smug {s u m n : Nat → Int32} {a c b d : Nat → List Int32} {q : List (Option Nat)} {h : Nat} {z : mc_W} {T : Nat} {sg : Nat → Nat → List Int32} {k : Nat} (hk : k < 4) (hS : xS s) {j w : Int32} (hO : xOK s a q c z T sg) : mc_T yX6_smuggled cX6_smuggled 15 (some .long) 8 [.ref 0, .int (nI k), .int j, .int w] (WW s a q u c h m b n d z) (some (.long (xsm s a (sg (tl s)) k j w))) (fun w1 => ∃ u1 c1 h1, xC c1 ∧ w1 = (WW s a q u1 c1 h1 m b n d z)) := by
  refine mc_start (own := RX6) (ini := false) rfl (by decide +kernel) (fun h => by cases h) (Nat.le_of_ble_eq_true rfl) ?_
  show mc_E _ _ _ _ _ [some (.ref 0), some (.int (nI k)), some (.int j), some (.int w), none, none, none, none, none, none, none, none, none, none, none] [] _ _ _
  have hL := hO.1
  have hl40 := (xrow_len hk hL hS).2
  refine e_aloadn (pc := 0) dX6_smuggled_0 rfl ?_
  refine e_iloadn (pc := 1) dX6_smuggled_1 rfl ?_
  refine e_iloadn (pc := 2) dX6_smuggled_2 rfl ?_
  refine e_cvD (pc := 3) (sp_x_refBookBy hk hL hS hO.2.1) dX6_smuggled_3 kX6_194 rfl rfl rfl rfl rfl (mc_CR_of (Nat.le_of_ble_eq_true rfl) (Nat.le_of_ble_eq_true rfl) (Nat.le_refl _) (Nat.le_refl _)) (Nat.le_of_ble_eq_true rfl) ?_
  refine e_isw4 (pc := 6) dX6_smuggled_6 (Nat.le_of_ble_eq_true rfl) rfl ?_
  refine e_iload (pc := 8) dX6_smuggled_8 rfl ?_
  refine e_if_eq (pc := 10) dX6_smuggled_10 (t := 17) (by decide) (fun c_10 => ?_) (fun c_10 => ?_)
  · skip
    refine e_iloadn (pc := 17) dX6_smuggled_17 rfl ?_
    refine e_csD (pc := 18) (sp_isTwofold) dX6_smuggled_18 kX6_160 rfl rfl (mc_CR_of (Nat.le_of_ble_eq_true rfl) (Nat.le_of_ble_eq_true rfl) (Nat.le_refl _) (Nat.le_refl _)) (Nat.le_of_ble_eq_true rfl) ?_
    refine e_if_ne (pc := 21) dX6_smuggled_21 (t := 28) (by decide) (fun c_21 => ?_) (fun c_21 => ?_)
    · skip
      refine e_aloadn (pc := 28) dX6_smuggled_28 rfl ?_
      refine e_iloadn (pc := 29) dX6_smuggled_29 rfl ?_
      refine e_cvD (pc := 30) (sp_x_sheetAt hk) dX6_smuggled_30 kX6_171 rfl rfl rfl rfl rfl (mc_CR_of (Nat.le_of_ble_eq_true rfl) (Nat.le_of_ble_eq_true rfl) (Nat.le_refl _) (Nat.le_refl _)) (Nat.le_of_ble_eq_true rfl) ?_
      refine e_asw5 (pc := 33) dX6_smuggled_33 (Nat.le_of_ble_eq_true rfl) rfl ?_
      refine e_aloadn (pc := 35) dX6_smuggled_35 rfl ?_
      refine e_iloadn (pc := 36) dX6_smuggled_36 rfl ?_
      refine e_cvX (pc := 37) (sp_x_handOf hO (xbwy_0 c_10).2) dX6_smuggled_37 kX6_121 rfl rfl rfl rfl rfl (mc_CR_of (Nat.le_of_ble_eq_true rfl) (Nat.le_of_ble_eq_true rfl) (Nat.le_refl _) (Nat.le_refl _)) (Nat.le_of_ble_eq_true rfl) (fun w1 hw1 => ?_)
      obtain ⟨u1, c1, hH, hk1, rfl⟩ := hw1
      refine e_asw6 (pc := 40) dX6_smuggled_40 (Nat.le_of_ble_eq_true rfl) rfl ?_
      refine e_aload (pc := 42) dX6_smuggled_42 rfl ?_
      refine e_aload (pc := 44) dX6_smuggled_44 rfl ?_
      refine e_csX (pc := 46) (sp_x_made hH hk hL hS) dX6_smuggled_46 kX6_175 rfl rfl (mc_CR_of (Nat.le_of_ble_eq_true rfl) (Nat.le_of_ble_eq_true rfl) (Nat.le_refl _) (Nat.le_refl _)) (Nat.le_of_ble_eq_true rfl) (fun w1 hw1 => ?_)
      obtain ⟨c2, hH2, hk2, rfl⟩ := hw1
      refine e_aload (pc := 49) dX6_smuggled_49 rfl ?_
      refine e_csD (pc := 51) (sp_x_ours hk hL hS) dX6_smuggled_51 kX6_179 rfl rfl (mc_CR_of (Nat.le_of_ble_eq_true rfl) (Nat.le_of_ble_eq_true rfl) (Nat.le_refl _) (Nat.le_refl _)) (Nat.le_of_ble_eq_true rfl) ?_
      refine e_lsub (pc := 54) dX6_smuggled_54 ?_
      refine e_aload (pc := 55) dX6_smuggled_55 rfl ?_
      refine e_iconst (v := 0) (pc := 57) dX6_smuggled_57 (by decide) ?_
      refine e_cvX (pc := 58) (sp_x_makes hH2) dX6_smuggled_58 kX6_157 rfl rfl rfl rfl rfl (mc_CR_of (Nat.le_of_ble_eq_true rfl) (Nat.le_of_ble_eq_true rfl) (Nat.le_refl _) (Nat.le_refl _)) (Nat.le_of_ble_eq_true rfl) (fun w1 hw1 => ?_)
      obtain ⟨c3, hH3, hk3, -, rfl⟩ := hw1
      refine e_i2l (pc := 61) dX6_smuggled_61 ?_
      refine e_ladd (pc := 62) dX6_smuggled_62 ?_
      refine e_lsw7 (pc := 63) dX6_smuggled_63 (Nat.le_of_ble_eq_true rfl) rfl ?_
      refine e_iconst (v := -1) (pc := 65) dX6_smuggled_65 (by decide) ?_
      refine e_isw9 (pc := 66) dX6_smuggled_66 (Nat.le_of_ble_eq_true rfl) rfl ?_
      refine e_ldc2 (pc := 68) dX6_smuggled_68 qX6_192 ?_
      refine e_lsw10 (pc := 71) dX6_smuggled_71 (Nat.le_of_ble_eq_true rfl) rfl ?_
      refine e_iconst (v := 0) (pc := 73) dX6_smuggled_73 (by decide) ?_
      refine e_isw12 (pc := 74) dX6_smuggled_74 (Nat.le_of_ble_eq_true rfl) rfl ?_
      have e : xsm s a (sg (tl s)) k j w = if w = 0 then (ybest (xsmo s a (sg (tl s)) k j) (xrow s a k).length 0 (-1) (-1)).1.toInt64 else (ybest (xsmo s a (sg (tl s)) k j) (xrow s a k).length 0 (-1) (-1)).2 := by unfold xsm; rw [if_neg (show ¬ ¬ xbwy s a k j = 0 from fun q => q c_10), if_neg (show ¬ mc_wi w 0 1 = false by rw [mc_b1.mp c_21]; decide)]
      rw [e, show xbwy s a k j = 0 from c_10]
      exact lp_x_smug hk hL hS hO.2.2.2.2.2.1 (xrow s a k).length 0 (-1) (-1) c3 _ _ hH3 ((hk1.trans hk2).trans hk3) (by omega) rfl
    · skip
      refine e_ldc2 (pc := 24) dX6_smuggled_24 qX6_147 ?_
      exact e_lret (pc := 27) dX6_smuggled_27 rfl (Nat.le_refl _) (Nat.le_refl _) ⟨(by unfold xsm; rw [if_neg (show ¬ ¬ xbwy s a k j = 0 from fun q => q c_10), if_pos (mc_b0.mp c_21)]; try rfl), u, c, h, hO.2.2.2.2.2.1, rfl⟩
  · skip
    refine e_iload (pc := 13) dX6_smuggled_13 rfl ?_
    refine e_i2l (pc := 15) dX6_smuggled_15 ?_
    exact e_lret (pc := 16) dX6_smuggled_16 rfl (Nat.le_refl _) (Nat.le_refl _) ⟨by unfold xsm; rw [if_pos (show ¬ xbwy s a k j = 0 from c_10)], u, c, h, hO.2.2.2.2.2.1, rfl⟩
theorem sp_x_smug0 {s u m n : Nat → Int32} {a c b d : Nat → List Int32} {q : List (Option Nat)} {h : Nat} {z : mc_W} {j w : Int32} {x0 : Int32} (hv : mc_wi x0 0 3 = false) : mc_D yX6_smuggled cX6_smuggled 15 (some .long) 7 [.ref 0, .int x0, .int j, .int w] (WW s a q u c h m b n d z) (some (.long (-2))) (WW s a q u c h m b n d z) := by
  refine mc_start (own := RX6) (ini := false) rfl (by decide +kernel) (fun h => by cases h) (Nat.le_of_ble_eq_true rfl) ?_
  show mc_E _ _ _ _ _ [some (.ref 0), some (.int x0), some (.int j), some (.int w), none, none, none, none, none, none, none, none, none, none, none] [] _ _ _
  refine e_aloadn (pc := 0) dX6_smuggled_0 rfl ?_
  refine e_iloadn (pc := 1) dX6_smuggled_1 rfl ?_
  refine e_iloadn (pc := 2) dX6_smuggled_2 rfl ?_
  refine e_cvD (pc := 3) (sp_x_refBookBy0 hv) dX6_smuggled_3 kX6_194 rfl rfl rfl rfl rfl (mc_CR_of (Nat.le_of_ble_eq_true rfl) (Nat.le_of_ble_eq_true rfl) (Nat.le_refl _) (Nat.le_refl _)) (Nat.le_of_ble_eq_true rfl) ?_
  refine e_isw4 (pc := 6) dX6_smuggled_6 (Nat.le_of_ble_eq_true rfl) rfl ?_
  refine e_iload (pc := 8) dX6_smuggled_8 rfl ?_
  refine e_if_eq (pc := 10) dX6_smuggled_10 (t := 17) (by decide) (fun c_10 => absurd c_10 (by decide)) (fun _ => ?_)
  refine e_iload (pc := 13) dX6_smuggled_13 rfl ?_
  refine e_i2l (pc := 15) dX6_smuggled_15 ?_
  exact e_lret (pc := 16) dX6_smuggled_16 rfl (Nat.le_refl _) (Nat.le_refl _) ⟨rfl, rfl⟩
theorem sp_x_liveH {s u m n : Nat → Int32} {a c b d : Nat → List Int32} {q : List (Option Nat)} {h : Nat} {z : mc_W} {K mo nu ba ye : Int32} {sg : Nat → List Int32} {bb yy : Int32} {h1 : Nat} {sg1 : Nat → List Int32} (hH : xHd q z h u c K mo nu ba ye sg) (hX1 : ∃ cd sa ca, xTz q z h1 cd sa ca ∧ xTr cd sa ca sg1) (hb1 : 2 ≤ bb.toInt ∧ bb.toInt ≤ 12) : mc_T yX1_liveBy cX1_liveBy 4 none 1 [.ref 17, .int bb, .int yy, .ref h1] (WW s a q u c h m b n d z) none (fun w1 => ∃ c1, xHd q z h1 u c1 K mo nu bb yy sg1 ∧ xKc c c1 ∧ w1 = (WW s a q u c1 h1 m b n d z)) := by
  refine mc_start (own := RX1) (ini := false) rfl (by decide +kernel) (fun h => by cases h) (Nat.le_of_ble_eq_true rfl) ?_
  show mc_E _ _ _ _ _ [some (.ref 17), some (.int bb), some (.int yy), some (.ref h1)] [] _ _ _
  obtain ⟨⟨cd, sa, ca, hX, hR⟩, hK, ⟨x2, x3, hc3⟩, h48, h40, hK5, hm9, hb12⟩ := id hH
  refine e_aloadn (pc := 0) dX1_liveBy_0 rfl ?_
  refine e_get (pc := 1) dX1_liveBy_1 fX1_11 rfl rfl ?_
  refine e_iconst (v := 4) (pc := 4) dX1_liveBy_4 (by decide) ?_
  refine e_iloadn (pc := 5) dX1_liveBy_5 rfl ?_
  refine ast_names (pc := 6) dX1_liveBy_6 (vi6 hc3 (by decide +kernel)) ?_
  refine e_aloadn (pc := 7) dX1_liveBy_7 rfl ?_
  refine e_get (pc := 8) dX1_liveBy_8 fX1_11 rfl rfl ?_
  refine e_iconst (v := 5) (pc := 11) dX1_liveBy_11 (by decide) ?_
  refine e_iloadn (pc := 12) dX1_liveBy_12 rfl ?_
  refine ast_names (pc := 13) dX1_liveBy_13 (by show vp_in _ ((c 3).set _ _).length; rw [List.length_set]; exact vi6 hc3 (by decide +kernel)) ?_
  refine e_aloadn (pc := 14) dX1_liveBy_14 rfl ?_
  refine e_aloadn (pc := 15) dX1_liveBy_15 rfl ?_
  refine put_hand_law (pc := 16) dX1_liveBy_16 pX1_21 ?_
  exact e_vret (pc := 19) dX1_liveBy_19 rfl (Nat.le_refl _) (Nat.le_refl _) ⟨rfl, mc_up c 3 [mo, nu, x2, x3, bb, yy], ⟨hX1, hK, ⟨x2, x3, rfl⟩, h48, h40, hK5, hm9, hb1⟩, ⟨rfl, rfl, rfl⟩, by rw [up_up, up_at, hc3]; rfl⟩
theorem sp_x_beH {s u m n : Nat → Int32} {a c b d : Nat → List Int32} {q : List (Option Nat)} {h : Nat} {z : mc_W} {K mo nu ba ye : Int32} {sg : Nat → List Int32} {nn KK mw : Int32} (hH : xHd q z h u c K mo nu ba ye sg) (hK1 : 0 ≤ KK.toInt ∧ KK.toInt ≤ 5) (hm1 : 0 ≤ mw.toInt ∧ mw.toInt ≤ 9) : mc_T yX1_become cX1_become 4 none 1 [.ref 17, .int nn, .int KK, .int mw] (WW s a q u c h m b n d z) none (fun w1 => ∃ u1 c1, xHd q z h u1 c1 KK mw nn ba ye sg ∧ xKc c c1 ∧ w1 = (WW s a q u1 c1 h m b n d z)) := by
  refine mc_start (own := RX1) (ini := false) rfl (by decide +kernel) (fun h => by cases h) (Nat.le_of_ble_eq_true rfl) ?_
  show mc_E _ _ _ _ _ [some (.ref 17), some (.int nn), some (.int KK), some (.int mw)] [] _ _ _
  obtain ⟨⟨cd, sa, ca, hX, hR⟩, hK, ⟨x2, x3, hc3⟩, h48, h40, hK5, hm9, hb12⟩ := id hH
  refine e_aloadn (pc := 0) dX1_become_0 rfl ?_
  refine e_iloadn (pc := 1) dX1_become_1 rfl ?_
  refine put_hand_kind (pc := 2) dX1_become_2 pX1_25 ?_
  refine e_aloadn (pc := 5) dX1_become_5 rfl ?_
  refine e_get (pc := 6) dX1_become_6 fX1_11 rfl rfl ?_
  refine e_iconst (v := 1) (pc := 9) dX1_become_9 (by decide) ?_
  refine e_iloadn (pc := 10) dX1_become_10 rfl ?_
  refine ast_names (pc := 11) dX1_become_11 (vi6 hc3 (by decide +kernel)) ?_
  refine e_aloadn (pc := 12) dX1_become_12 rfl ?_
  refine e_get (pc := 13) dX1_become_13 fX1_11 rfl rfl ?_
  refine e_iconst (v := 0) (pc := 16) dX1_become_16 (by decide) ?_
  refine e_iloadn (pc := 17) dX1_become_17 rfl ?_
  refine ast_names (pc := 18) dX1_become_18 (by show vp_in _ ((c 3).set _ _).length; rw [List.length_set]; exact vi6 hc3 (by decide +kernel)) ?_
  exact e_vret (pc := 19) dX1_become_19 rfl (Nat.le_refl _) (Nat.le_refl _) ⟨rfl, mc_up u 6 KK, mc_up c 3 [mw, nn, x2, x3, ba, ye], ⟨⟨cd, sa, ca, hX, hR⟩, rfl, ⟨x2, x3, rfl⟩, h48, h40, hK1, hm1, hb12⟩, ⟨rfl, rfl, rfl⟩, by rw [up_up, up_at, hc3]; rfl⟩
def xffo (K mo nu ye : Int32) (sg : Nat → List Int32) (row : List Int32) (i : Nat) : Int32 := row.foldl (fun S v => S + nI (hwr K mo nu (nI i) ye sg v).length) 0
def xshort (s : Nat → Int32) (a : Nat → List Int32) (sg : Nat → List Int32) (k : Nat) (j w : Int32) : Int32 :=
  if ¬ xbwy s a k j = 0 then xbwy s a k j else if mc_wi w 0 1 = false then -7
  else if w = 0 then (yfew (xffo (gt (a 0) j) (gt (a 1) j) j (s 1) sg (xrow s a k)) 11 2 (-1) (-1)).1 else (yfew (xffo (gt (a 0) j) (gt (a 1) j) j (s 1) sg (xrow s a k)) 11 2 (-1) (-1)).2
theorem lp_x_short {s m n : Nat → Int32} {a b d : Nat → List Int32} {q : List (Option Nat)}  {z : mc_W} {c0 : Nat → List Int32} {T : Nat} {sg : Nat → Nat → List Int32} {K mm nu : Int32} {k : Nat} {j w : Int32} {V : Int32 × Int32} (hO : xOK s a q c0 z T sg) (hk : k < 4) (hS : xS s) (hN : ∀ i, i < (xrow s a k).length → mc_wi ((xrow s a k).getD i 0) 0 99999 = true) :
    ∀ (f i : Nat) (be le ba : Int32) (u : Nat → Int32) (c : Nat → List Int32) (x10 : Option Value), xHd q z (xad (tl s)) u c K mm nu ba (s 1) (sg (tl s)) → xKc c0 c → 2 ≤ i → i + f = 13 → yfew (xffo K mm nu (s 1) (sg (tl s)) (xrow s a k)) f i be le = V →
      mc_E RX6 cX6_shortest 11 (mc_JM (some .int) false 8 0 0 (fun r' w' => r' = some (.int (if w = 0 then V.1 else V.2)) ∧ ∃ u1 c1 h1, xC c1 ∧ w' = (WW s a q u1 c1 h1 m b n d z))) 49 [some (.ref 0), some (.int (nI k)), some (.int j), some (.int w), some (.int 0), some (.ref (21 + 2 * k)), some (.ref 17), some (.int be), some (.int le), some (.int (nI i)), x10] [] (WW s a q u c (xad (tl s)) m b n d z) 0 0 := by
  have hL := hO.1
  obtain ⟨-, -, -, hT, hs4, hc0, -⟩ := id hO
  have t4 := tnc hs4.1
  have e4 : s 4 = nI (tl s) := nI_back hs4.1
  have l4 : tl s < T := by unfold tl; omega
  intro f
  induction f with
  | zero =>
    intro i be le ba u c x10 hH hk0 h2 hi hV
    have e : i = 13 := by omega
    subst e
    simp only [yfew] at hV
    subst hV
    refine e_iload (pc := 49) dX6_shortest_49 rfl ?_
    refine e_bipush (v := 12) (pc := 51) dX6_shortest_51 (by decide) ?_
    refine e_icmp_gt (pc := 53) dX6_shortest_53 (t := 111) (by decide) (fun _ => ?_) (fun c_53 => absurd (by decide) c_53)
    refine e_iloadn (pc := 111) dX6_shortest_111 rfl ?_
    refine e_if_ne (pc := 112) dX6_shortest_112 (t := 120) (by decide) (fun c_112 => ?_) (fun c_112 => ?_)
    · skip
      refine e_iload (pc := 120) dX6_shortest_120 rfl ?_
      exact e_iret (pc := 122) dX6_shortest_122 rfl (Nat.le_refl _) (Nat.le_refl _) ⟨by rw [if_neg c_112], u, c, _, hH.C hk0 hc0, rfl⟩
    · skip
      refine e_iload (pc := 115) dX6_shortest_115 rfl ?_
      refine e_goto (pc := 117) dX6_shortest_117 (t := 122) (by decide) ?_
      exact e_iret (pc := 122) dX6_shortest_122 rfl (Nat.le_refl _) (Nat.le_refl _) ⟨by rw [if_pos c_112], u, c, _, hH.C hk0 hc0, rfl⟩
  | succ f ih =>
    intro i be le ba u c x10 hH hk0 h2 hi hV
    simp only [yfew] at hV
    have hi2 : i < 13 := by omega
    have hi0 : 2 ≤ (nI i).toInt ∧ (nI i).toInt ≤ 12 := by rw [nI_toInt (by omega)]; omega
    refine e_iload (pc := 49) dX6_shortest_49 rfl ?_
    refine e_bipush (v := 12) (pc := 51) dX6_shortest_51 (by decide) ?_
    refine e_icmp_gt (pc := 53) dX6_shortest_53 (t := 111) (by decide) (fun c_53 => absurd c_53 (fun q => absurd (nI_le (a := i) (b := 12) (by omega) (by decide)) (Int32.not_le.mpr q))) (fun _ => ?_)
    refine e_aload (pc := 56) dX6_shortest_56 rfl ?_
    refine e_iload (pc := 58) dX6_shortest_58 rfl ?_
    refine e_aloadn (pc := 60) dX6_shortest_60 rfl ?_
    refine e_get (pc := 61) dX6_shortest_61 fX6_13 rfl rfl ?_
    refine e_aloadn (pc := 64) dX6_shortest_64 rfl ?_
    refine e_aloadn (pc := 65) dX6_shortest_65 rfl ?_
    refine e_get (pc := 66) dX6_shortest_66 fX6_79 rfl rfl ?_
    refine e_cvD (pc := 69) (sp_x_textAt hT e4 l4) dX6_shortest_69 kX6_216 rfl rfl rfl rfl rfl (mc_CR_of (Nat.le_of_ble_eq_true rfl) (Nat.le_of_ble_eq_true rfl) (Nat.le_refl _) (Nat.le_refl _)) (Nat.le_of_ble_eq_true rfl) ?_
    refine e_cvY (pc := 72) (sp_x_liveH (bb := nI i) (yy := s 1) (h1 := xad (tl s)) (sg1 := (sg (tl s))) hH (hT.2.2 _ l4).2 hi0) dX6_shortest_72 kX6_220 rfl rfl rfl rfl rfl (mc_CR_of (Nat.le_of_ble_eq_true rfl) (Nat.le_of_ble_eq_true rfl) (Nat.le_refl _) (Nat.le_refl _)) (Nat.le_of_ble_eq_true rfl) (fun w1 hw1 => ?_)
    obtain ⟨c1, hH1, hk1, rfl⟩ := hw1
    refine e_aload (pc := 75) dX6_shortest_75 rfl ?_
    refine e_aload (pc := 77) dX6_shortest_77 rfl ?_
    refine e_csX (pc := 79) (sp_x_ffor hH1 hk hL hS hN) dX6_shortest_79 kX6_224 rfl rfl (mc_CR_of (Nat.le_of_ble_eq_true rfl) (Nat.le_of_ble_eq_true rfl) (Nat.le_refl _) (Nat.le_refl _)) (Nat.le_of_ble_eq_true rfl) (fun w1 hw1 => ?_)
    obtain ⟨u2, c2, hH2, hk2, rfl⟩ := hw1
    refine e_top (y := xffo K mm nu (s 1) (sg (tl s)) (xrow s a k) i) rfl ?_
    refine e_isw10 (pc := 82) dX6_shortest_82 (Nat.le_of_ble_eq_true rfl) rfl ?_
    refine e_iload (pc := 84) dX6_shortest_84 rfl ?_
    refine e_iconst (v := -1) (pc := 86) dX6_shortest_86 (by decide) ?_
    refine e_icmp_eq (pc := 87) dX6_shortest_87 (t := 97) (by decide) (fun c_87 => ?_) (fun c_87 => ?_)
    · skip
      refine e_iload (pc := 97) dX6_shortest_97 rfl ?_
      refine e_isw7 (pc := 99) dX6_shortest_99 (Nat.le_of_ble_eq_true rfl) rfl ?_
      refine e_iload (pc := 101) dX6_shortest_101 rfl ?_
      refine e_isw8 (pc := 103) dX6_shortest_103 (Nat.le_of_ble_eq_true rfl) rfl ?_
      refine e_incC9 (pc := 105) dX6_shortest_105 (nI_1 i) (Nat.le_of_ble_eq_true rfl) rfl ?_
      refine e_goto (pc := 108) dX6_shortest_108 (t := 49) (by decide) ?_
      exact ih (i + 1) _ _ _ _ _ _ hH2 ((hk0.trans hk1).trans hk2) (by omega) (by omega) (by rw [← hV, if_pos (Or.inl c_87)])
    · skip
      refine e_iload (pc := 90) dX6_shortest_90 rfl ?_
      refine e_iload (pc := 92) dX6_shortest_92 rfl ?_
      refine e_icmp_ge (pc := 94) dX6_shortest_94 (t := 105) (by decide) (fun c_94 => ?_) (fun c_94 => ?_)
      · skip
        refine e_incC9 (pc := 105) dX6_shortest_105 (nI_1 i) (Nat.le_of_ble_eq_true rfl) rfl ?_
        refine e_goto (pc := 108) dX6_shortest_108 (t := 49) (by decide) ?_
        exact ih (i + 1) _ _ _ _ _ _ hH2 ((hk0.trans hk1).trans hk2) (by omega) (by omega) (by rw [← hV, if_neg (fun q => q.elim c_87 (fun r => absurd r (Int32.not_lt.mpr c_94)))])
      · skip
        refine e_iload (pc := 97) dX6_shortest_97 rfl ?_
        refine e_isw7 (pc := 99) dX6_shortest_99 (Nat.le_of_ble_eq_true rfl) rfl ?_
        refine e_iload (pc := 101) dX6_shortest_101 rfl ?_
        refine e_isw8 (pc := 103) dX6_shortest_103 (Nat.le_of_ble_eq_true rfl) rfl ?_
        refine e_incC9 (pc := 105) dX6_shortest_105 (nI_1 i) (Nat.le_of_ble_eq_true rfl) rfl ?_
        refine e_goto (pc := 108) dX6_shortest_108 (t := 49) (by decide) ?_
        exact ih (i + 1) _ _ _ _ _ _ hH2 ((hk0.trans hk1).trans hk2) (by omega) (by omega) (by rw [← hV, if_pos (Or.inr (Int32.not_le.mp c_94))])
theorem sp_x_short {s u m n : Nat → Int32} {a c b d : Nat → List Int32} {q : List (Option Nat)} {h : Nat} {z : mc_W} {T : Nat} {sg : Nat → Nat → List Int32} {k : Nat} (hk : k < 4) (hS : xS s) {j w : Int32} (hO : xOK s a q c z T sg) : mc_T yX6_shortest cX6_shortest 11 (some .int) 8 [.ref 0, .int (nI k), .int j, .int w] (WW s a q u c h m b n d z) (some (.int (xshort s a (sg (tl s)) k j w))) (fun w1 => ∃ u1 c1 h1, xC c1 ∧ w1 = (WW s a q u1 c1 h1 m b n d z)) := by
  refine mc_start (own := RX6) (ini := false) rfl (by decide +kernel) (fun h => by cases h) (Nat.le_of_ble_eq_true rfl) ?_
  show mc_E _ _ _ _ _ [some (.ref 0), some (.int (nI k)), some (.int j), some (.int w), none, none, none, none, none, none, none] [] _ _ _
  have hL := hO.1
  have hl40 := (xrow_len hk hL hS).2
  refine e_aloadn (pc := 0) dX6_shortest_0 rfl ?_
  refine e_iloadn (pc := 1) dX6_shortest_1 rfl ?_
  refine e_iloadn (pc := 2) dX6_shortest_2 rfl ?_
  refine e_cvD (pc := 3) (sp_x_refBookBy hk hL hS hO.2.1) dX6_shortest_3 kX6_194 rfl rfl rfl rfl rfl (mc_CR_of (Nat.le_of_ble_eq_true rfl) (Nat.le_of_ble_eq_true rfl) (Nat.le_refl _) (Nat.le_refl _)) (Nat.le_of_ble_eq_true rfl) ?_
  refine e_isw4 (pc := 6) dX6_shortest_6 (Nat.le_of_ble_eq_true rfl) rfl ?_
  refine e_iload (pc := 8) dX6_shortest_8 rfl ?_
  refine e_if_eq (pc := 10) dX6_shortest_10 (t := 16) (by decide) (fun c_10 => ?_) (fun c_10 => ?_)
  · skip
    refine e_iloadn (pc := 16) dX6_shortest_16 rfl ?_
    refine e_csD (pc := 17) (sp_isTwofold) dX6_shortest_17 kX6_160 rfl rfl (mc_CR_of (Nat.le_of_ble_eq_true rfl) (Nat.le_of_ble_eq_true rfl) (Nat.le_refl _) (Nat.le_refl _)) (Nat.le_of_ble_eq_true rfl) ?_
    refine e_if_ne (pc := 20) dX6_shortest_20 (t := 26) (by decide) (fun c_20 => ?_) (fun c_20 => ?_)
    · skip
      refine e_aloadn (pc := 26) dX6_shortest_26 rfl ?_
      refine e_iloadn (pc := 27) dX6_shortest_27 rfl ?_
      refine e_cvD (pc := 28) (sp_x_sheetAt hk) dX6_shortest_28 kX6_171 rfl rfl rfl rfl rfl (mc_CR_of (Nat.le_of_ble_eq_true rfl) (Nat.le_of_ble_eq_true rfl) (Nat.le_refl _) (Nat.le_refl _)) (Nat.le_of_ble_eq_true rfl) ?_
      refine e_asw5 (pc := 31) dX6_shortest_31 (Nat.le_of_ble_eq_true rfl) rfl ?_
      refine e_aloadn (pc := 33) dX6_shortest_33 rfl ?_
      refine e_iloadn (pc := 34) dX6_shortest_34 rfl ?_
      refine e_cvX (pc := 35) (sp_x_handOf hO (xbwy_0 c_10).2) dX6_shortest_35 kX6_121 rfl rfl rfl rfl rfl (mc_CR_of (Nat.le_of_ble_eq_true rfl) (Nat.le_of_ble_eq_true rfl) (Nat.le_refl _) (Nat.le_refl _)) (Nat.le_of_ble_eq_true rfl) (fun w1 hw1 => ?_)
      obtain ⟨u1, c1, hH, hk1, rfl⟩ := hw1
      refine e_asw6 (pc := 38) dX6_shortest_38 (Nat.le_of_ble_eq_true rfl) rfl ?_
      refine e_iconst (v := -1) (pc := 40) dX6_shortest_40 (by decide) ?_
      refine e_isw7 (pc := 41) dX6_shortest_41 (Nat.le_of_ble_eq_true rfl) rfl ?_
      refine e_iconst (v := -1) (pc := 43) dX6_shortest_43 (by decide) ?_
      refine e_isw8 (pc := 44) dX6_shortest_44 (Nat.le_of_ble_eq_true rfl) rfl ?_
      refine e_iconst (v := 2) (pc := 46) dX6_shortest_46 (by decide) ?_
      refine e_isw9 (pc := 47) dX6_shortest_47 (Nat.le_of_ble_eq_true rfl) rfl ?_
      have e : xshort s a (sg (tl s)) k j w = if w = 0 then (yfew (xffo (gt (a 0) j) (gt (a 1) j) j (s 1) (sg (tl s)) (xrow s a k)) 11 2 (-1) (-1)).1 else (yfew (xffo (gt (a 0) j) (gt (a 1) j) j (s 1) (sg (tl s)) (xrow s a k)) 11 2 (-1) (-1)).2 := by unfold xshort; rw [if_neg (show ¬ ¬ xbwy s a k j = 0 from fun q => q c_10), if_neg (show ¬ mc_wi w 0 1 = false by rw [mc_b1.mp c_20]; decide)]
      rw [e, show xbwy s a k j = 0 from c_10]
      exact lp_x_short hO hk hS (xbw_num (xbwy_0 c_10).1) 11 2 (-1) (-1) _ u1 c1 _ hH hk1 (by omega) (by omega) rfl
    · skip
      refine e_bipush (v := -7) (pc := 23) dX6_shortest_23 (by decide) ?_
      exact e_iret (pc := 25) dX6_shortest_25 rfl (Nat.le_refl _) (Nat.le_refl _) ⟨(by unfold xshort; rw [if_neg (show ¬ ¬ xbwy s a k j = 0 from fun q => q c_10), if_pos (mc_b0.mp c_20)]; try rfl), u, c, h, hO.2.2.2.2.2.1, rfl⟩
  · skip
    refine e_iload (pc := 13) dX6_shortest_13 rfl ?_
    exact e_iret (pc := 15) dX6_shortest_15 rfl (Nat.le_refl _) (Nat.le_refl _) ⟨by unfold xshort; rw [if_pos (show ¬ xbwy s a k j = 0 from c_10)], u, c, h, hO.2.2.2.2.2.1, rfl⟩
theorem sp_x_short0 {s u m n : Nat → Int32} {a c b d : Nat → List Int32} {q : List (Option Nat)} {h : Nat} {z : mc_W} {j w : Int32} {x0 : Int32} (hv : mc_wi x0 0 3 = false) : mc_D yX6_shortest cX6_shortest 11 (some .int) 7 [.ref 0, .int x0, .int j, .int w] (WW s a q u c h m b n d z) (some (.int (-2))) (WW s a q u c h m b n d z) := by
  refine mc_start (own := RX6) (ini := false) rfl (by decide +kernel) (fun h => by cases h) (Nat.le_of_ble_eq_true rfl) ?_
  show mc_E _ _ _ _ _ [some (.ref 0), some (.int x0), some (.int j), some (.int w), none, none, none, none, none, none, none] [] _ _ _
  refine e_aloadn (pc := 0) dX6_shortest_0 rfl ?_
  refine e_iloadn (pc := 1) dX6_shortest_1 rfl ?_
  refine e_iloadn (pc := 2) dX6_shortest_2 rfl ?_
  refine e_cvD (pc := 3) (sp_x_refBookBy0 hv) dX6_shortest_3 kX6_194 rfl rfl rfl rfl rfl (mc_CR_of (Nat.le_of_ble_eq_true rfl) (Nat.le_of_ble_eq_true rfl) (Nat.le_refl _) (Nat.le_refl _)) (Nat.le_of_ble_eq_true rfl) ?_
  refine e_isw4 (pc := 6) dX6_shortest_6 (Nat.le_of_ble_eq_true rfl) rfl ?_
  refine e_iload (pc := 8) dX6_shortest_8 rfl ?_
  refine e_if_eq (pc := 10) dX6_shortest_10 (t := 16) (by decide) (fun c_10 => absurd c_10 (by decide)) (fun _ => ?_)
  refine e_iload (pc := 13) dX6_shortest_13 rfl ?_
  exact e_iret (pc := 15) dX6_shortest_15 rfl (Nat.le_refl _) (Nat.le_refl _) ⟨rfl, rfl⟩
