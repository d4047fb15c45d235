/-! ===== film, cells ===== -/
theorem upn {α : Type} {f : Nat → α} {k j : Nat} {x : α} (h : j ≠ k) : mc_up f k x j = f j := by unfold mc_up; rw [if_neg h]
theorem xL.up {a : Nat → List Int32} {k : Nat} {l : List Int32} (h : xL a) (hl : l.length = 40) : xL (mc_up a (5 + k) l) := by
  obtain ⟨l0, l1, l2, l3, l4, l5⟩ := h
  refine ⟨?_, ?_, ?_, ?_, ?_, fun p hp => ?_⟩
  · rw [upn (by omega)]; exact l0
  · rw [upn (by omega)]; exact l1
  · rw [upn (by omega)]; exact l2
  · rw [upn (by omega)]; exact l3
  · rw [upn (by omega)]; exact l4
  · by_cases e : p = k
    · rw [e, up_at]; exact hl
    · rw [upn (by omega)]; exact l5 p hp
def xplv (K mo nu ba ye : Int32) (sg : Nat → List Int32) (v : Int32) : Int64 := yrd ba (hwr K mo nu ba ye sg v)
/-- the numbers of a film -/
def xfl (P : Int32 → Int64) (F S : Nat) : Nat → Nat → List Int32 → List Int32
  | 0, _, l => l
  | g + 1, i, l => xfl P F S g (i + 1) ((l.set (2 * i) (nI (F + i * S))).set (2 * i + 1) (yclip (P (nI (F + i * S)))))
def xfok (s : Nat → Int32) (j fr sm : Int32) : Bool := mc_wi j 0 (s 2 - 1) && (mc_wi fr 0 999 && (decide (0 ≤ sm) && (decide (sm / 100 ≤ 99) && decide (sm - sm / 100 * 100 ≤ 20))))
def xf1 (s : Nat → Int32) (j fr sm : Int32) : Int32 := if mc_wi j 0 (s 2 - 1) = false then -5 else if xfok s j fr sm = true then sm - sm / 100 * 100 else -7
def xfs (s : Nat → Int32) (k : Nat) (j fr sm : Int32) : Nat → Int32 := if xfok s j fr sm = true then xbs s k 2 (2 * (sm - sm / 100 * 100)) else s
def xfa (s : Nat → Int32) (a : Nat → List Int32) (sg : Nat → List Int32) (k : Nat) (j fr sm : Int32) : Nat → List Int32 :=
  if xfok s j fr sm = true then mc_up a (5 + k) (xfl (xplv (gt (a 0) j) (gt (a 1) j) j (s 0) (s 1) sg) fr.toNatClampNeg (sm / 100).toNatClampNeg (sm - sm / 100 * 100).toNatClampNeg 0 (List.replicate 40 0)) else a
theorem xf_no {s : Nat → Int32} {a : Nat → List Int32} {sg : Nat → List Int32} {k : Nat} {j fr sm : Int32} (e : xfok s j fr sm = false) : xfs s k j fr sm = s ∧ xfa s a sg k j fr sm = a := by
  unfold xfs xfa
  rw [e]
  exact ⟨rfl, rfl⟩
theorem xsto_in {a0 : Nat → List Int32} {s : Nat → Int32} {k i N : Nat} {v : Int32} {l : List Int32} (hk : k < 4) (hN : N ≤ 20) :
    2 * i + 1 < 2 * N → xsto (mc_up a0 (5 + k) l) (xbs s k 2 (nI (2 * N))) k (nI (2 * i)) v = mc_up a0 (5 + k) (l.set (2 * i) v) ∧ xsto (mc_up a0 (5 + k) l) (xbs s k 2 (nI (2 * N))) k (nI (2 * i + 1)) v = mc_up a0 (5 + k) (l.set (2 * i + 1) v) := by
  intro hi
  have tN := nI_toInt (n := 2 * N) (by omega)
  have e12 : xbs s k 2 (nI (2 * N)) (12 + 2 * k) = nI (2 * N) := by
    unfold xbs; rw [up_at, xcl_in (by omega) (by omega)]
  have e11 : xbs s k 2 (nI (2 * N)) (11 + 2 * k) = 2 := by
    unfold xbs; rw [up_ne (by omega), up_at]
  have hh : ∀ x, x < 2 * N → xhas (nI x) (nI (2 * N)) = true := fun x hx => by
    unfold xhas
    simp only [Bool.and_eq_true, decide_eq_true_eq, Int32.le_iff_toInt_le, Int32.lt_iff_toInt_lt, i0, show (40 : Int32).toInt = 40 from rfl, tN, nI_toInt (n := x) (by omega)]
    omega
  unfold xsto
  rw [e12, e11, if_pos (hh _ (by omega)), if_pos (hh _ hi), up_at, up_up, up_up, nIc (by omega), nIc (by omega)]
  exact ⟨rfl, rfl⟩
theorem lp_x_film {m n : Nat → Int32} {b d : Nat → List Int32} {q : List (Option Nat)} {h : Nat} {z : mc_W} {c0 : Nat → List Int32} {K mo nu ba ye : Int32} {sg : Nat → List Int32} {k F S N : Nat} {j sm : Int32} {s s1 : Nat → Int32} {a0 : Nat → List Int32} {V : List Int32} (hk : k < 4) (hL0 : xL a0) (hc0 : xC c0) (hF : F ≤ 999) (hSS : S ≤ 99) (hN : N ≤ 20) (hs1 : s1 = xbs s k 2 (nI (2 * N))) :
    ∀ (f i : Nat) (l : List Int32) (u : Nat → Int32) (c : Nat → List Int32) (x10 : Option Value), xHd q z h u c K mo nu ba ye sg → xKc c0 c → i + f = N → l.length = 40 → xfl (xplv K mo nu ba ye sg) F S f i l = V →
      mc_E RX6 cX6_film 11 (mc_JM (some .int) false 7 0 0 (fun r' w' => r' = some (.int (nI N)) ∧ ∃ u1 c1 h1, xC c1 ∧ w' = (WW s1 (mc_up a0 (5 + k) V) q u1 c1 h1 m b n d z))) 95 [some (.ref 0), some (.int (nI k)), some (.int j), some (.int (nI F)), some (.int sm), some (.int (nI S)), some (.int (nI N)), some (.ref (21 + 2 * k)), some (.ref 17), some (.int (nI i)), x10] [] (WW s1 (mc_up a0 (5 + k) l) q u c h m b n d z) 0 0 := by
  intro f
  induction f with
  | zero =>
    intro i l u c x10 hH hk0 hi hl hV
    have e : i = N := by omega
    subst e
    simp only [xfl] at hV
    subst hV
    refine e_iload (pc := 95) dX6_film_95 rfl ?_
    refine e_iload (pc := 97) dX6_film_97 rfl ?_
    refine e_icmp_ge (pc := 99) dX6_film_99 (t := 158) (by decide) (fun _ => ?_) (fun c_99 => absurd (nI_le (Nat.le_refl _) (by omega)) c_99)
    refine e_iload (pc := 158) dX6_film_158 rfl ?_
    exact e_iret (pc := 160) dX6_film_160 rfl (Nat.le_refl _) (Nat.le_refl _) ⟨rfl, u, c, h, hH.C hk0 hc0, rfl⟩
  | succ f ih =>
    intro i l u c x10 hH hk0 hi hl hV
    simp only [xfl] at hV
    have hi2 : i < N := by omega
    have hiS : i * S ≤ 1980 := Nat.le_trans (Nat.mul_le_mul (by omega : i ≤ 20) hSS) (by decide)
    have em : nI i * nI S = nI (i * S) := pk_mul i S
    have ev : nI F + nI (i * S) = nI (F + i * S) := by rw [nI_add]
    have hv : 0 ≤ (nI (F + i * S)).toInt ∧ (nI (F + i * S)).toInt ≤ 99999 := by rw [nI_toInt (by omega)]; omega
    have hLl : ∀ l : List Int32, l.length = 40 → xL (mc_up a0 (5 + k) l) := fun l hl => hL0.up hl
    have X := fun l v => xsto_in (a0 := a0) (s := s) (k := k) (i := i) (N := N) (v := v) (l := l) hk hN (by omega)
    refine e_iload (pc := 95) dX6_film_95 rfl ?_
    refine e_iload (pc := 97) dX6_film_97 rfl ?_
    refine e_icmp_ge (pc := 99) dX6_film_99 (t := 158) (by decide) (fun c_99 => absurd c_99 (nI_ge hi2 (by omega))) (fun _ => ?_)
    refine e_iloadn (pc := 102) dX6_film_102 rfl ?_
    refine e_iload (pc := 103) dX6_film_103 rfl ?_
    refine e_iload (pc := 105) dX6_film_105 rfl ?_
    refine e_imul (pc := 107) dX6_film_107 ?_
    refine e_top (y := nI (i * S)) em ?_
    refine e_iadd (pc := 108) dX6_film_108 ?_
    refine e_top (y := nI (F + i * S)) ev ?_
    refine e_isw10 (pc := 109) dX6_film_109 (Nat.le_of_ble_eq_true rfl) rfl ?_
    refine e_aload (pc := 111) dX6_film_111 rfl ?_
    refine e_iload (pc := 113) dX6_film_113 rfl ?_
    refine e_cvY (pc := 115) (sp_x_write hH (hH.mk hv)) dX6_film_115 kX6_135 rfl rfl rfl rfl rfl (mc_CR_of (Nat.le_of_ble_eq_true rfl) (Nat.le_of_ble_eq_true rfl) (Nat.le_refl _) (Nat.le_refl _)) (Nat.le_of_ble_eq_true rfl) (fun w1 hw1 => ?_)
    obtain ⟨u1, c1, hH1, hk1, hF1, rfl⟩ := hw1
    refine e_aload (pc := 118) dX6_film_118 rfl ?_
    refine e_iconst (v := 2) (pc := 120) dX6_film_120 (by decide) ?_
    refine e_iload (pc := 121) dX6_film_121 rfl ?_
    refine e_imul (pc := 123) dX6_film_123 ?_
    refine e_top (y := nI (2 * i)) (xh2' (L := i) (by omega)).2.2.1 ?_
    refine e_iload (pc := 124) dX6_film_124 rfl ?_
    refine e_cvU (pc := 126) (sp_x_store hk (hLl l hl)) dX6_film_126 kX6_294 (WW_sh hk) rfl rfl rfl rfl (mc_CR_of (Nat.le_of_ble_eq_true rfl) (Nat.le_of_ble_eq_true rfl) (Nat.le_refl _) (Nat.le_refl _)) (Nat.le_of_ble_eq_true rfl) ?_
    rw [hs1, (X l _).1, ← hs1]
    refine e_aload (pc := 129) dX6_film_129 rfl ?_
    refine e_iconst (v := 2) (pc := 131) dX6_film_131 (by decide) ?_
    refine e_iload (pc := 132) dX6_film_132 rfl ?_
    refine e_imul (pc := 134) dX6_film_134 ?_
    refine e_top (y := nI (2 * i)) (xh2' (L := i) (by omega)).2.2.1 ?_
    refine e_iconst (v := 1) (pc := 135) dX6_film_135 (by decide) ?_
    refine e_iadd (pc := 136) dX6_film_136 ?_
    refine e_top (y := nI (2 * i + 1)) (xh2' (L := i) (by omega)).2.2.2.1 ?_
    refine e_aload (pc := 137) dX6_film_137 rfl ?_
    refine e_cvD (pc := 139) (sp_x_readPl hH1 hF1) dX6_film_139 kX6_153 rfl rfl rfl rfl rfl (mc_CR_of (Nat.le_of_ble_eq_true rfl) (Nat.le_of_ble_eq_true rfl) (Nat.le_refl _) (Nat.le_refl _)) (Nat.le_of_ble_eq_true rfl) ?_
    refine e_ldc2 (pc := 142) dX6_film_142 qX6_297 ?_
    refine e_minl (pc := 145) dX6_film_145 mX6_188 (mc_JR_of (Nat.le_of_ble_eq_true rfl) (Nat.le_refl _) (Nat.le_refl _) (Nat.le_of_ble_eq_true rfl)) ?_
    refine e_l2i (pc := 148) dX6_film_148 ?_
    refine e_top (y := yclip (xplv K mo nu ba ye sg (nI (F + i * S)))) (by unfold yclip xplv; split <;> rfl) ?_
    refine e_cvU (pc := 149) (sp_x_store hk (hLl _ (by rw [List.length_set]; exact hl))) dX6_film_149 kX6_294 (WW_sh hk) rfl rfl rfl rfl (mc_CR_of (Nat.le_of_ble_eq_true rfl) (Nat.le_of_ble_eq_true rfl) (Nat.le_refl _) (Nat.le_refl _)) (Nat.le_of_ble_eq_true rfl) ?_
    rw [hs1, (X _ _).2, ← hs1]
    refine e_incC9 (pc := 152) dX6_film_152 (nI_1 i) (Nat.le_of_ble_eq_true rfl) rfl ?_
    refine e_goto (pc := 155) dX6_film_155 (t := 95) (by decide) ?_
    exact ih (i + 1) _ u1 c1 _ hH1 (hk0.trans hk1) (by omega) (by rw [List.length_set, List.length_set]; exact hl) hV
theorem sp_x_film {s u m n : Nat → Int32} {a c b d : Nat → List Int32} {q : List (Option Nat)} {h : Nat} {z : mc_W} {T : Nat} {sg : Nat → Nat → List Int32} {k : Nat} (hk : k < 4) {j fr sm : Int32} (hO : xOK s a q c z T sg) : mc_T yX6_film cX6_film 11 (some .int) 7 [.ref 0, .int (nI k), .int j, .int fr, .int sm] (WW s a q u c h m b n d z) (some (.int (xf1 s j fr sm))) (fun w1 => ∃ u1 c1 h1, xC c1 ∧ w1 = (WW (xfs s k j fr sm) (xfa s a (sg (tl s)) k j fr sm) q u1 c1 h1 m b n d z)) := by
  refine mc_start (own := RX6) (ini := false) rfl (by decide +kernel) (fun h => by cases h) (Nat.le_of_ble_eq_true rfl) ?_
  show mc_E _ _ _ _ _ [some (.ref 0), some (.int (nI k)), some (.int j), some (.int fr), some (.int sm), none, none, none, none, none, none] [] _ _ _
  have hL := hO.1
  refine e_iloadn (pc := 0) dX6_film_0 rfl ?_
  refine e_csD (pc := 1) (sp_isSheet) dX6_film_1 kX6_289 rfl rfl (mc_CR_of (Nat.le_of_ble_eq_true rfl) (Nat.le_of_ble_eq_true rfl) (Nat.le_refl _) (Nat.le_refl _)) (Nat.le_of_ble_eq_true rfl) ?_
  refine e_if_ne (pc := 4) dX6_film_4 (t := 10) (by decide) (fun _ => ?_) (fun c_4 => absurd c_4 (mc_b1.mpr (wi_nk hk)))
  refine e_aloadn (pc := 10) dX6_film_10 rfl ?_
  refine e_iloadn (pc := 11) dX6_film_11 rfl ?_
  refine e_cvD (pc := 12) (sp_x_isClerk hO.2.1) dX6_film_12 kX6_115 rfl rfl rfl rfl rfl (mc_CR_of (Nat.le_of_ble_eq_true rfl) (Nat.le_of_ble_eq_true rfl) (Nat.le_refl _) (Nat.le_refl _)) (Nat.le_of_ble_eq_true rfl) ?_
  refine e_if_ne (pc := 15) dX6_film_15 (t := 21) (by decide) (fun c_15 => ?_) (fun c_15 => ?_)
  · skip
    refine e_iload (pc := 21) dX6_film_21 rfl ?_
    refine e_bipush (v := 100) (pc := 23) dX6_film_23 (by decide) ?_
    refine e_idiv (pc := 25) dX6_film_25 (by decide) ?_
    refine e_isw5 (pc := 26) dX6_film_26 (Nat.le_of_ble_eq_true rfl) rfl ?_
    refine e_iload (pc := 28) dX6_film_28 rfl ?_
    refine e_bipush (v := 100) (pc := 30) dX6_film_30 (by decide) ?_
    refine e_irem (pc := 32) dX6_film_32 (by decide) ?_
    refine e_isw6 (pc := 33) dX6_film_33 (Nat.le_of_ble_eq_true rfl) rfl ?_
    refine e_iloadn (pc := 35) dX6_film_35 rfl ?_
    refine e_iconst (v := 0) (pc := 36) dX6_film_36 (by decide) ?_
    refine e_sipush (v := 999) (pc := 37) dX6_film_37 (by decide) ?_
    refine e_csD (pc := 40) (sp_isWithin) dX6_film_40 kX6_86 rfl rfl (mc_CR_of (Nat.le_of_ble_eq_true rfl) (Nat.le_of_ble_eq_true rfl) (Nat.le_refl _) (Nat.le_refl _)) (Nat.le_of_ble_eq_true rfl) ?_
    refine e_if_eq (pc := 43) dX6_film_43 (t := 65) (by decide) (fun c_43 => ?_) (fun c_43 => ?_)
    · skip
      refine e_bipush (v := -7) (pc := 65) dX6_film_65 (by decide) ?_
      exact e_iret (pc := 67) dX6_film_67 rfl (Nat.le_refl _) (Nat.le_refl _) (have e : xfok s j fr sm = false := (by unfold xfok; rw [mc_b0.mp c_43]; simp); ⟨by unfold xf1; rw [if_neg (show ¬ mc_wi j 0 (s 2 - 1) = false by rw [mc_b1.mp c_15]; decide), if_neg (show ¬ xfok s j fr sm = true by rw [e]; decide)], u, c, h, hO.2.2.2.2.2.1, by rw [(xf_no (a := a) (sg := sg (tl s)) (k := k) e).1, (xf_no (a := a) (sg := sg (tl s)) (k := k) e).2]⟩)
    · skip
      refine e_iload (pc := 46) dX6_film_46 rfl ?_
      refine e_if_lt (pc := 48) dX6_film_48 (t := 65) (by decide) (fun c_48 => ?_) (fun c_48 => ?_)
      · skip
        refine e_bipush (v := -7) (pc := 65) dX6_film_65 (by decide) ?_
        exact e_iret (pc := 67) dX6_film_67 rfl (Nat.le_refl _) (Nat.le_refl _) (have e : xfok s j fr sm = false := (by unfold xfok; rw [show decide (0 ≤ sm) = false from decide_eq_false (Int32.not_le.mpr c_48)]; simp); ⟨by unfold xf1; rw [if_neg (show ¬ mc_wi j 0 (s 2 - 1) = false by rw [mc_b1.mp c_15]; decide), if_neg (show ¬ xfok s j fr sm = true by rw [e]; decide)], u, c, h, hO.2.2.2.2.2.1, by rw [(xf_no (a := a) (sg := sg (tl s)) (k := k) e).1, (xf_no (a := a) (sg := sg (tl s)) (k := k) e).2]⟩)
      · skip
        refine e_iload (pc := 51) dX6_film_51 rfl ?_
        refine e_bipush (v := 99) (pc := 53) dX6_film_53 (by decide) ?_
        refine e_icmp_gt (pc := 55) dX6_film_55 (t := 65) (by decide) (fun c_55 => ?_) (fun c_55 => ?_)
        · skip
          refine e_bipush (v := -7) (pc := 65) dX6_film_65 (by decide) ?_
          exact e_iret (pc := 67) dX6_film_67 rfl (Nat.le_refl _) (Nat.le_refl _) (have e : xfok s j fr sm = false := (by unfold xfok; rw [show decide (sm / 100 ≤ 99) = false from decide_eq_false (Int32.not_le.mpr c_55)]; simp); ⟨by unfold xf1; rw [if_neg (show ¬ mc_wi j 0 (s 2 - 1) = false by rw [mc_b1.mp c_15]; decide), if_neg (show ¬ xfok s j fr sm = true by rw [e]; decide)], u, c, h, hO.2.2.2.2.2.1, by rw [(xf_no (a := a) (sg := sg (tl s)) (k := k) e).1, (xf_no (a := a) (sg := sg (tl s)) (k := k) e).2]⟩)
        · skip
          refine e_iload (pc := 58) dX6_film_58 rfl ?_
          refine e_bipush (v := 20) (pc := 60) dX6_film_60 (by decide) ?_
          refine e_icmp_le (pc := 62) dX6_film_62 (t := 68) (by decide) (fun c_62 => ?_) (fun c_62 => ?_)
          · skip
            refine e_aloadn (pc := 68) dX6_film_68 rfl ?_
            refine e_iloadn (pc := 69) dX6_film_69 rfl ?_
            refine e_cvD (pc := 70) (sp_x_sheetAt hk) dX6_film_70 kX6_171 rfl rfl rfl rfl rfl (mc_CR_of (Nat.le_of_ble_eq_true rfl) (Nat.le_of_ble_eq_true rfl) (Nat.le_refl _) (Nat.le_refl _)) (Nat.le_of_ble_eq_true rfl) ?_
            refine e_asw7 (pc := 73) dX6_film_73 (Nat.le_of_ble_eq_true rfl) rfl ?_
            refine e_aloadn (pc := 75) dX6_film_75 rfl ?_
            refine e_iloadn (pc := 76) dX6_film_76 rfl ?_
            refine e_cvX (pc := 77) (sp_x_handOf hO (mc_b1.mp c_15)) dX6_film_77 kX6_121 rfl rfl rfl rfl rfl (mc_CR_of (Nat.le_of_ble_eq_true rfl) (Nat.le_of_ble_eq_true rfl) (Nat.le_refl _) (Nat.le_refl _)) (Nat.le_of_ble_eq_true rfl) (fun w1 hw1 => ?_)
            obtain ⟨u1, c1, hH, hk1, rfl⟩ := hw1
            refine e_asw8 (pc := 80) dX6_film_80 (Nat.le_of_ble_eq_true rfl) rfl ?_
            refine e_aload (pc := 82) dX6_film_82 rfl ?_
            refine e_iconst (v := 2) (pc := 84) dX6_film_84 (by decide) ?_
            refine e_iconst (v := 2) (pc := 85) dX6_film_85 (by decide) ?_
            refine e_iload (pc := 86) dX6_film_86 rfl ?_
            refine e_imul (pc := 88) dX6_film_88 ?_
            refine e_cvU (pc := 89) (sp_x_sbecome hk hL) dX6_film_89 kX6_292 (WW_sh hk) rfl rfl rfl rfl (mc_CR_of (Nat.le_of_ble_eq_true rfl) (Nat.le_of_ble_eq_true rfl) (Nat.le_refl _) (Nat.le_refl _)) (Nat.le_of_ble_eq_true rfl) ?_
            refine e_iconst (v := 0) (pc := 92) dX6_film_92 (by decide) ?_
            refine e_isw9 (pc := 93) dX6_film_93 (Nat.le_of_ble_eq_true rfl) rfl ?_
            have q1 := mc_b1.mp c_15
            have q2 : mc_wi fr 0 999 = true := by simpa [mc_b0] using c_43
            have q3 : 0 ≤ sm := Int32.not_lt.mp c_48
            have q4 : sm / 100 ≤ 99 := Int32.not_lt.mp c_55
            have ok : xfok s j fr sm = true := by unfold xfok; rw [q1, q2, decide_eq_true q3, decide_eq_true q4, decide_eq_true c_62]; rfl
            have o1 : xf1 s j fr sm = sm - sm / 100 * 100 := by unfold xf1; rw [if_neg (show ¬ mc_wi j 0 (s 2 - 1) = false by rw [q1]; decide), if_pos ok]
            have o2 : xfs s k j fr sm = xbs s k 2 (2 * (sm - sm / 100 * 100)) := if_pos ok
            have o3 : xfa s a (sg (tl s)) k j fr sm = mc_up a (5 + k) (xfl (xplv (gt (a 0) j) (gt (a 1) j) j (s 0) (s 1) (sg (tl s))) fr.toNatClampNeg (sm / 100).toNatClampNeg (sm - sm / 100 * 100).toNatClampNeg 0 (List.replicate 40 0)) := if_pos ok
            rw [o1, o2, o3]
            clear o1 o2 o3 ok
            have hf := mc_wi_iff.mp q2
            rw [i0, show (999 : Int32).toInt = 999 from rfl] at hf
            rw [Int32.le_iff_toInt_le, i0] at q3
            have hsm := Int32.toInt_lt sm
            obtain ⟨F, hF, rfl⟩ : ∃ F : Nat, F ≤ 999 ∧ fr = nI F := ⟨fr.toNatClampNeg, by have := tnc hf.1; omega, nI_back hf.1⟩
            obtain ⟨P, hP, rfl⟩ : ∃ P : Nat, P < 2 ^ 31 ∧ sm = nI P := ⟨sm.toNatClampNeg, by have := tnc q3; omega, nI_back q3⟩
            have eS : nI P / 100 = nI (P / 100) := pk_div (a := P) (d := 100) (by omega) (by decide) (by decide)
            have eR : nI P - nI P / 100 * 100 = nI (P % 100) := pk_rem (a := P) (d := 100) (by omega) (by decide) (by decide)
            have hR : P % 100 ≤ 20 := by
              have := c_62
              rw [eR, Int32.le_iff_toInt_le, nI_toInt (by omega), show (20 : Int32).toInt = 20 from rfl] at this
              omega
            have hS : P / 100 ≤ 99 := by
              rw [eS, Int32.le_iff_toInt_le, nI_toInt (by omega), show (99 : Int32).toInt = 99 from rfl] at q4
              omega
            rw [eR, eS, nIc (n := F) (by omega), nIc (n := P / 100) (by omega), nIc (n := P % 100) (by omega), (xh2' (L := P % 100) (by omega)).2.2.1]
            exact lp_x_film (s1 := xbs s k 2 (nI (2 * (P % 100)))) hk hL hO.2.2.2.2.2.1 hF hS hR rfl (P % 100) 0 (List.replicate 40 0) u1 c1 _ hH hk1 (by omega) (List.length_replicate) rfl
          · skip
            refine e_bipush (v := -7) (pc := 65) dX6_film_65 (by decide) ?_
            exact e_iret (pc := 67) dX6_film_67 rfl (Nat.le_refl _) (Nat.le_refl _) (have e : xfok s j fr sm = false := (by unfold xfok; rw [show decide (sm - sm / 100 * 100 ≤ 20) = false from decide_eq_false c_62]; simp); ⟨by unfold xf1; rw [if_neg (show ¬ mc_wi j 0 (s 2 - 1) = false by rw [mc_b1.mp c_15]; decide), if_neg (show ¬ xfok s j fr sm = true by rw [e]; decide)], u, c, h, hO.2.2.2.2.2.1, by rw [(xf_no (a := a) (sg := sg (tl s)) (k := k) e).1, (xf_no (a := a) (sg := sg (tl s)) (k := k) e).2]⟩)
  · skip
    refine e_bipush (v := -5) (pc := 18) dX6_film_18 (by decide) ?_
    exact e_iret (pc := 20) dX6_film_20 rfl (Nat.le_refl _) (Nat.le_refl _) (have e : xfok s j fr sm = false := (by unfold xfok; rw [mc_b0.mp c_15]; rfl); ⟨by unfold xf1; rw [if_pos (mc_b0.mp c_15)], u, c, h, hO.2.2.2.2.2.1, by rw [(xf_no (a := a) (sg := sg (tl s)) (k := k) e).1, (xf_no (a := a) (sg := sg (tl s)) (k := k) e).2]⟩)
theorem sp_x_film0 {s u m n : Nat → Int32} {a c b d : Nat → List Int32} {q : List (Option Nat)} {h : Nat} {z : mc_W} {x0 j fr sm : Int32} (hv : mc_wi x0 0 3 = false) : mc_D yX6_film cX6_film 11 (some .int) 3 [.ref 0, .int x0, .int j, .int fr, .int sm] (WW s a q u c h m b n d z) (some (.int (-2))) (WW s a q u c h m b n d z) := by
  refine mc_start (own := RX6) (ini := false) rfl (by decide +kernel) (fun h => by cases h) (Nat.le_of_ble_eq_true rfl) ?_
  show mc_E _ _ _ _ _ [some (.ref 0), some (.int x0), some (.int j), some (.int fr), some (.int sm), none, none, none, none, none, none] [] _ _ _
  refine e_iloadn (pc := 0) dX6_film_0 rfl ?_
  refine e_csD (pc := 1) (sp_isSheet) dX6_film_1 kX6_289 rfl rfl (mc_CR_of (Nat.le_of_ble_eq_true rfl) (Nat.le_of_ble_eq_true rfl) (Nat.le_refl _) (Nat.le_refl _)) (Nat.le_of_ble_eq_true rfl) ?_
  refine e_if_ne (pc := 4) dX6_film_4 (t := 10) (by decide) (fun c_4 => absurd c_4 (by rw [mc_b0.mpr hv]; decide)) (fun _ => ?_)
  refine e_bipush (v := -2) (pc := 7) dX6_film_7 (by decide) ?_
  exact e_iret (pc := 9) dX6_film_9 rfl (Nat.le_refl _) (Nat.le_refl _) ⟨rfl, rfl⟩
