/-! lots -/
/-- what is written with slips: the lots run on from lot -/
def ysl (m : Nat → Int32) (b : Nat → List Int32) (k x : Int32) : Nat → Nat → Int64 → List Int32 → List Int32
  | 0, _, _, xs => xs
  | f + 1, i, lot, xs => if (lot * 48271 - lot * 48271 / 2147483647 * 2147483647) - (lot * 48271 - lot * 48271 / 2147483647 * 2147483647) / 100 * 100 < x.toInt64
      then ysl m b k x f (i + 1) (lot * 48271 - lot * 48271 / 2147483647 * 2147483647) (xs.set i (ysd (yfg m b k) (xs.getD i 0)))
      else ysl m b k x f (i + 1) (lot * 48271 - lot * 48271 / 2147483647 * 2147483647) (xs.set i (xs.getD i 0))
theorem ysl_len (m : Nat → Int32) (b : Nat → List Int32) (k x : Int32) : ∀ f i lot xs, (ysl m b k x f i lot xs).length = xs.length := by
  intro f
  induction f with
  | zero => intro i lot xs; rfl
  | succ f ih => intro i lot xs; unfold ysl; split <;> rw [ih, List.length_set]
def ysb (m : Nat → Int32) (b : Nat → List Int32) (sd k v : Int32) : Int64 := yself m b k (ysl m b k (yask m b 1 k v 0) (ywr m b k v).length 0 (sd.toInt64 + 1) (ywr m b k v))
theorem lp_y_slipsBy {s u m n : Nat → Int32} {a c b : Nat → List Int32} {q : List (Option Nat)} {h : Nat} {z : mc_W} {k0 v sd x : Int32} {L xs0 : List Int32} (hG : yG m b) (hc : mc_wi k0 0 (m 2 - 1) = true) (hx : xs0.length ≤ 17) :
    ∀ (f i : Nat) (lot : Int64) (xs : List Int32) (d : Nat → List Int32), i + f = xs0.length → xs.length = xs0.length → yF xs n d → ysl m b k0 x f i lot xs = L →
      mc_E RX7 cX7_slipsBy 8 (mc_JM (some .long) false 6 0 0 (fun r' w' => r' = some (.long (yself m b k0 L)) ∧ ∃ n1 d1, yD d1 ∧ w' = WW s a q u c h m b n1 d1 z)) 25 [some (.ref 29), some (.int sd), some (.int k0), some (.int v), some (.long lot), none, some (.int x), some (.int (nI i))] [] (WW s a q u c h m b n d z) 0 0 := by
  intro f
  induction f with
  | zero =>
    intro i lot xs d hi hl hF hV
    have hV : xs = L := hV
    subst hV
    refine e_iload (pc := 25) dX7_slipsBy_25 rfl ?_
    refine e_aloadn (pc := 27) dX7_slipsBy_27 rfl ?_
    refine e_get (pc := 28) dX7_slipsBy_28 fX7_175 rfl rfl ?_
    refine e_icmp_ge (pc := 31) dX7_slipsBy_31 (t := 94) (by decide) (fun _ => ?_) (fun c_31 => absurd (by rw [hF.2.1, hl]; exact nI_le (by omega) (by omega)) c_31)
    refine e_aloadn (pc := 94) dX7_slipsBy_94 rfl ?_
    refine e_aloadn (pc := 95) dX7_slipsBy_95 rfl ?_
    refine e_iloadn (pc := 96) dX7_slipsBy_96 rfl ?_
    refine e_cvD (pc := 97) (sp_y_figuresOf (hG.k0 hc) (hG.k1 hc)) dX7_slipsBy_97 kX7_169 rfl rfl rfl rfl rfl (mc_CR_of (Nat.le_of_ble_eq_true rfl) (Nat.le_of_ble_eq_true rfl) (Nat.le_refl _) (Nat.le_refl _)) (Nat.le_of_ble_eq_true rfl) ?_
    refine e_aloadn (pc := 100) dX7_slipsBy_100 rfl ?_
    refine e_iloadn (pc := 101) dX7_slipsBy_101 rfl ?_
    refine e_cvD (pc := 102) (sp_y_isTurned (hG.k0 hc)) dX7_slipsBy_102 kX7_172 rfl rfl rfl rfl rfl (mc_CR_of (Nat.le_of_ble_eq_true rfl) (Nat.le_of_ble_eq_true rfl) (Nat.le_refl _) (Nat.le_refl _)) (Nat.le_of_ble_eq_true rfl) ?_
    refine e_cvD (pc := 105) (sp_y_readsBy hF (by omega)) dX7_slipsBy_105 kX7_194 rfl rfl rfl rfl rfl (mc_CR_of (Nat.le_of_ble_eq_true rfl) (Nat.le_of_ble_eq_true rfl) (Nat.le_refl _) (Nat.le_refl _)) (Nat.le_of_ble_eq_true rfl) ?_
    exact e_lret (pc := 108) dX7_slipsBy_108 rfl (Nat.le_refl _) (Nat.le_refl _) ⟨rfl, n, d, hF.1, rfl⟩
  | succ f ih =>
    intro i lot xs d hi hl hF hV
    simp only [ysl] at hV
    have hix : i < xs.length := by omega
    have iv : vp_in (nI i) (d 3).length := by rw [hF.1.2.2.2]; exact vp_in_nI (by omega) (by decide)
    have ex : (d 3).getD (nI i).toNatClampNeg 0 = xs.getD i 0 := by rw [nIc (by omega)]; exact tk_get hF.2.2 hix
    have tc : (nI i).toNatClampNeg = i := nIc (by omega)
    refine e_iload (pc := 25) dX7_slipsBy_25 rfl ?_
    refine e_aloadn (pc := 27) dX7_slipsBy_27 rfl ?_
    refine e_get (pc := 28) dX7_slipsBy_28 fX7_175 rfl rfl ?_
    refine e_icmp_ge (pc := 31) dX7_slipsBy_31 (t := 94) (by decide) (fun c_31 => absurd c_31 (by rw [hF.2.1, hl]; exact nI_ge (by omega) (by omega))) (fun _ => ?_)
    refine e_lload (pc := 34) dX7_slipsBy_34 rfl ?_
    refine e_ldc2 (pc := 36) dX7_slipsBy_36 qX7_281 ?_
    refine e_lmul (pc := 39) dX7_slipsBy_39 ?_
    refine e_ldc2 (pc := 40) dX7_slipsBy_40 qX7_278 ?_
    refine e_lrem (pc := 43) dX7_slipsBy_43 (by decide) ?_
    refine e_lsw4 (pc := 44) dX7_slipsBy_44 (Nat.le_of_ble_eq_true rfl) rfl ?_
    refine e_aloadn (pc := 46) dX7_slipsBy_46 rfl ?_
    refine e_get (pc := 47) dX7_slipsBy_47 fX7_62 rfl rfl ?_
    refine e_iload (pc := 50) dX7_slipsBy_50 rfl ?_
    refine e_lload (pc := 52) dX7_slipsBy_52 rfl ?_
    refine e_ldc2 (pc := 54) dX7_slipsBy_54 qX7_235 ?_
    refine e_lrem (pc := 57) dX7_slipsBy_57 (by decide) ?_
    refine e_iload (pc := 58) dX7_slipsBy_58 rfl ?_
    refine e_i2l (pc := 60) dX7_slipsBy_60 ?_
    refine e_lcmp (pc := 61) dX7_slipsBy_61 ?_
    refine e_if_ge (pc := 62) dX7_slipsBy_62 (t := 80) (by decide) (fun c_62 => ?_) (fun c_62 => ?_)
    · skip
      refine e_aloadn (pc := 80) dX7_slipsBy_80 rfl ?_
      refine e_get (pc := 81) dX7_slipsBy_81 fX7_62 rfl rfl ?_
      refine e_iload (pc := 84) dX7_slipsBy_84 rfl ?_
      refine aldv_figures (pc := 86) dX7_slipsBy_86 iv ex ?_
      refine ast_figures (pc := 87) dX7_slipsBy_87 iv ?_
      rw [tc]
      refine e_incC7 (pc := 88) dX7_slipsBy_88 (nI_1 i) (Nat.le_of_ble_eq_true rfl) rfl ?_
      refine e_goto (pc := 91) dX7_slipsBy_91 (t := 25) (by decide) ?_
      exact ih (i + 1) _ _ _ (by omega) (by rw [List.length_set]; exact hl) (yF_set hF (by omega) i hix _) (by rw [← hV, if_neg (mc_cnl_of c_62)])
    · skip
      refine e_aloadn (pc := 65) dX7_slipsBy_65 rfl ?_
      refine e_iloadn (pc := 66) dX7_slipsBy_66 rfl ?_
      refine e_aloadn (pc := 67) dX7_slipsBy_67 rfl ?_
      refine e_get (pc := 68) dX7_slipsBy_68 fX7_62 rfl rfl ?_
      refine e_iload (pc := 71) dX7_slipsBy_71 rfl ?_
      refine aldv_figures (pc := 73) dX7_slipsBy_73 iv ex ?_
      refine e_cvD (pc := 74) (sp_y_slipped (hG.k0 hc) (hG.k1 hc)) dX7_slipsBy_74 kX7_230 rfl rfl rfl rfl rfl (mc_CR_of (Nat.le_of_ble_eq_true rfl) (Nat.le_of_ble_eq_true rfl) (Nat.le_refl _) (Nat.le_refl _)) (Nat.le_of_ble_eq_true rfl) ?_
      refine e_goto (pc := 77) dX7_slipsBy_77 (t := 87) (by decide) ?_
      refine ast_figures (pc := 87) dX7_slipsBy_87 iv ?_
      rw [tc]
      refine e_incC7 (pc := 88) dX7_slipsBy_88 (nI_1 i) (Nat.le_of_ble_eq_true rfl) rfl ?_
      refine e_goto (pc := 91) dX7_slipsBy_91 (t := 25) (by decide) ?_
      exact ih (i + 1) _ _ _ (by omega) (by rw [List.length_set]; exact hl) (yF_set hF (by omega) i hix _) (by rw [← hV, if_pos (mc_clt_of c_62)])
theorem sp_y_slipsBy {s u m n : Nat → Int32} {a c b d : Nat → List Int32} {q : List (Option Nat)} {h : Nat} {z : mc_W} {sd k v : Int32} (hG : yG m b) (hk : mc_wi k 0 (m 2 - 1) = true) (hv : mc_wi v 0 99999 = true) (hD : yD d) : mc_T yX7_slipsBy cX7_slipsBy 8 (some .long) 6 [.ref 29, .int sd, .int k, .int v] (WW s a q u c h m b n d z) (some (.long (ysb m b sd k v))) (fun w' => ∃ n1 d1, yD d1 ∧ w' = WW s a q u c h m b n1 d1 z) := by
  refine mc_start (own := RX7) (ini := false) rfl (by decide +kernel) (fun h => by cases h) (Nat.le_of_ble_eq_true rfl) ?_
  show mc_E _ _ _ _ _ [some (.ref 29), some (.int sd), some (.int k), some (.int v), none, none, none, none] [] _ _ _
  refine e_iloadn (pc := 0) dX7_slipsBy_0 rfl ?_
  refine e_i2l (pc := 1) dX7_slipsBy_1 ?_
  refine e_lconst (v := 1) (pc := 2) dX7_slipsBy_2 (by decide) ?_
  refine e_ladd (pc := 3) dX7_slipsBy_3 ?_
  refine e_lsw4 (pc := 4) dX7_slipsBy_4 (Nat.le_of_ble_eq_true rfl) rfl ?_
  refine e_aloadn (pc := 6) dX7_slipsBy_6 rfl ?_
  refine e_iconst (v := 1) (pc := 7) dX7_slipsBy_7 (by decide) ?_
  refine e_iloadn (pc := 8) dX7_slipsBy_8 rfl ?_
  refine e_iloadn (pc := 9) dX7_slipsBy_9 rfl ?_
  refine e_iconst (v := 0) (pc := 10) dX7_slipsBy_10 (by decide) ?_
  refine e_cvX (pc := 11) (sp_y_asksOf (p := 1) hG.1 hG.V (by decide) rfl (hG.k1 hk) hD) dX7_slipsBy_11 kX7_165 rfl rfl rfl rfl rfl (mc_CR_of (Nat.le_of_ble_eq_true rfl) (Nat.le_of_ble_eq_true rfl) (Nat.le_refl _) (Nat.le_refl _)) (Nat.le_of_ble_eq_true rfl) (fun w1 hw1 => ?_)
  obtain ⟨d0, hD0, g3, rfl⟩ := hw1
  refine e_isw6 (pc := 14) dX7_slipsBy_14 (Nat.le_of_ble_eq_true rfl) rfl ?_
  refine e_aloadn (pc := 16) dX7_slipsBy_16 rfl ?_
  refine e_iloadn (pc := 17) dX7_slipsBy_17 rfl ?_
  refine e_iloadn (pc := 18) dX7_slipsBy_18 rfl ?_
  refine e_cvY (pc := 19) (sp_y_writes hG.1 hG.V (hG.k0 hk) (hG.k1 hk) (hG.fg _) (hG.mk _ _ hv) hD0) dX7_slipsBy_19 kX7_186 rfl rfl rfl rfl rfl (mc_CR_of (Nat.le_of_ble_eq_true rfl) (Nat.le_of_ble_eq_true rfl) (Nat.le_refl _) (Nat.le_refl _)) (Nat.le_of_ble_eq_true rfl) (fun w1 hw1 => ?_)
  obtain ⟨n1, d1, hF1, rfl⟩ := hw1
  refine e_iconst (v := 0) (pc := 22) dX7_slipsBy_22 (by decide) ?_
  refine e_isw7 (pc := 23) dX7_slipsBy_23 (Nat.le_of_ble_eq_true rfl) rfl ?_
  exact lp_y_slipsBy hG hk (ywr_len m b k v) (ywr m b k v).length 0 _ (ywr m b k v) d1 (by omega) rfl hF1 rfl
def ydrawn (m : Nat → Int32) (b : Nat → List Int32) (sd k v : Int32) : Int64 := if mc_wi k 0 (m 2 - 1) = false then -5 else if (mc_wi sd 0 99999 && mc_wi v 0 99999) = false then -7 else ysb m b sd k v
