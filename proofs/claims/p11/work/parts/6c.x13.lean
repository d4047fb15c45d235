/-! ===== lots ===== -/
/-- what is written with slips -/
def xsl (g x : Int32) : Nat → Nat → Int64 → List Int32 → List Int32
  | 0, _, _, xs => xs
  | f + 1, i, lot, xs => if (lot * 48271 - lot * 48271 / 2147483647 * 2147483647) - (lot * 48271 - lot * 48271 / 2147483647 * 2147483647) / 100 * 100 < x.toInt64 then xsl g x f (i + 1) (lot * 48271 - lot * 48271 / 2147483647 * 2147483647) (xs.set i (xsd g (xs.getD i 0))) else xsl g x f (i + 1) (lot * 48271 - lot * 48271 / 2147483647 * 2147483647) xs
theorem xsl_len (g x : Int32) : ∀ f i lot xs, (xsl g x f i lot xs).length = xs.length := by
  intro f
  induction f with
  | zero => intro i lot xs; rfl
  | succ f ih =>
    intro i lot xs
    unfold xsl
    split
    · rw [ih, List.length_set]
    · rw [ih]
theorem lp_x_lots {s u m n : Nat → Int32} {a b d : Nat → List Int32} {q : List (Option Nat)} {h : Nat} {z : mc_W} {c0 : Nat → List Int32} {K mo nu ba ye : Int32} {sg : Nat → List Int32} {sd x : Int32} {N : Nat} {V : List Int32} (hN : N ≤ 17) :
    ∀ (f i : Nat) (lot : Int64) (xs : List Int32) (c : Nat → List Int32), xHd q z h u c K mo nu ba ye sg → xKc c0 c → xRw u c xs → xs.length = N → i + f = N → xsl (yy_fg K mo ba) x f i lot xs = V →
      mc_E RX1 cX1_slipByLots 6 (mc_JM none false 4 0 0 (fun r' w' => r' = none ∧ (∃ c1, xHd q z h u c1 K mo nu ba ye sg ∧ xKc c0 c1 ∧ xRw u c1 V ∧ w' = (WW s a q u c1 h m b n d z)))) 8 [some (.ref 17), some (.int sd), some (.int x), some (.long lot), none, some (.int (nI i))] [] (WW s a q u c h m b n d z) 0 0 := by
  intro f
  induction f with
  | zero =>
    intro i lot xs c hH hk hF hl hi hV
    have e : i = N := by omega
    subst e
    simp only [xsl] at hV
    subst hV
    refine e_iload (pc := 8) dX1_slipByLots_8 rfl ?_
    refine e_aloadn (pc := 10) dX1_slipByLots_10 rfl ?_
    refine e_get (pc := 11) dX1_slipByLots_11 fX1_61 rfl rfl ?_
    refine e_icmp_ge (pc := 14) dX1_slipByLots_14 (t := 50) (by decide) (fun _ => ?_) (fun c_14 => absurd (by rw [hF.1, hl]; exact nI_le (Nat.le_refl _) (by omega)) c_14)
    exact e_vret (pc := 50) dX1_slipByLots_50 rfl (Nat.le_refl _) (Nat.le_refl _) ⟨rfl, c, hH, hk, hF, rfl⟩
  | succ f ih =>
    intro i lot xs c hH hk hF hl hi hV
    simp only [xsl] at hV
    have hi2 : i < xs.length := by omega
    refine e_iload (pc := 8) dX1_slipByLots_8 rfl ?_
    refine e_aloadn (pc := 10) dX1_slipByLots_10 rfl ?_
    refine e_get (pc := 11) dX1_slipByLots_11 fX1_61 rfl rfl ?_
    refine e_icmp_ge (pc := 14) dX1_slipByLots_14 (t := 50) (by decide) (fun c_14 => absurd c_14 (by rw [hF.1]; exact nI_ge hi2 (by omega))) (fun _ => ?_)
    refine e_lloadn (pc := 17) dX1_slipByLots_17 rfl ?_
    refine e_ldc2 (pc := 18) dX1_slipByLots_18 qX1_78 ?_
    refine e_lmul (pc := 21) dX1_slipByLots_21 ?_
    refine e_ldc2 (pc := 22) dX1_slipByLots_22 qX1_80 ?_
    refine e_lrem (pc := 25) dX1_slipByLots_25 (by decide) ?_
    refine e_lsn3 (pc := 26) dX1_slipByLots_26 (Nat.le_of_ble_eq_true rfl) rfl ?_
    refine e_lloadn (pc := 27) dX1_slipByLots_27 rfl ?_
    refine e_ldc2 (pc := 28) dX1_slipByLots_28 qX1_82 ?_
    refine e_lrem (pc := 31) dX1_slipByLots_31 (by decide) ?_
    refine e_iloadn (pc := 32) dX1_slipByLots_32 rfl ?_
    refine e_i2l (pc := 33) dX1_slipByLots_33 ?_
    refine e_lcmp (pc := 34) dX1_slipByLots_34 ?_
    refine e_if_ge (pc := 35) dX1_slipByLots_35 (t := 44) (by decide) (fun c_35 => ?_) (fun c_35 => ?_)
    · skip
      refine e_incC5 (pc := 44) dX1_slipByLots_44 (nI_1 i) (Nat.le_of_ble_eq_true rfl) rfl ?_
      refine e_goto (pc := 47) dX1_slipByLots_47 (t := 8) (by decide) ?_
      exact ih (i + 1) _ _ _ hH hk hF hl (by omega) (by rw [← hV, if_neg (mc_cnl_of c_35)])
    · skip
      refine e_aloadn (pc := 38) dX1_slipByLots_38 rfl ?_
      refine e_iload (pc := 39) dX1_slipByLots_39 rfl ?_
      refine e_cvY (pc := 41) (sp_x_slipAt hH hF rfl hi2) dX1_slipByLots_41 kX1_84 rfl rfl rfl rfl rfl (mc_CR_of (Nat.le_of_ble_eq_true rfl) (Nat.le_of_ble_eq_true rfl) (Nat.le_refl _) (Nat.le_refl _)) (Nat.le_of_ble_eq_true rfl) (fun w1 hw1 => ?_)
      obtain ⟨c1, hH1, hk1, hF1, rfl⟩ := hw1
      refine e_incC5 (pc := 44) dX1_slipByLots_44 (nI_1 i) (Nat.le_of_ble_eq_true rfl) rfl ?_
      refine e_goto (pc := 47) dX1_slipByLots_47 (t := 8) (by decide) ?_
      exact ih (i + 1) _ _ _ hH1 (hk.trans hk1) hF1 (by rw [List.length_set]; exact hl) (by omega) (by rw [← hV, if_pos (mc_clt_of c_35)])
theorem sp_x_lots {s u m n : Nat → Int32} {a c b d : Nat → List Int32} {q : List (Option Nat)} {h : Nat} {z : mc_W} {K mo nu ba ye : Int32} {sg : Nat → List Int32} {xs : List Int32} {sd x : Int32} (hH : xHd q z h u c K mo nu ba ye sg) (hF : xRw u c xs) : mc_T yX1_slipByLots cX1_slipByLots 6 none 4 [.ref 17, .int sd, .int x] (WW s a q u c h m b n d z) none (fun w1 => ∃ c1, xHd q z h u c1 K mo nu ba ye sg ∧ xKc c c1 ∧ xRw u c1 (xsl (yy_fg K mo ba) x xs.length 0 (sd.toInt64 + 1) xs) ∧ w1 = (WW s a q u c1 h m b n d z)) := by
  refine mc_start (own := RX1) (ini := false) rfl (by decide +kernel) (fun h => by cases h) (Nat.le_of_ble_eq_true rfl) ?_
  show mc_E _ _ _ _ _ [some (.ref 17), some (.int sd), some (.int x), none, none, none] [] _ _ _
  refine e_iloadn (pc := 0) dX1_slipByLots_0 rfl ?_
  refine e_i2l (pc := 1) dX1_slipByLots_1 ?_
  refine e_lconst (v := 1) (pc := 2) dX1_slipByLots_2 (by decide) ?_
  refine e_ladd (pc := 3) dX1_slipByLots_3 ?_
  refine e_lsn3 (pc := 4) dX1_slipByLots_4 (Nat.le_of_ble_eq_true rfl) rfl ?_
  refine e_iconst (v := 0) (pc := 5) dX1_slipByLots_5 (by decide) ?_
  refine e_isw5 (pc := 6) dX1_slipByLots_6 (Nat.le_of_ble_eq_true rfl) rfl ?_
  exact lp_x_lots hF.2.2.2 xs.length 0 _ xs c hH (xKc_refl c) hF rfl (by omega) rfl
/-- what is read back with the slips of a seed -/
def xsb (s : Nat → Int32) (a : Nat → List Int32) (sg : Nat → List Int32) (sd k v : Int32) : Int64 :=
  xself (gt (a 0) k) (gt (a 1) k) (s 0) (xsl (xfg s a k) (xask s a sg 1 k v 0) (xwr s a sg k v).length 0 (sd.toInt64 + 1) (xwr s a sg k v))
def xdrawn (s : Nat → Int32) (a : Nat → List Int32) (sg : Nat → List Int32) (sd k v : Int32) : Int64 := if mc_wi k 0 (s 2 - 1) = false then -5 else if (mc_wi sd 0 99999 && mc_wi v 0 99999) = false then -7 else xsb s a sg sd k v
theorem num2 {x y : Int32} (h : (mc_wi x 0 99999 && mc_wi y 0 99999) = true) : mc_wi x 0 99999 = true ∧ mc_wi y 0 99999 = true := by rw [Bool.and_eq_true] at h; exact h
theorem sp_x_drawn {s u m n : Nat → Int32} {a c b d : Nat → List Int32} {q : List (Option Nat)} {h : Nat} {z : mc_W} {T : Nat} {sg : Nat → Nat → List Int32} {sd k v : Int32} (hO : xOK s a q c z T sg) : mc_T yX6_drawn cX6_drawn 6 (some .long) 7 [.ref 0, .int sd, .int k, .int v] (WW s a q u c h m b n d z) (some (.long (xdrawn s a (sg (tl s)) sd k v))) (fun w1 => ∃ u1 c1 h1, xC c1 ∧ w1 = (WW s a q u1 c1 h1 m b n d z)) := by
  refine mc_start (own := RX6) (ini := false) rfl (by decide +kernel) (fun h => by cases h) (Nat.le_of_ble_eq_true rfl) ?_
  show mc_E _ _ _ _ _ [some (.ref 0), some (.int sd), some (.int k), some (.int v), none, none] [] _ _ _
  refine e_aloadn (pc := 0) dX6_drawn_0 rfl ?_
  refine e_iloadn (pc := 1) dX6_drawn_1 rfl ?_
  refine e_cvD (pc := 2) (sp_x_isClerk hO.2.1) dX6_drawn_2 kX6_115 rfl rfl rfl rfl rfl (mc_CR_of (Nat.le_of_ble_eq_true rfl) (Nat.le_of_ble_eq_true rfl) (Nat.le_refl _) (Nat.le_refl _)) (Nat.le_of_ble_eq_true rfl) ?_
  refine e_if_ne (pc := 5) dX6_drawn_5 (t := 12) (by decide) (fun c_5 => ?_) (fun c_5 => ?_)
  · skip
    refine e_iloadn (pc := 12) dX6_drawn_12 rfl ?_
    refine e_csD (pc := 13) (sp_isNumber) dX6_drawn_13 kX6_118 rfl rfl (mc_CR_of (Nat.le_of_ble_eq_true rfl) (Nat.le_of_ble_eq_true rfl) (Nat.le_refl _) (Nat.le_refl _)) (Nat.le_of_ble_eq_true rfl) ?_
    refine e_if_eq (pc := 16) dX6_drawn_16 (t := 26) (by decide) (fun c_16 => ?_) (fun c_16 => ?_)
    · skip
      refine e_ldc2 (pc := 26) dX6_drawn_26 qX6_147 ?_
      exact e_lret (pc := 29) dX6_drawn_29 rfl (Nat.le_refl _) (Nat.le_refl _) ⟨by unfold xdrawn; rw [if_neg (by rw [mc_b1.mp c_5]; decide), if_pos (by simp only [mc_b0, mc_b1, Bool.not_eq_false] at *; simp_all)], u, c, h, hO.2.2.2.2.2.1, rfl⟩
    · skip
      refine e_iloadn (pc := 19) dX6_drawn_19 rfl ?_
      refine e_csD (pc := 20) (sp_isNumber) dX6_drawn_20 kX6_118 rfl rfl (mc_CR_of (Nat.le_of_ble_eq_true rfl) (Nat.le_of_ble_eq_true rfl) (Nat.le_refl _) (Nat.le_refl _)) (Nat.le_of_ble_eq_true rfl) ?_
      refine e_if_ne (pc := 23) dX6_drawn_23 (t := 30) (by decide) (fun c_23 => ?_) (fun c_23 => ?_)
      · skip
        refine e_aloadn (pc := 30) dX6_drawn_30 rfl ?_
        refine e_iloadn (pc := 31) dX6_drawn_31 rfl ?_
        refine e_cvX (pc := 32) (sp_x_handOf hO (mc_b1.mp c_5)) dX6_drawn_32 kX6_121 rfl rfl rfl rfl rfl (mc_CR_of (Nat.le_of_ble_eq_true rfl) (Nat.le_of_ble_eq_true rfl) (Nat.le_refl _) (Nat.le_refl _)) (Nat.le_of_ble_eq_true rfl) (fun w1 hw1 => ?_)
        obtain ⟨u1, c1, hH, hk1, rfl⟩ := hw1
        refine e_asw4 (pc := 35) dX6_drawn_35 (Nat.le_of_ble_eq_true rfl) rfl ?_
        refine e_aload (pc := 37) dX6_drawn_37 rfl ?_
        refine e_iconst (v := 1) (pc := 39) dX6_drawn_39 (by decide) ?_
        refine e_iloadn (pc := 40) dX6_drawn_40 rfl ?_
        refine e_iconst (v := 0) (pc := 41) dX6_drawn_41 (by decide) ?_
        refine e_cvX (pc := 42) (sp_x_says1 hH) dX6_drawn_42 kX6_125 rfl rfl rfl rfl rfl (mc_CR_of (Nat.le_of_ble_eq_true rfl) (Nat.le_of_ble_eq_true rfl) (Nat.le_refl _) (Nat.le_refl _)) (Nat.le_of_ble_eq_true rfl) (fun w1 hw1 => ?_)
        obtain ⟨c2, hH2, hk2, hr2, rfl⟩ := hw1
        refine e_isw5 (pc := 45) dX6_drawn_45 (Nat.le_of_ble_eq_true rfl) rfl ?_
        refine e_aload (pc := 47) dX6_drawn_47 rfl ?_
        refine e_iloadn (pc := 49) dX6_drawn_49 rfl ?_
        refine e_cvY (pc := 50) (sp_x_write hH2 (hH2.mk (wi_num (mc_b1.mp c_23)))) dX6_drawn_50 kX6_135 rfl rfl rfl rfl rfl (mc_CR_of (Nat.le_of_ble_eq_true rfl) (Nat.le_of_ble_eq_true rfl) (Nat.le_refl _) (Nat.le_refl _)) (Nat.le_of_ble_eq_true rfl) (fun w1 hw1 => ?_)
        obtain ⟨u3, c3, hH3, hk3, hF3, rfl⟩ := hw1
        refine e_aload (pc := 53) dX6_drawn_53 rfl ?_
        refine e_iloadn (pc := 55) dX6_drawn_55 rfl ?_
        refine e_iload (pc := 56) dX6_drawn_56 rfl ?_
        refine e_cvY (pc := 58) (sp_x_lots hH3 hF3) dX6_drawn_58 kX6_299 rfl rfl rfl rfl rfl (mc_CR_of (Nat.le_of_ble_eq_true rfl) (Nat.le_of_ble_eq_true rfl) (Nat.le_refl _) (Nat.le_refl _)) (Nat.le_of_ble_eq_true rfl) (fun w1 hw1 => ?_)
        obtain ⟨c4, hH4, hk4, hF4, rfl⟩ := hw1
        refine e_aload (pc := 61) dX6_drawn_61 rfl ?_
        refine e_cvD (pc := 63) (sp_x_readHim hH4 hF4) dX6_drawn_63 kX6_202 rfl rfl rfl rfl rfl (mc_CR_of (Nat.le_of_ble_eq_true rfl) (Nat.le_of_ble_eq_true rfl) (Nat.le_refl _) (Nat.le_refl _)) (Nat.le_of_ble_eq_true rfl) ?_
        exact e_lret (pc := 66) dX6_drawn_66 rfl (Nat.le_refl _) (Nat.le_refl _) ⟨by unfold xdrawn; rw [if_neg (show ¬ mc_wi k 0 (s 2 - 1) = false by rw [mc_b1.mp c_5]; decide), if_neg (show ¬ (mc_wi sd 0 99999 && mc_wi v 0 99999) = false by simp only [mc_b0, mc_b1, Bool.not_eq_false] at *; simp_all)]; rfl, u3, c4, _, hH4.C (((hk1.trans hk2).trans hk3).trans hk4) hO.2.2.2.2.2.1, rfl⟩
      · skip
        refine e_ldc2 (pc := 26) dX6_drawn_26 qX6_147 ?_
        exact e_lret (pc := 29) dX6_drawn_29 rfl (Nat.le_refl _) (Nat.le_refl _) ⟨by unfold xdrawn; rw [if_neg (by rw [mc_b1.mp c_5]; decide), if_pos (by simp only [mc_b0, mc_b1, Bool.not_eq_false] at *; simp_all)], u, c, h, hO.2.2.2.2.2.1, rfl⟩
  · skip
    refine e_ldc2 (pc := 8) dX6_drawn_8 qX6_145 ?_
    exact e_lret (pc := 11) dX6_drawn_11 rfl (Nat.le_refl _) (Nat.le_refl _) ⟨by unfold xdrawn; rw [if_pos (mc_b0.mp c_5)], u, c, h, hO.2.2.2.2.2.1, rfl⟩
/-! ===== odds ===== -/
/-- the greatest number from d down that leaves nothing of both -/
def xcd (A B : Nat) : Nat → Nat
  | 0 => 1
  | 1 => 1
  | d + 2 => if A % (d + 2) = 0 ∧ B % (d + 2) = 0 then d + 2 else xcd A B (d + 1)
theorem xcd_g {A B : Nat} (h : 0 < Nat.gcd A B) : ∀ d, Nat.gcd A B ≤ d → xcd A B d = Nat.gcd A B
  | 0, hd => by omega
  | 1, hd => by show 1 = _; omega
  | d + 2, hd => by
    simp only [xcd]
    by_cases c : A % (d + 2) = 0 ∧ B % (d + 2) = 0
    · rw [if_pos c]
      have := Nat.le_of_dvd h (Nat.dvd_gcd (Nat.dvd_of_mod_eq_zero c.1) (Nat.dvd_of_mod_eq_zero c.2))
      omega
    · rw [if_neg c]
      have e : Nat.gcd A B ≠ d + 2 := fun e => c ⟨Nat.mod_eq_zero_of_dvd (e ▸ Nat.gcd_dvd_left A B), Nat.mod_eq_zero_of_dvd (e ▸ Nat.gcd_dvd_right A B)⟩
      exact xcd_g h (d + 1) (by omega)
theorem xcd_gcd : ∀ A, A < 61 → ∀ B, B < 61 → (A = 0 && B = 0 || xcd A B (max A B) == Nat.gcd A B) = true := by
  intro A _ B _
  by_cases c : 0 < Nat.gcd A B
  · have le : Nat.gcd A B ≤ max A B := by
      rcases Nat.eq_zero_or_pos A with h0 | h0
      · rw [h0, Nat.gcd_zero_left]; omega
      · have := Nat.le_of_dvd h0 (Nat.gcd_dvd_left A B); omega
    rw [xcd_g c _ le]; simp
  · have z : Nat.gcd A B = 0 := by omega
    have := Nat.gcd_eq_zero_iff.mp z
    rw [this.1, this.2]; rfl
theorem xc_rem : ∀ A, A < 61 → ∀ B, B < 61 → (B = 0 || (nI A - nI A / nI B * nI B == nI (A % B))) = true := by
  intro A hA B hB
  by_cases c : B = 0
  · simp [c]
  · rw [pk_rem (by omega) (by omega) (by omega)]; simp
theorem xc_dec : ∀ A, A < 61 → (A = 0 || nI A + Int32.ofInt (-1) == nI (A - 1)) = true := by decide +kernel
theorem xc_max : ∀ A, A < 61 → ∀ B, B < 61 → ((if nI A < nI B then nI B else nI A) == nI (max A B)) = true := by
  intro A hA B hB
  rw [beq_iff_eq]
  by_cases c : A < B
  · rw [if_pos (nI_lt c (by omega)), show max A B = B by omega]
  · rw [if_neg (nI_nlt (by omega) (by omega)), show max A B = A by omega]
theorem xc_d64 : ∀ A, A < 61 → ∀ B, B < 61 → (B = 0 || Int64.ofNat A / Int64.ofNat B == (nI (A / B)).toInt64) = true := by decide +kernel
theorem xc_low : ∀ A, A < 61 → ∀ B, B < 61 → (B = 0 || ((nI A / nI (Nat.gcd A B)).toInt64 == ylow A B 0 && (nI B / nI (Nat.gcd A B)).toInt64 == ylow A B 1 && (if (1 : Int32) < nI (Nat.gcd A B) then nI (Nat.gcd A B) else 1) == nI (Nat.gcd A B) && nI (Nat.gcd A B) != 0)) = true := by
  intro A hA B hB
  by_cases c : B = 0
  · simp [c]
  · have hg : 0 < Nat.gcd A B := Nat.gcd_pos_of_pos_right A (by omega)
    have le : Nat.gcd A B ≤ B := Nat.le_of_dvd (by omega) (Nat.gcd_dvd_right A B)
    have e1 : (if (1 : Int32) < nI (Nat.gcd A B) then nI (Nat.gcd A B) else 1) = nI (Nat.gcd A B) := by
      by_cases q : 1 < Nat.gcd A B
      · rw [if_pos (show (1 : Int32) < nI (Nat.gcd A B) from nI_lt (a := 1) q (by omega))]
      · rw [if_neg (show ¬ (1 : Int32) < nI (Nat.gcd A B) from nI_nlt (a := 1) (b := Nat.gcd A B) (by omega) (by omega)), show Nat.gcd A B = 1 by omega]; rfl
    have e2 : nI (Nat.gcd A B) ≠ 0 := nI_ne0 hg (by omega)
    have d := fun X (hX : X < 61) => xc_d64 X hX (Nat.gcd A B) (by omega)
    have d2 : ∀ X, X < 61 → Int64.ofNat X / Int64.ofNat (Nat.gcd A B) = (nI (X / Nat.gcd A B)).toInt64 := fun X hX => by
      have := d X hX
      rw [Bool.or_eq_true, decide_eq_true_eq, beq_iff_eq] at this
      exact this.resolve_left (by omega)
    have e3 : (nI A / nI (Nat.gcd A B)).toInt64 = ylow A B 0 := by
      rw [pk_div (by omega) hg (by omega)]
      unfold ylow
      by_cases a0 : A = 0
      · rw [if_pos a0, a0, Nat.zero_div]; rfl
      · rw [if_neg a0, if_pos rfl, d2 A hA]
    have e4 : (nI B / nI (Nat.gcd A B)).toInt64 = ylow A B 1 := by
      rw [pk_div (by omega) hg (by omega)]
      unfold ylow
      by_cases a0 : A = 0
      · rw [if_pos a0, a0, Nat.gcd_zero_left, Nat.div_self (by omega)]; rfl
      · rw [if_neg a0, if_neg (by decide), d2 B hB]
    rw [e1, e3, e4]
    simp [e2, c]
theorem lp_x_cd {w : mc_W} {X Y : Nat} (hX : X < 61) (hY : Y < 61) :
    ∀ (e : Nat), e < 61 →
      mc_E RX6 cX6_commonDivisor 3 (mc_JM (some .int) false 1 0 0 (fun r' w' => r' = some (.int (nI (xcd X Y e))) ∧ w' = w)) 6 [some (.int (nI X)), some (.int (nI Y)), some (.int (nI e))] [] w 0 0 := by
  intro e
  induction e with
  | zero =>
    intro he
    refine e_iloadn (pc := 6) dX6_commonDivisor_6 rfl ?_
    refine e_iconst (v := 1) (pc := 7) dX6_commonDivisor_7 (by decide) ?_
    refine e_icmp_le (pc := 8) dX6_commonDivisor_8 (t := 31) (by decide) (fun _ => ?_) (fun c_8 => absurd (by decide) c_8)
    refine e_iconst (v := 1) (pc := 31) dX6_commonDivisor_31 (by decide) ?_
    exact e_iret (pc := 32) dX6_commonDivisor_32 rfl (Nat.le_refl _) (Nat.le_refl _) ⟨rfl, rfl⟩
  | succ e ih =>
    intro he
    by_cases e0 : e = 0
    · subst e0
      refine e_iloadn (pc := 6) dX6_commonDivisor_6 rfl ?_
      refine e_iconst (v := 1) (pc := 7) dX6_commonDivisor_7 (by decide) ?_
      refine e_icmp_le (pc := 8) dX6_commonDivisor_8 (t := 31) (by decide) (fun _ => ?_) (fun c_8 => absurd (by decide) c_8)
      refine e_iconst (v := 1) (pc := 31) dX6_commonDivisor_31 (by decide) ?_
      exact e_iret (pc := 32) dX6_commonDivisor_32 rfl (Nat.le_refl _) (Nat.le_refl _) ⟨rfl, rfl⟩
    obtain ⟨d, rfl⟩ : ∃ d, e = d + 1 := ⟨e - 1, by omega⟩
    have rX : nI X - nI X / nI (d + 1 + 1) * nI (d + 1 + 1) = nI (X % (d + 2)) := by have := xc_rem X hX (d + 2) (by omega); simpa using this
    have rY : nI Y - nI Y / nI (d + 1 + 1) * nI (d + 1 + 1) = nI (Y % (d + 2)) := by have := xc_rem Y hY (d + 2) (by omega); simpa using this
    have lX := Nat.mod_lt X (show d + 2 > 0 by omega)
    have lY := Nat.mod_lt Y (show d + 2 > 0 by omega)
    have zX : nI (X % (d + 2)) = 0 ↔ X % (d + 2) = 0 := nI_eq (b := 0) (by omega) (by decide)
    have zY : nI (Y % (d + 2)) = 0 ↔ Y % (d + 2) = 0 := nI_eq (b := 0) (by omega) (by decide)
    have nz : ¬ nI (d + 1 + 1) = 0 := fun q => absurd ((nI_eq (a := d + 2) (b := 0) (by omega) (by decide)).mp q) (by omega)
    have dc : nI (d + 1 + 1) + Int32.ofInt (-1) = nI (d + 1) := by have := xc_dec (d + 2) (by omega); simpa using this
    refine e_iloadn (pc := 6) dX6_commonDivisor_6 rfl ?_
    refine e_iconst (v := 1) (pc := 7) dX6_commonDivisor_7 (by decide) ?_
    refine e_icmp_le (pc := 8) dX6_commonDivisor_8 (t := 31) (by decide) (fun c_8 => absurd c_8 (fun q => absurd (nI_lt (a := 1) (b := d + 1 + 1) (by omega) (by omega)) (Int32.not_lt.mpr q))) (fun _ => ?_)
    refine e_iloadn (pc := 11) dX6_commonDivisor_11 rfl ?_
    refine e_iloadn (pc := 12) dX6_commonDivisor_12 rfl ?_
    refine e_irem (pc := 13) dX6_commonDivisor_13 nz ?_
    refine e_top (y := nI (X % (d + 2))) rX ?_
    refine e_if_ne (pc := 14) dX6_commonDivisor_14 (t := 25) (by decide) (fun c_14 => ?_) (fun c_14 => ?_)
    · skip
      refine e_incC2 (pc := 25) dX6_commonDivisor_25 dc (Nat.le_of_ble_eq_true rfl) rfl ?_
      refine e_goto (pc := 28) dX6_commonDivisor_28 (t := 6) (by decide) ?_
      have e1 : xcd X Y (d + 1 + 1) = xcd X Y (d + 1) := if_neg (fun q => c_14 (zX.mpr q.1))
      rw [e1]
      exact ih (by omega)
    · skip
      refine e_iloadn (pc := 17) dX6_commonDivisor_17 rfl ?_
      refine e_iloadn (pc := 18) dX6_commonDivisor_18 rfl ?_
      refine e_irem (pc := 19) dX6_commonDivisor_19 nz ?_
      refine e_top (y := nI (Y % (d + 2))) rY ?_
      refine e_if_ne (pc := 20) dX6_commonDivisor_20 (t := 25) (by decide) (fun c_20 => ?_) (fun c_20 => ?_)
      · skip
        refine e_incC2 (pc := 25) dX6_commonDivisor_25 dc (Nat.le_of_ble_eq_true rfl) rfl ?_
        refine e_goto (pc := 28) dX6_commonDivisor_28 (t := 6) (by decide) ?_
        have e1 : xcd X Y (d + 1 + 1) = xcd X Y (d + 1) := if_neg (fun q => c_20 (zY.mpr q.2))
        rw [e1]
        exact ih (by omega)
      · skip
        refine e_iloadn (pc := 23) dX6_commonDivisor_23 rfl ?_
        exact e_iret (pc := 24) dX6_commonDivisor_24 rfl (Nat.le_refl _) (Nat.le_refl _) ⟨by unfold xcd; rw [if_pos ⟨zX.mp c_14, zY.mp c_20⟩], rfl⟩
theorem sp_x_cd {w : mc_W} {X Y : Nat} (hX : X < 61) (hY : Y < 61) : mc_D yX6_commonDivisor cX6_commonDivisor 3 (some .int) 1 [.int (nI X), .int (nI Y)] w (some (.int (nI (xcd X Y (max X Y))))) w := by
  refine mc_start (own := RX6) (ini := false) rfl (by decide +kernel) (fun h => by cases h) (Nat.le_of_ble_eq_true rfl) ?_
  show mc_E _ _ _ _ _ [some (.int (nI X)), some (.int (nI Y)), none] [] _ _ _
  refine e_iloadn (pc := 0) dX6_commonDivisor_0 rfl ?_
  refine e_iloadn (pc := 1) dX6_commonDivisor_1 rfl ?_
  refine e_max (pc := 2) dX6_commonDivisor_2 mX6_307 (mc_JR_of (Nat.le_of_ble_eq_true rfl) (Nat.le_refl _) (Nat.le_refl _) (Nat.le_of_ble_eq_true rfl)) ?_
  refine e_top (y := nI (max X Y)) (by have := xc_max X hX Y hY; simpa using this) ?_
  refine e_isn2 (pc := 5) dX6_commonDivisor_5 (Nat.le_of_ble_eq_true rfl) rfl ?_
  exact lp_x_cd hX hY (max X Y) (by omega)
def xodc (s : Nat → Int32) (a : Nat → List Int32) (sg : Nat → List Int32) (sd sn k v : Int32) : Nat := ycn (fun i => xsb s a sg (sd + nI i) k v) (xself (gt (a 0) k) (gt (a 1) k) (s 0) (xwr s a sg k v)) sn.toNatClampNeg 0 0
def xodds (s : Nat → Int32) (a : Nat → List Int32) (sg : Nat → List Int32) (sd sn k v p : Int32) : Int64 :=
  if (mc_wi sd 0 99999 && mc_wi sn 1 60 && mc_wi v 0 99999 && mc_wi p 0 1 && mc_wi k 0 (s 2 - 1)) = false then -4611686018427387904 else ylow (xodc s a sg sd sn k v) sn.toNatClampNeg p
def xdl (K mo nu ba ye : Int32) (sg : Nat → List Int32) (sl sd v : Int32) : Int64 := xself K mo ba (xsl (yy_fg K mo ba) sl (hwr K mo nu ba ye sg v).length 0 (sd.toInt64 + 1) (hwr K mo nu ba ye sg v))
theorem p_1 {p : Int32} (h : (0 : Int32).toInt ≤ p.toInt ∧ p.toInt ≤ (1 : Int32).toInt) (h0 : ¬ p = 0) : p = 1 := by
  rw [i0, i1] at h
  have : ¬ p.toInt = 0 := fun q => h0 (by rw [← Int32.toInt_inj, q]; rfl)
  rw [← Int32.toInt_inj, i1]; omega
theorem lp_x_odds {s m n : Nat → Int32} {a b d : Nat → List Int32} {q : List (Option Nat)} {h : Nat} {z : mc_W} {c0 : Nat → List Int32} {k v sd sl p K mm nu ba ye : Int32} {me : Int64} {sg : Nat → List Int32} {V N : Nat} (hc0 : xC c0) (hv : mc_wi v 0 99999 = true) (hp : mc_wi p 0 1 = true) (hN : N < 61) (hN0 : N ≠ 0) :
    ∀ (f i cn : Nat) (u : Nat → Int32) (c : Nat → List Int32), xHd q z h u c K mm nu ba ye sg → xKc c0 c → i + f = N → cn ≤ i → ycn (fun i => xdl K mm nu ba ye sg sl (sd + nI i) v) me f i cn = V →
      mc_E RX6 cX6_odds 13 (mc_JM (some .long) false 8 0 0 (fun r' w' => r' = some (.long (ylow V N p)) ∧ ∃ u1 c1 h1, xC c1 ∧ w' = (WW s a q u1 c1 h1 m b n d z))) 95 [some (.ref 0), some (.int sd), some (.int (nI N)), some (.int k), some (.int v), some (.int p), some (.int 1), some (.ref 17), some (.int sl), some (.long me), none, some (.int (nI cn)), some (.int (nI i))] [] (WW s a q u c h m b n d z) 0 0 := by
  intro f
  induction f with
  | zero =>
    intro i cn u c hH hk hi hcn hV
    have e : i = N := by omega
    subst e
    simp only [ycn] at hV
    subst hV
    have hcd : xcd cn i (max cn i) = Nat.gcd cn i := by have := xcd_gcd cn (by omega) i hN; simpa [hN0] using this
    have lw := xc_low cn (by omega) i hN
    simp only [hN0, decide_false, Bool.false_or, Bool.and_eq_true, beq_iff_eq, bne_iff_ne] at lw
    obtain ⟨⟨⟨l0, l1⟩, l2⟩, l3⟩ := lw
    rw [mc_wi_iff] at hp
    refine e_iload (pc := 95) dX6_odds_95 rfl ?_
    refine e_iloadn (pc := 97) dX6_odds_97 rfl ?_
    refine e_icmp_ge (pc := 98) dX6_odds_98 (t := 139) (by decide) (fun _ => ?_) (fun c_98 => absurd (Int32.le_refl _) c_98)
    refine e_iconst (v := 1) (pc := 139) dX6_odds_139 (by decide) ?_
    refine e_iload (pc := 140) dX6_odds_140 rfl ?_
    refine e_iloadn (pc := 142) dX6_odds_142 rfl ?_
    refine e_csD (pc := 143) (sp_x_cd (X := cn) (Y := i) (by omega) hN) dX6_odds_143 kX6_304 rfl rfl (mc_CR_of (Nat.le_of_ble_eq_true rfl) (Nat.le_of_ble_eq_true rfl) (Nat.le_refl _) (Nat.le_refl _)) (Nat.le_of_ble_eq_true rfl) ?_
    rw [hcd]
    refine e_max (pc := 146) dX6_odds_146 mX6_307 (mc_JR_of (Nat.le_of_ble_eq_true rfl) (Nat.le_refl _) (Nat.le_refl _) (Nat.le_of_ble_eq_true rfl)) ?_
    refine e_top (y := nI (Nat.gcd cn i)) l2 ?_
    refine e_isw12 (pc := 149) dX6_odds_149 (Nat.le_of_ble_eq_true rfl) rfl ?_
    refine e_iload (pc := 151) dX6_odds_151 rfl ?_
    refine e_if_ne (pc := 153) dX6_odds_153 (t := 165) (by decide) (fun c_153 => ?_) (fun c_153 => ?_)
    · skip
      refine e_iloadn (pc := 165) dX6_odds_165 rfl ?_
      refine e_iload (pc := 166) dX6_odds_166 rfl ?_
      refine e_idiv (pc := 168) dX6_odds_168 l3 ?_
      refine e_i2l (pc := 169) dX6_odds_169 ?_
      exact e_lret (pc := 170) dX6_odds_170 rfl (Nat.le_refl _) (Nat.le_refl _) ⟨by rw [l1, show p = 1 from p_1 hp c_153], u, c, h, hH.C hk hc0, rfl⟩
    · skip
      refine e_iload (pc := 156) dX6_odds_156 rfl ?_
      refine e_iload (pc := 158) dX6_odds_158 rfl ?_
      refine e_idiv (pc := 160) dX6_odds_160 l3 ?_
      refine e_i2l (pc := 161) dX6_odds_161 ?_
      refine e_goto (pc := 162) dX6_odds_162 (t := 170) (by decide) ?_
      exact e_lret (pc := 170) dX6_odds_170 rfl (Nat.le_refl _) (Nat.le_refl _) ⟨by rw [l0, show p = 0 from c_153], u, c, h, hH.C hk hc0, rfl⟩
  | succ f ih =>
    intro i cn u c hH hk hi hcn hV
    simp only [ycn] at hV
    refine e_iload (pc := 95) dX6_odds_95 rfl ?_
    refine e_iloadn (pc := 97) dX6_odds_97 rfl ?_
    refine e_icmp_ge (pc := 98) dX6_odds_98 (t := 139) (by decide) (fun c_98 => absurd c_98 (nI_ge (by omega : i < N) (by omega))) (fun _ => ?_)
    refine e_aload (pc := 101) dX6_odds_101 rfl ?_
    refine e_iload (pc := 103) dX6_odds_103 rfl ?_
    refine e_cvY (pc := 105) (sp_x_write hH (hH.mk (wi_num hv))) dX6_odds_105 kX6_135 rfl rfl rfl rfl rfl (mc_CR_of (Nat.le_of_ble_eq_true rfl) (Nat.le_of_ble_eq_true rfl) (Nat.le_refl _) (Nat.le_refl _)) (Nat.le_of_ble_eq_true rfl) (fun w1 hw1 => ?_)
    obtain ⟨u1, c1, hH1, hk1, hF1, rfl⟩ := hw1
    refine e_aload (pc := 108) dX6_odds_108 rfl ?_
    refine e_iloadn (pc := 110) dX6_odds_110 rfl ?_
    refine e_iload (pc := 111) dX6_odds_111 rfl ?_
    refine e_iadd (pc := 113) dX6_odds_113 ?_
    refine e_iload (pc := 114) dX6_odds_114 rfl ?_
    refine e_cvY (pc := 116) (sp_x_lots hH1 hF1) dX6_odds_116 kX6_299 rfl rfl rfl rfl rfl (mc_CR_of (Nat.le_of_ble_eq_true rfl) (Nat.le_of_ble_eq_true rfl) (Nat.le_refl _) (Nat.le_refl _)) (Nat.le_of_ble_eq_true rfl) (fun w1 hw1 => ?_)
    obtain ⟨c2, hH2, hk2, hF2, rfl⟩ := hw1
    refine e_aload (pc := 119) dX6_odds_119 rfl ?_
    refine e_cvD (pc := 121) (sp_x_readHim hH2 hF2) dX6_odds_121 kX6_202 rfl rfl rfl rfl rfl (mc_CR_of (Nat.le_of_ble_eq_true rfl) (Nat.le_of_ble_eq_true rfl) (Nat.le_refl _) (Nat.le_refl _)) (Nat.le_of_ble_eq_true rfl) ?_
    refine e_topl (y := xdl K mm nu ba ye sg sl (sd + nI i) v) rfl ?_
    refine e_lload (pc := 124) dX6_odds_124 rfl ?_
    refine e_lcmp (pc := 126) dX6_odds_126 ?_
    refine e_if_ne (pc := 127) dX6_odds_127 (t := 133) (by decide) (fun c_127 => ?_) (fun c_127 => ?_)
    · skip
      refine e_incC12 (pc := 133) dX6_odds_133 (nI_1 i) (Nat.le_of_ble_eq_true rfl) rfl ?_
      refine e_goto (pc := 136) dX6_odds_136 (t := 95) (by decide) ?_
      exact ih (i + 1) cn _ _ hH2 ((hk.trans hk1).trans hk2) (by omega) (by omega) (by rw [← hV, if_neg (fun q => c_127 (mc_cmp_eq.mpr q))])
    · skip
      refine e_incC11 (pc := 130) dX6_odds_130 (nI_1 cn) (Nat.le_of_ble_eq_true rfl) rfl ?_
      refine e_incC12 (pc := 133) dX6_odds_133 (nI_1 i) (Nat.le_of_ble_eq_true rfl) rfl ?_
      refine e_goto (pc := 136) dX6_odds_136 (t := 95) (by decide) ?_
      exact ih (i + 1) (cn + 1) _ _ hH2 ((hk.trans hk1).trans hk2) (by omega) (by omega) (by rw [← hV, if_pos (mc_cmp_eq.mp c_127)])
theorem sp_x_odds {s u m n : Nat → Int32} {a c b d : Nat → List Int32} {q : List (Option Nat)} {h : Nat} {z : mc_W} {T : Nat} {sg : Nat → Nat → List Int32} {sd sn k v p : Int32} (hO : xOK s a q c z T sg) : mc_T yX6_odds cX6_odds 13 (some .long) 8 [.ref 0, .int sd, .int sn, .int k, .int v, .int p] (WW s a q u c h m b n d z) (some (.long (xodds s a (sg (tl s)) sd sn k v p))) (fun w1 => ∃ u1 c1 h1, xC c1 ∧ w1 = (WW s a q u1 c1 h1 m b n d z)) := by
  refine mc_start (own := RX6) (ini := false) rfl (by decide +kernel) (fun h => by cases h) (Nat.le_of_ble_eq_true rfl) ?_
  show mc_E _ _ _ _ _ [some (.ref 0), some (.int sd), some (.int sn), some (.int k), some (.int v), some (.int p), none, none, none, none, none, none, none] [] _ _ _
  refine e_iloadn (pc := 0) dX6_odds_0 rfl ?_
  refine e_csD (pc := 1) (sp_isNumber) dX6_odds_1 kX6_118 rfl rfl (mc_CR_of (Nat.le_of_ble_eq_true rfl) (Nat.le_of_ble_eq_true rfl) (Nat.le_refl _) (Nat.le_refl _)) (Nat.le_of_ble_eq_true rfl) ?_
  refine e_if_eq (pc := 4) dX6_odds_4 (t := 37) (by decide) (fun c_4 => ?_) (fun c_4 => ?_)
  · skip
    refine e_iconst (v := 0) (pc := 37) dX6_odds_37 (by decide) ?_
    refine e_isw6 (pc := 38) dX6_odds_38 (Nat.le_of_ble_eq_true rfl) rfl ?_
    refine e_iload (pc := 40) dX6_odds_40 rfl ?_
    refine e_if_eq (pc := 42) dX6_odds_42 (t := 53) (by decide) (fun _ => ?_) (fun c_42 => absurd (by decide) c_42)
    refine e_ldc2 (pc := 53) dX6_odds_53 qX6_302 ?_
    exact e_lret (pc := 56) dX6_odds_56 rfl (Nat.le_refl _) (Nat.le_refl _) ⟨by unfold xodds; rw [if_pos (by rw [mc_b0.mp c_4]; simp)], u, c, h, hO.2.2.2.2.2.1, rfl⟩
  · skip
    refine e_iloadn (pc := 7) dX6_odds_7 rfl ?_
    refine e_iconst (v := 1) (pc := 8) dX6_odds_8 (by decide) ?_
    refine e_bipush (v := 60) (pc := 9) dX6_odds_9 (by decide) ?_
    refine e_csD (pc := 11) (sp_isWithin) dX6_odds_11 kX6_86 rfl rfl (mc_CR_of (Nat.le_of_ble_eq_true rfl) (Nat.le_of_ble_eq_true rfl) (Nat.le_refl _) (Nat.le_refl _)) (Nat.le_of_ble_eq_true rfl) ?_
    refine e_if_eq (pc := 14) dX6_odds_14 (t := 37) (by decide) (fun c_14 => ?_) (fun c_14 => ?_)
    · skip
      refine e_iconst (v := 0) (pc := 37) dX6_odds_37 (by decide) ?_
      refine e_isw6 (pc := 38) dX6_odds_38 (Nat.le_of_ble_eq_true rfl) rfl ?_
      refine e_iload (pc := 40) dX6_odds_40 rfl ?_
      refine e_if_eq (pc := 42) dX6_odds_42 (t := 53) (by decide) (fun _ => ?_) (fun c_42 => absurd (by decide) c_42)
      refine e_ldc2 (pc := 53) dX6_odds_53 qX6_302 ?_
      exact e_lret (pc := 56) dX6_odds_56 rfl (Nat.le_refl _) (Nat.le_refl _) ⟨by unfold xodds; rw [if_pos (by rw [mc_b0.mp c_14]; simp)], u, c, h, hO.2.2.2.2.2.1, rfl⟩
    · skip
      refine e_iload (pc := 17) dX6_odds_17 rfl ?_
      refine e_csD (pc := 19) (sp_isNumber) dX6_odds_19 kX6_118 rfl rfl (mc_CR_of (Nat.le_of_ble_eq_true rfl) (Nat.le_of_ble_eq_true rfl) (Nat.le_refl _) (Nat.le_refl _)) (Nat.le_of_ble_eq_true rfl) ?_
      refine e_if_eq (pc := 22) dX6_odds_22 (t := 37) (by decide) (fun c_22 => ?_) (fun c_22 => ?_)
      · skip
        refine e_iconst (v := 0) (pc := 37) dX6_odds_37 (by decide) ?_
        refine e_isw6 (pc := 38) dX6_odds_38 (Nat.le_of_ble_eq_true rfl) rfl ?_
        refine e_iload (pc := 40) dX6_odds_40 rfl ?_
        refine e_if_eq (pc := 42) dX6_odds_42 (t := 53) (by decide) (fun _ => ?_) (fun c_42 => absurd (by decide) c_42)
        refine e_ldc2 (pc := 53) dX6_odds_53 qX6_302 ?_
        exact e_lret (pc := 56) dX6_odds_56 rfl (Nat.le_refl _) (Nat.le_refl _) ⟨by unfold xodds; rw [if_pos (by rw [mc_b0.mp c_22]; simp)], u, c, h, hO.2.2.2.2.2.1, rfl⟩
      · skip
        refine e_iload (pc := 25) dX6_odds_25 rfl ?_
        refine e_csD (pc := 27) (sp_isTwofold) dX6_odds_27 kX6_160 rfl rfl (mc_CR_of (Nat.le_of_ble_eq_true rfl) (Nat.le_of_ble_eq_true rfl) (Nat.le_refl _) (Nat.le_refl _)) (Nat.le_of_ble_eq_true rfl) ?_
        refine e_if_eq (pc := 30) dX6_odds_30 (t := 37) (by decide) (fun c_30 => ?_) (fun c_30 => ?_)
        · skip
          refine e_iconst (v := 0) (pc := 37) dX6_odds_37 (by decide) ?_
          refine e_isw6 (pc := 38) dX6_odds_38 (Nat.le_of_ble_eq_true rfl) rfl ?_
          refine e_iload (pc := 40) dX6_odds_40 rfl ?_
          refine e_if_eq (pc := 42) dX6_odds_42 (t := 53) (by decide) (fun _ => ?_) (fun c_42 => absurd (by decide) c_42)
          refine e_ldc2 (pc := 53) dX6_odds_53 qX6_302 ?_
          exact e_lret (pc := 56) dX6_odds_56 rfl (Nat.le_refl _) (Nat.le_refl _) ⟨by unfold xodds; rw [if_pos (by rw [mc_b0.mp c_30]; simp)], u, c, h, hO.2.2.2.2.2.1, rfl⟩
        · skip
          refine e_iconst (v := 1) (pc := 33) dX6_odds_33 (by decide) ?_
          refine e_goto (pc := 34) dX6_odds_34 (t := 38) (by decide) ?_
          refine e_isw6 (pc := 38) dX6_odds_38 (Nat.le_of_ble_eq_true rfl) rfl ?_
          refine e_iload (pc := 40) dX6_odds_40 rfl ?_
          refine e_if_eq (pc := 42) dX6_odds_42 (t := 53) (by decide) (fun c_42 => absurd c_42 (by decide)) (fun _ => ?_)
          refine e_aloadn (pc := 45) dX6_odds_45 rfl ?_
          refine e_iloadn (pc := 46) dX6_odds_46 rfl ?_
          refine e_cvD (pc := 47) (sp_x_isClerk hO.2.1) dX6_odds_47 kX6_115 rfl rfl rfl rfl rfl (mc_CR_of (Nat.le_of_ble_eq_true rfl) (Nat.le_of_ble_eq_true rfl) (Nat.le_refl _) (Nat.le_refl _)) (Nat.le_of_ble_eq_true rfl) ?_
          refine e_if_ne (pc := 50) dX6_odds_50 (t := 57) (by decide) (fun c_50 => ?_) (fun c_50 => ?_)
          · skip
            refine e_aloadn (pc := 57) dX6_odds_57 rfl ?_
            refine e_iloadn (pc := 58) dX6_odds_58 rfl ?_
            refine e_cvX (pc := 59) (sp_x_handOf hO (mc_b1.mp c_50)) dX6_odds_59 kX6_121 rfl rfl rfl rfl rfl (mc_CR_of (Nat.le_of_ble_eq_true rfl) (Nat.le_of_ble_eq_true rfl) (Nat.le_refl _) (Nat.le_refl _)) (Nat.le_of_ble_eq_true rfl) (fun w1 hw1 => ?_)
            obtain ⟨u1, c1, hH, hk1, rfl⟩ := hw1
            refine e_asw7 (pc := 62) dX6_odds_62 (Nat.le_of_ble_eq_true rfl) rfl ?_
            refine e_aload (pc := 64) dX6_odds_64 rfl ?_
            refine e_iconst (v := 1) (pc := 66) dX6_odds_66 (by decide) ?_
            refine e_iload (pc := 67) dX6_odds_67 rfl ?_
            refine e_iconst (v := 0) (pc := 69) dX6_odds_69 (by decide) ?_
            refine e_cvX (pc := 70) (sp_x_says1 hH) dX6_odds_70 kX6_125 rfl rfl rfl rfl rfl (mc_CR_of (Nat.le_of_ble_eq_true rfl) (Nat.le_of_ble_eq_true rfl) (Nat.le_refl _) (Nat.le_refl _)) (Nat.le_of_ble_eq_true rfl) (fun w1 hw1 => ?_)
            obtain ⟨c2, hH2, hk2, hr2, rfl⟩ := hw1
            refine e_isw8 (pc := 73) dX6_odds_73 (Nat.le_of_ble_eq_true rfl) rfl ?_
            refine e_aload (pc := 75) dX6_odds_75 rfl ?_
            refine e_iload (pc := 77) dX6_odds_77 rfl ?_
            refine e_cvY (pc := 79) (sp_x_write hH2 (hH2.mk (wi_num (by simpa [mc_b0] using c_22)))) dX6_odds_79 kX6_135 rfl rfl rfl rfl rfl (mc_CR_of (Nat.le_of_ble_eq_true rfl) (Nat.le_of_ble_eq_true rfl) (Nat.le_refl _) (Nat.le_refl _)) (Nat.le_of_ble_eq_true rfl) (fun w1 hw1 => ?_)
            obtain ⟨u3, c3, hH3, hk3, hF3, rfl⟩ := hw1
            refine e_aload (pc := 82) dX6_odds_82 rfl ?_
            refine e_cvD (pc := 84) (sp_x_readHim hH3 hF3) dX6_odds_84 kX6_202 rfl rfl rfl rfl rfl (mc_CR_of (Nat.le_of_ble_eq_true rfl) (Nat.le_of_ble_eq_true rfl) (Nat.le_refl _) (Nat.le_refl _)) (Nat.le_of_ble_eq_true rfl) ?_
            refine e_lsw9 (pc := 87) dX6_odds_87 (Nat.le_of_ble_eq_true rfl) rfl ?_
            refine e_iconst (v := 0) (pc := 89) dX6_odds_89 (by decide) ?_
            refine e_isw11 (pc := 90) dX6_odds_90 (Nat.le_of_ble_eq_true rfl) rfl ?_
            refine e_iconst (v := 0) (pc := 92) dX6_odds_92 (by decide) ?_
            refine e_isw12 (pc := 93) dX6_odds_93 (Nat.le_of_ble_eq_true rfl) rfl ?_
            have q1 : mc_wi sd 0 99999 = true := by simpa [mc_b0] using c_4
            have q2 : mc_wi sn 1 60 = true := by simpa [mc_b0] using c_14
            have q3 : mc_wi v 0 99999 = true := by simpa [mc_b0] using c_22
            have q4 : mc_wi p 0 1 = true := by simpa [mc_b0] using c_30
            have q5 := mc_b1.mp c_50
            have hb := mc_wi_iff.mp q2
            rw [i1, show (60 : Int32).toInt = 60 from rfl] at hb
            obtain ⟨N, hN⟩ : ∃ N, sn.toNatClampNeg = N := ⟨_, rfl⟩
            have t := tnc (x := sn) (by omega)
            have ey : sn = nI N := by rw [← hN]; exact nI_back (by omega)
            have eo : xodds s a (sg (tl s)) sd sn k v p = ylow (xodc s a (sg (tl s)) sd sn k v) N p := by unfold xodds; rw [if_neg (by rw [q1, q2, q3, q4, q5]; decide), hN]
            rw [eo]
            subst ey
            exact lp_x_odds hO.2.2.2.2.2.1 q3 q4 (by omega) (by omega) N 0 0 u3 c3 hH3 ((hk1.trans hk2).trans hk3) (by omega) (by omega) (by unfold xodc; rw [hN]; rfl)
          · skip
            refine e_ldc2 (pc := 53) dX6_odds_53 qX6_302 ?_
            exact e_lret (pc := 56) dX6_odds_56 rfl (Nat.le_refl _) (Nat.le_refl _) ⟨by unfold xodds; rw [if_pos (by rw [mc_b0.mp c_50]; simp)], u, c, h, hO.2.2.2.2.2.1, rfl⟩
