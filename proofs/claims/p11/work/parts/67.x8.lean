/-! ===== the hand: what it says, makes, writes ===== -/
def xTr (cd : List Int32) (sa ca : Int32) (sg : Nat → List Int32) : Prop := cd = (sg 0 ++ (sg 1 ++ sg 2)).map cm ∧ sa = nI (sg 0).length ∧ ca = nI ((sg 0).length + (sg 1).length) ∧ cd.length ≤ 160 ∧ ∀ p, p < 3 → xdp (sg p) 0 = true
theorem xTr_len {cd : List Int32} {sa ca : Int32} {sg : Nat → List Int32} (h : xTr cd sa ca sg) : cd.length = (sg 0).length + ((sg 1).length + (sg 2).length) := by
  rw [h.1, List.length_map, List.length_append, List.length_append]
theorem xTr_get {cd : List Int32} {sa ca : Int32} {sg : Nat → List Int32} (h : xTr cd sa ca sg) :
    (∀ i, i < (sg 0).length → cd.getD (0 + i) 0 = cm ((sg 0).getD i 0)) ∧ (∀ i, i < (sg 1).length → cd.getD ((sg 0).length + i) 0 = cm ((sg 1).getD i 0)) ∧ (∀ i, i < (sg 2).length → cd.getD ((sg 0).length + (sg 1).length + i) 0 = cm ((sg 2).getD i 0)) := by
  have g : ∀ (l : List Int32) (i : Nat), i < l.length → (l.map cm)[i]? = some (cm (l.getD i 0)) := fun l i hi => by
    rw [List.getElem?_map, List.getD_eq_getElem?_getD, List.getElem?_eq_getElem hi]; rfl
  rw [h.1]
  refine ⟨fun i hi => ?_, fun i hi => ?_, fun i hi => ?_⟩
  · rw [List.getD_eq_getElem?_getD, List.map_append, Nat.zero_add, List.getElem?_append_left (by rw [List.length_map]; exact hi), g _ _ hi]; rfl
  · rw [List.getD_eq_getElem?_getD, List.map_append, List.getElem?_append_right (by rw [List.length_map]; omega), List.length_map, Nat.add_sub_cancel_left, List.map_append, List.getElem?_append_left (by rw [List.length_map]; exact hi), g _ _ hi]; rfl
  · rw [List.getD_eq_getElem?_getD, List.map_append, List.getElem?_append_right (by rw [List.length_map]; omega), List.length_map, List.map_append, List.getElem?_append_right (by rw [List.length_map]; omega), List.length_map, show (sg 0).length + (sg 1).length + i - (sg 0).length - (sg 1).length = i by omega, g _ _ hi]; rfl
theorem vi6 {l : List Int32} {a b c d e f : Int32} (h : l = [a, b, c, d, e, f]) {i : Int32} (hi : ¬ (i < 0 ∨ 6 ≤ i.toNatClampNeg)) : vp_in i l.length := by subst h; exact hi
theorem max0 {n : Nat} (h : n < 2 ^ 31) : (if (0 : Int32) < nI n then nI n else 0) = nI n := by
  by_cases h0 : n = 0
  · subst h0; decide
  · have h1 : nI 0 < nI n := nI_lt (a := 0) (by omega) h
    rw [nI_0] at h1
    rw [if_pos h1]
theorem sp_x_reckon0 {s u m n : Nat → Int32} {a c b d : Nat → List Int32} {q : List (Option Nat)} {h0 h : Nat} {z : mc_W} {cd nm : List Int32} {sa ca : Int32} {sg : Nat → List Int32} (hX : xTz q z h cd sa ca) (hR : xTr cd sa ca sg) (hnm : c 3 = nm) (h6 : nm.length = 6) (h48 : (c 4).length = 48) : mc_T yX5_reckon cX5_reckon 10 (some .int) 3 [.ref h, .int 0, .ref 18, .ref 19] (WW s a q u c h0 m b n d z) (some (.int (yev nm (sg 0) []))) (fun w1 => ∃ l1, l1.length = 48 ∧ w1 = (WW s a q u (mc_up c 4 l1) h0 m b n d z)) := by
  refine mc_start (own := RX5) (ini := false) rfl (by decide +kernel) (fun h => by cases h) (Nat.le_of_ble_eq_true rfl) ?_
  show mc_E _ _ _ _ _ [some (.ref h), some (.int 0), some (.ref 18), some (.ref 19), none, none, none, none, none, none] [] _ _ _
  have hl := xTr_len hR
  have h160 := hR.2.2.2.1
  obtain ⟨g0, g1, g2⟩ := xTr_get hR
  have hxd := hR.2.2.2.2 0 (by decide)
  refine e_iloadn (pc := 0) dX5_reckon_0 rfl ?_
  refine e_if_ne (pc := 1) dX5_reckon_1 (t := 8) (by decide) (fun c_1 => absurd c_1 (by decide)) (fun _ => ?_)
  refine e_iconst (v := 0) (pc := 4) dX5_reckon_4 (by decide) ?_
  refine e_goto (pc := 5) dX5_reckon_5 (t := 24) (by decide) ?_
  refine e_isw4 (pc := 24) dX5_reckon_24 (Nat.le_of_ble_eq_true rfl) rfl ?_
  refine e_iloadn (pc := 26) dX5_reckon_26 rfl ?_
  refine e_if_ne (pc := 27) dX5_reckon_27 (t := 37) (by decide) (fun c_27 => absurd c_27 (by decide)) (fun _ => ?_)
  refine e_aloadn (pc := 30) dX5_reckon_30 rfl ?_
  refine e_get (pc := 31) dX5_reckon_31 fX5_15 ((hX _ _ _ _ _ _ _ _ _).1) rfl ?_
  rw [hR.2.1]
  refine e_goto (pc := 34) dX5_reckon_34 (t := 54) (by decide) ?_
  refine e_isw5 (pc := 54) dX5_reckon_54 (Nat.le_of_ble_eq_true rfl) rfl ?_
  refine e_iconst (v := 0) (pc := 56) dX5_reckon_56 (by decide) ?_
  refine e_isw6 (pc := 57) dX5_reckon_57 (Nat.le_of_ble_eq_true rfl) rfl ?_
  refine e_iconst (v := 0) (pc := 59) dX5_reckon_59 (by decide) ?_
  refine e_iload (pc := 60) dX5_reckon_60 rfl ?_
  refine e_max (pc := 62) dX5_reckon_62 mX5_22 (mc_JR_of (Nat.le_of_ble_eq_true rfl) (Nat.le_refl _) (Nat.le_refl _) (Nat.le_of_ble_eq_true rfl)) ?_
  rw [show (if (0 : Int32) < 0 then (0 : Int32) else 0) = nI 0 by decide]
  refine e_isw7 (pc := 65) dX5_reckon_65 (Nat.le_of_ble_eq_true rfl) rfl ?_
  refine e_w (w2 := (WW s a q u (mc_up c 4 (c 4)) h0 m b n d z)) (by rw [mc_up_self]) ?_
  exact lp_x_rk hX hnm h6 (e := (sg 0).length) (by rw [hl]; omega) h160 (sg 0) [] 0 0 (c 4) _ _ h48 rfl rfl (by omega) g0 hxd rfl
theorem sp_x_reckon1 {s u m n : Nat → Int32} {a c b d : Nat → List Int32} {q : List (Option Nat)} {h0 h : Nat} {z : mc_W} {cd nm : List Int32} {sa ca : Int32} {sg : Nat → List Int32} (hX : xTz q z h cd sa ca) (hR : xTr cd sa ca sg) (hnm : c 3 = nm) (h6 : nm.length = 6) (h48 : (c 4).length = 48) : mc_T yX5_reckon cX5_reckon 10 (some .int) 3 [.ref h, .int 1, .ref 18, .ref 19] (WW s a q u c h0 m b n d z) (some (.int (yev nm (sg 1) []))) (fun w1 => ∃ l1, l1.length = 48 ∧ w1 = (WW s a q u (mc_up c 4 l1) h0 m b n d z)) := by
  refine mc_start (own := RX5) (ini := false) rfl (by decide +kernel) (fun h => by cases h) (Nat.le_of_ble_eq_true rfl) ?_
  show mc_E _ _ _ _ _ [some (.ref h), some (.int 1), some (.ref 18), some (.ref 19), none, none, none, none, none, none] [] _ _ _
  have hl := xTr_len hR
  have h160 := hR.2.2.2.1
  obtain ⟨g0, g1, g2⟩ := xTr_get hR
  have hxd := hR.2.2.2.2 1 (by decide)
  refine e_iloadn (pc := 0) dX5_reckon_0 rfl ?_
  refine e_if_ne (pc := 1) dX5_reckon_1 (t := 8) (by decide) (fun _ => ?_) (fun c_1 => absurd c_1 (by decide))
  refine e_iloadn (pc := 8) dX5_reckon_8 rfl ?_
  refine e_iconst (v := 1) (pc := 9) dX5_reckon_9 (by decide) ?_
  refine e_icmp_ne (pc := 10) dX5_reckon_10 (t := 20) (by decide) (fun c_10 => absurd c_10 (by decide)) (fun _ => ?_)
  refine e_aloadn (pc := 13) dX5_reckon_13 rfl ?_
  refine e_get (pc := 14) dX5_reckon_14 fX5_15 ((hX _ _ _ _ _ _ _ _ _).1) rfl ?_
  rw [hR.2.1]
  refine e_goto (pc := 17) dX5_reckon_17 (t := 24) (by decide) ?_
  refine e_isw4 (pc := 24) dX5_reckon_24 (Nat.le_of_ble_eq_true rfl) rfl ?_
  refine e_iloadn (pc := 26) dX5_reckon_26 rfl ?_
  refine e_if_ne (pc := 27) dX5_reckon_27 (t := 37) (by decide) (fun _ => ?_) (fun c_27 => absurd c_27 (by decide))
  refine e_iloadn (pc := 37) dX5_reckon_37 rfl ?_
  refine e_iconst (v := 1) (pc := 38) dX5_reckon_38 (by decide) ?_
  refine e_icmp_ne (pc := 39) dX5_reckon_39 (t := 49) (by decide) (fun c_39 => absurd c_39 (by decide)) (fun _ => ?_)
  refine e_aloadn (pc := 42) dX5_reckon_42 rfl ?_
  refine e_get (pc := 43) dX5_reckon_43 fX5_19 ((hX _ _ _ _ _ _ _ _ _).1) rfl ?_
  rw [hR.2.2.1]
  refine e_goto (pc := 46) dX5_reckon_46 (t := 54) (by decide) ?_
  refine e_isw5 (pc := 54) dX5_reckon_54 (Nat.le_of_ble_eq_true rfl) rfl ?_
  refine e_iconst (v := 0) (pc := 56) dX5_reckon_56 (by decide) ?_
  refine e_isw6 (pc := 57) dX5_reckon_57 (Nat.le_of_ble_eq_true rfl) rfl ?_
  refine e_iconst (v := 0) (pc := 59) dX5_reckon_59 (by decide) ?_
  refine e_iload (pc := 60) dX5_reckon_60 rfl ?_
  refine e_max (pc := 62) dX5_reckon_62 mX5_22 (mc_JR_of (Nat.le_of_ble_eq_true rfl) (Nat.le_refl _) (Nat.le_refl _) (Nat.le_of_ble_eq_true rfl)) ?_
  rw [max0 (by omega)]
  refine e_isw7 (pc := 65) dX5_reckon_65 (Nat.le_of_ble_eq_true rfl) rfl ?_
  refine e_w (w2 := (WW s a q u (mc_up c 4 (c 4)) h0 m b n d z)) (by rw [mc_up_self]) ?_
  exact lp_x_rk hX hnm h6 (e := ((sg 0).length + (sg 1).length)) (by rw [hl]; omega) h160 (sg 1) [] (sg 0).length 0 (c 4) _ _ h48 rfl rfl (by omega) g1 hxd rfl
theorem sp_x_reckon2 {s u m n : Nat → Int32} {a c b d : Nat → List Int32} {q : List (Option Nat)} {h0 h : Nat} {z : mc_W} {cd nm : List Int32} {sa ca : Int32} {sg : Nat → List Int32} (hX : xTz q z h cd sa ca) (hR : xTr cd sa ca sg) (hnm : c 3 = nm) (h6 : nm.length = 6) (h48 : (c 4).length = 48) : mc_T yX5_reckon cX5_reckon 10 (some .int) 3 [.ref h, .int 2, .ref 18, .ref 19] (WW s a q u c h0 m b n d z) (some (.int (yev nm (sg 2) []))) (fun w1 => ∃ l1, l1.length = 48 ∧ w1 = (WW s a q u (mc_up c 4 l1) h0 m b n d z)) := by
  refine mc_start (own := RX5) (ini := false) rfl (by decide +kernel) (fun h => by cases h) (Nat.le_of_ble_eq_true rfl) ?_
  show mc_E _ _ _ _ _ [some (.ref h), some (.int 2), some (.ref 18), some (.ref 19), none, none, none, none, none, none] [] _ _ _
  have hl := xTr_len hR
  have h160 := hR.2.2.2.1
  obtain ⟨g0, g1, g2⟩ := xTr_get hR
  have hxd := hR.2.2.2.2 2 (by decide)
  refine e_iloadn (pc := 0) dX5_reckon_0 rfl ?_
  refine e_if_ne (pc := 1) dX5_reckon_1 (t := 8) (by decide) (fun _ => ?_) (fun c_1 => absurd c_1 (by decide))
  refine e_iloadn (pc := 8) dX5_reckon_8 rfl ?_
  refine e_iconst (v := 1) (pc := 9) dX5_reckon_9 (by decide) ?_
  refine e_icmp_ne (pc := 10) dX5_reckon_10 (t := 20) (by decide) (fun _ => ?_) (fun c_10 => absurd c_10 (by decide))
  refine e_aloadn (pc := 20) dX5_reckon_20 rfl ?_
  refine e_get (pc := 21) dX5_reckon_21 fX5_19 ((hX _ _ _ _ _ _ _ _ _).1) rfl ?_
  rw [hR.2.2.1]
  refine e_isw4 (pc := 24) dX5_reckon_24 (Nat.le_of_ble_eq_true rfl) rfl ?_
  refine e_iloadn (pc := 26) dX5_reckon_26 rfl ?_
  refine e_if_ne (pc := 27) dX5_reckon_27 (t := 37) (by decide) (fun _ => ?_) (fun c_27 => absurd c_27 (by decide))
  refine e_iloadn (pc := 37) dX5_reckon_37 rfl ?_
  refine e_iconst (v := 1) (pc := 38) dX5_reckon_38 (by decide) ?_
  refine e_icmp_ne (pc := 39) dX5_reckon_39 (t := 49) (by decide) (fun _ => ?_) (fun c_39 => absurd c_39 (by decide))
  refine e_aloadn (pc := 49) dX5_reckon_49 rfl ?_
  refine e_get (pc := 50) dX5_reckon_50 fX5_9 ((hX _ _ _ _ _ _ _ _ _).1) rfl ?_
  refine e_alen (pc := 53) dX5_reckon_53 ((hX _ _ _ _ _ _ _ _ _).2) (show Int32.ofNat cd.length = nI ((sg 0).length + ((sg 1).length + (sg 2).length)) by rw [hl]; rfl) ?_
  refine e_isw5 (pc := 54) dX5_reckon_54 (Nat.le_of_ble_eq_true rfl) rfl ?_
  refine e_iconst (v := 0) (pc := 56) dX5_reckon_56 (by decide) ?_
  refine e_isw6 (pc := 57) dX5_reckon_57 (Nat.le_of_ble_eq_true rfl) rfl ?_
  refine e_iconst (v := 0) (pc := 59) dX5_reckon_59 (by decide) ?_
  refine e_iload (pc := 60) dX5_reckon_60 rfl ?_
  refine e_max (pc := 62) dX5_reckon_62 mX5_22 (mc_JR_of (Nat.le_of_ble_eq_true rfl) (Nat.le_refl _) (Nat.le_refl _) (Nat.le_of_ble_eq_true rfl)) ?_
  rw [max0 (by omega)]
  refine e_isw7 (pc := 65) dX5_reckon_65 (Nat.le_of_ble_eq_true rfl) rfl ?_
  refine e_w (w2 := (WW s a q u (mc_up c 4 (c 4)) h0 m b n d z)) (by rw [mc_up_self]) ?_
  exact lp_x_rk hX hnm h6 (e := ((sg 0).length + ((sg 1).length + (sg 2).length))) (by rw [hl]; omega) h160 (sg 2) [] ((sg 0).length + (sg 1).length) 0 (c 4) _ _ h48 rfl rfl (by omega) g2 hxd rfl
/-- a hand that is set: its kind, MORE, number, base, year, its text -/
def xHd (q : List (Option Nat)) (z : mc_W) (h : Nat) (u : Nat → Int32) (c : Nat → List Int32) (K mo nu ba ye : Int32) (sg : Nat → List Int32) : Prop :=
  (∃ cd sa ca, xTz q z h cd sa ca ∧ xTr cd sa ca sg) ∧ u 6 = K ∧ (∃ x y, c 3 = [mo, nu, x, y, ba, ye]) ∧ (c 4).length = 48 ∧ (c 5).length = 40 ∧ (0 ≤ K.toInt ∧ K.toInt ≤ 5) ∧ (0 ≤ mo.toInt ∧ mo.toInt ≤ 9) ∧ (2 ≤ ba.toInt ∧ ba.toInt ≤ 12)
def xKc (c c1 : Nat → List Int32) : Prop := c1 0 = c 0 ∧ c1 1 = c 1 ∧ c1 2 = c 2
theorem xKc_refl (c : Nat → List Int32) : xKc c c := ⟨rfl, rfl, rfl⟩
theorem xKc.trans {c c1 c2 : Nat → List Int32} (h : xKc c c1) (h1 : xKc c1 c2) : xKc c c2 := ⟨h1.1.trans h.1, h1.2.1.trans h.2.1, h1.2.2.trans h.2.2⟩
def hask (mo nu ba ye : Int32) (sg : Nat → List Int32) (p : Nat) (v o : Int32) : Int32 := yy_wn (yev [mo, nu, v, o, ba, ye] (sg p) []) 0 (if p = 1 then 100 else 99999)
def hmk0 (mo nu ba ye : Int32) (sg : Nat → List Int32) (v : Int32) : Int32 := if v = 0 then hask mo nu ba ye sg 0 0 0 else v
def hmk (K mo nu ba ye : Int32) (sg : Nat → List Int32) (v : Int32) : Int32 :=
  if K = 5 then v
  else if K = 2 then hmk0 mo nu ba ye sg v + (if v - v / 10 * 10 = 0 then 1 else 0)
  else if K = 4 then hmk0 mo nu ba ye sg v + (if v - v / 10 * 10 = 0 then 1 else 0) + mo
  else hmk0 mo nu ba ye sg v + 0
theorem wn_mm {x b : Int32} (hb : 0 ≤ b.toInt) : (if (0 : Int32) < (if b < x then b else x) then (if b < x then b else x) else 0) = yy_wn x 0 b := by
  unfold yy_wn
  by_cases h1 : b < x
  · rw [if_pos h1]
    have h2 : ¬ x < 0 := fun q => by
      rw [Int32.lt_iff_toInt_lt] at h1 q
      rw [i0] at q; omega
    rw [if_neg h2]
    by_cases h3 : 0 < b
    · rw [if_pos h3]
    · rw [if_neg h3]; apply Int32.toInt_inj.mp; rw [Int32.lt_iff_toInt_lt, i0] at h3; rw [i0]; omega
  · rw [if_neg h1]
    by_cases h2 : x < 0
    · rw [if_pos h2, if_neg (fun q => by rw [Int32.lt_iff_toInt_lt, i0] at q; rw [Int32.lt_iff_toInt_lt, i0] at h2; omega)]
    · rw [if_neg h2]
      by_cases h3 : 0 < x
      · rw [if_pos h3]
      · rw [if_neg h3]; apply Int32.toInt_inj.mp; rw [Int32.lt_iff_toInt_lt, i0] at h2 h3; rw [i0]; omega
theorem sp_x_says0 {s u m n : Nat → Int32} {a c b d : Nat → List Int32} {q : List (Option Nat)} {h : Nat} {z : mc_W} {K mo nu ba ye : Int32} {sg : Nat → List Int32} {v o : Int32} (hH : xHd q z h u c K mo nu ba ye sg) : mc_T yX1_says cX1_says 5 (some .int) 4 [.ref 17, .int 0, .int v, .int o] (WW s a q u c h m b n d z) (some (.int (hask mo nu ba ye sg 0 v 0))) (fun w1 => ∃ c1, xHd q z h u c1 K mo nu ba ye sg ∧ xKc c c1 ∧ c1 5 = c 5 ∧ w1 = (WW s a q u c1 h m b n d z)) := by
  refine mc_start (own := RX1) (ini := false) rfl (by decide +kernel) (fun h => by cases h) (Nat.le_of_ble_eq_true rfl) ?_
  show mc_E _ _ _ _ _ [some (.ref 17), some (.int 0), some (.int v), some (.int o), none] [] _ _ _
  obtain ⟨⟨cd, sa, ca, hX, hR⟩, hK, ⟨x2, x3, hc3⟩, h48, h40, hK5, hm9, hb12⟩ := id hH
  refine e_aloadn (pc := 0) dX1_says_0 rfl ?_
  refine e_get (pc := 1) dX1_says_1 fX1_11 rfl rfl ?_
  refine e_iconst (v := 2) (pc := 4) dX1_says_4 (by decide) ?_
  refine e_iloadn (pc := 5) dX1_says_5 rfl ?_
  refine ast_names (pc := 6) dX1_says_6 (vi6 hc3 (by decide +kernel)) ?_
  refine e_aloadn (pc := 7) dX1_says_7 rfl ?_
  refine e_get (pc := 8) dX1_says_8 fX1_11 rfl rfl ?_
  refine e_iconst (v := 3) (pc := 11) dX1_says_11 (by decide) ?_
  refine e_iloadn (pc := 12) dX1_says_12 rfl ?_
  refine e_iconst (v := 2) (pc := 13) dX1_says_13 (by decide) ?_
  refine e_icmp_ne (pc := 14) dX1_says_14 (t := 21) (by decide) (fun _ => ?_) (fun c_14 => absurd c_14 (by decide))
  refine e_iconst (v := 0) (pc := 21) dX1_says_21 (by decide) ?_
  refine ast_names (pc := 22) dX1_says_22 (by show vp_in _ ((c 3).set _ _).length; rw [List.length_set]; exact vi6 hc3 (by decide +kernel)) ?_
  refine e_w (w2 := (WW s a q u (mc_up c 3 [mo, nu, v, 0, ba, ye]) h m b n d z)) (by rw [up_up, up_at, hc3]; rfl) ?_
  refine e_aloadn (pc := 23) dX1_says_23 rfl ?_
  refine e_get (pc := 24) dX1_says_24 fX1_21 rfl rfl ?_
  refine e_iloadn (pc := 27) dX1_says_27 rfl ?_
  refine e_aloadn (pc := 28) dX1_says_28 rfl ?_
  refine e_get (pc := 29) dX1_says_29 fX1_11 rfl rfl ?_
  refine e_aloadn (pc := 32) dX1_says_32 rfl ?_
  refine e_get (pc := 33) dX1_says_33 fX1_15 rfl rfl ?_
  refine e_callV (pc := 36) (sp_x_reckon0 (c := (mc_up c 3 [mo, nu, v, 0, ba, ye])) hX hR rfl rfl h48) dX1_says_36 kX1_39 ((hX _ _ _ _ _ _ _ _ _).1) rfl rfl rfl (mc_CR_of (Nat.le_of_ble_eq_true rfl) (Nat.le_of_ble_eq_true rfl) (Nat.le_refl _) (Nat.le_refl _)) rfl (Nat.le_of_ble_eq_true rfl) (fun r w1 hw1 => ?_)
  obtain ⟨rfl, l1, hl1, rfl⟩ := hw1
  show mc_E _ _ _ _ 39 _ [.int _] _ _ _
  refine e_isw4 (pc := 39) dX1_says_39 (Nat.le_of_ble_eq_true rfl) rfl ?_
  refine e_iconst (v := 0) (pc := 41) dX1_says_41 (by decide) ?_
  refine e_iload (pc := 42) dX1_says_42 rfl ?_
  refine e_iloadn (pc := 44) dX1_says_44 rfl ?_
  refine e_iconst (v := 1) (pc := 45) dX1_says_45 (by decide) ?_
  refine e_icmp_ne (pc := 46) dX1_says_46 (t := 54) (by decide) (fun _ => ?_) (fun c_46 => absurd c_46 (by decide))
  refine e_ldc (pc := 54) dX1_says_54 qX1_45 ?_
  refine e_min (pc := 56) dX1_says_56 mX1_46 (mc_JR_of (Nat.le_of_ble_eq_true rfl) (Nat.le_refl _) (Nat.le_refl _) (Nat.le_of_ble_eq_true rfl)) ?_
  refine e_max (pc := 59) dX1_says_59 mX1_29 (mc_JR_of (Nat.le_of_ble_eq_true rfl) (Nat.le_refl _) (Nat.le_refl _) (Nat.le_of_ble_eq_true rfl)) ?_
  rw [wn_mm (by decide)]
  exact e_iret (pc := 62) dX1_says_62 rfl (Nat.le_refl _) (Nat.le_refl _) ⟨rfl, mc_up (mc_up c 3 [mo, nu, v, 0, ba, ye]) 4 l1, ⟨⟨cd, sa, ca, hX, hR⟩, hK, ⟨v, 0, rfl⟩, hl1, h40, hK5, hm9, hb12⟩, ⟨rfl, rfl, rfl⟩, rfl, rfl⟩
theorem sp_x_says1 {s u m n : Nat → Int32} {a c b d : Nat → List Int32} {q : List (Option Nat)} {h : Nat} {z : mc_W} {K mo nu ba ye : Int32} {sg : Nat → List Int32} {v o : Int32} (hH : xHd q z h u c K mo nu ba ye sg) : mc_T yX1_says cX1_says 5 (some .int) 4 [.ref 17, .int 1, .int v, .int o] (WW s a q u c h m b n d z) (some (.int (hask mo nu ba ye sg 1 v 0))) (fun w1 => ∃ c1, xHd q z h u c1 K mo nu ba ye sg ∧ xKc c c1 ∧ c1 5 = c 5 ∧ w1 = (WW s a q u c1 h m b n d z)) := by
  refine mc_start (own := RX1) (ini := false) rfl (by decide +kernel) (fun h => by cases h) (Nat.le_of_ble_eq_true rfl) ?_
  show mc_E _ _ _ _ _ [some (.ref 17), some (.int 1), some (.int v), some (.int o), none] [] _ _ _
  obtain ⟨⟨cd, sa, ca, hX, hR⟩, hK, ⟨x2, x3, hc3⟩, h48, h40, hK5, hm9, hb12⟩ := id hH
  refine e_aloadn (pc := 0) dX1_says_0 rfl ?_
  refine e_get (pc := 1) dX1_says_1 fX1_11 rfl rfl ?_
  refine e_iconst (v := 2) (pc := 4) dX1_says_4 (by decide) ?_
  refine e_iloadn (pc := 5) dX1_says_5 rfl ?_
  refine ast_names (pc := 6) dX1_says_6 (vi6 hc3 (by decide +kernel)) ?_
  refine e_aloadn (pc := 7) dX1_says_7 rfl ?_
  refine e_get (pc := 8) dX1_says_8 fX1_11 rfl rfl ?_
  refine e_iconst (v := 3) (pc := 11) dX1_says_11 (by decide) ?_
  refine e_iloadn (pc := 12) dX1_says_12 rfl ?_
  refine e_iconst (v := 2) (pc := 13) dX1_says_13 (by decide) ?_
  refine e_icmp_ne (pc := 14) dX1_says_14 (t := 21) (by decide) (fun _ => ?_) (fun c_14 => absurd c_14 (by decide))
  refine e_iconst (v := 0) (pc := 21) dX1_says_21 (by decide) ?_
  refine ast_names (pc := 22) dX1_says_22 (by show vp_in _ ((c 3).set _ _).length; rw [List.length_set]; exact vi6 hc3 (by decide +kernel)) ?_
  refine e_w (w2 := (WW s a q u (mc_up c 3 [mo, nu, v, 0, ba, ye]) h m b n d z)) (by rw [up_up, up_at, hc3]; rfl) ?_
  refine e_aloadn (pc := 23) dX1_says_23 rfl ?_
  refine e_get (pc := 24) dX1_says_24 fX1_21 rfl rfl ?_
  refine e_iloadn (pc := 27) dX1_says_27 rfl ?_
  refine e_aloadn (pc := 28) dX1_says_28 rfl ?_
  refine e_get (pc := 29) dX1_says_29 fX1_11 rfl rfl ?_
  refine e_aloadn (pc := 32) dX1_says_32 rfl ?_
  refine e_get (pc := 33) dX1_says_33 fX1_15 rfl rfl ?_
  refine e_callV (pc := 36) (sp_x_reckon1 (c := (mc_up c 3 [mo, nu, v, 0, ba, ye])) hX hR rfl rfl h48) dX1_says_36 kX1_39 ((hX _ _ _ _ _ _ _ _ _).1) rfl rfl rfl (mc_CR_of (Nat.le_of_ble_eq_true rfl) (Nat.le_of_ble_eq_true rfl) (Nat.le_refl _) (Nat.le_refl _)) rfl (Nat.le_of_ble_eq_true rfl) (fun r w1 hw1 => ?_)
  obtain ⟨rfl, l1, hl1, rfl⟩ := hw1
  show mc_E _ _ _ _ 39 _ [.int _] _ _ _
  refine e_isw4 (pc := 39) dX1_says_39 (Nat.le_of_ble_eq_true rfl) rfl ?_
  refine e_iconst (v := 0) (pc := 41) dX1_says_41 (by decide) ?_
  refine e_iload (pc := 42) dX1_says_42 rfl ?_
  refine e_iloadn (pc := 44) dX1_says_44 rfl ?_
  refine e_iconst (v := 1) (pc := 45) dX1_says_45 (by decide) ?_
  refine e_icmp_ne (pc := 46) dX1_says_46 (t := 54) (by decide) (fun c_46 => absurd c_46 (by decide)) (fun _ => ?_)
  refine e_bipush (v := 100) (pc := 49) dX1_says_49 (by decide) ?_
  refine e_goto (pc := 51) dX1_says_51 (t := 56) (by decide) ?_
  refine e_min (pc := 56) dX1_says_56 mX1_46 (mc_JR_of (Nat.le_of_ble_eq_true rfl) (Nat.le_refl _) (Nat.le_refl _) (Nat.le_of_ble_eq_true rfl)) ?_
  refine e_max (pc := 59) dX1_says_59 mX1_29 (mc_JR_of (Nat.le_of_ble_eq_true rfl) (Nat.le_refl _) (Nat.le_refl _) (Nat.le_of_ble_eq_true rfl)) ?_
  rw [wn_mm (by decide)]
  exact e_iret (pc := 62) dX1_says_62 rfl (Nat.le_refl _) (Nat.le_refl _) ⟨rfl, mc_up (mc_up c 3 [mo, nu, v, 0, ba, ye]) 4 l1, ⟨⟨cd, sa, ca, hX, hR⟩, hK, ⟨v, 0, rfl⟩, hl1, h40, hK5, hm9, hb12⟩, ⟨rfl, rfl, rfl⟩, rfl, rfl⟩
theorem sp_x_says2 {s u m n : Nat → Int32} {a c b d : Nat → List Int32} {q : List (Option Nat)} {h : Nat} {z : mc_W} {K mo nu ba ye : Int32} {sg : Nat → List Int32} {v o : Int32} (hH : xHd q z h u c K mo nu ba ye sg) : mc_T yX1_says cX1_says 5 (some .int) 4 [.ref 17, .int 2, .int v, .int o] (WW s a q u c h m b n d z) (some (.int (hask mo nu ba ye sg 2 v o))) (fun w1 => ∃ c1, xHd q z h u c1 K mo nu ba ye sg ∧ xKc c c1 ∧ c1 5 = c 5 ∧ w1 = (WW s a q u c1 h m b n d z)) := by
  refine mc_start (own := RX1) (ini := false) rfl (by decide +kernel) (fun h => by cases h) (Nat.le_of_ble_eq_true rfl) ?_
  show mc_E _ _ _ _ _ [some (.ref 17), some (.int 2), some (.int v), some (.int o), none] [] _ _ _
  obtain ⟨⟨cd, sa, ca, hX, hR⟩, hK, ⟨x2, x3, hc3⟩, h48, h40, hK5, hm9, hb12⟩ := id hH
  refine e_aloadn (pc := 0) dX1_says_0 rfl ?_
  refine e_get (pc := 1) dX1_says_1 fX1_11 rfl rfl ?_
  refine e_iconst (v := 2) (pc := 4) dX1_says_4 (by decide) ?_
  refine e_iloadn (pc := 5) dX1_says_5 rfl ?_
  refine ast_names (pc := 6) dX1_says_6 (vi6 hc3 (by decide +kernel)) ?_
  refine e_aloadn (pc := 7) dX1_says_7 rfl ?_
  refine e_get (pc := 8) dX1_says_8 fX1_11 rfl rfl ?_
  refine e_iconst (v := 3) (pc := 11) dX1_says_11 (by decide) ?_
  refine e_iloadn (pc := 12) dX1_says_12 rfl ?_
  refine e_iconst (v := 2) (pc := 13) dX1_says_13 (by decide) ?_
  refine e_icmp_ne (pc := 14) dX1_says_14 (t := 21) (by decide) (fun c_14 => absurd c_14 (by decide)) (fun _ => ?_)
  refine e_iloadn (pc := 17) dX1_says_17 rfl ?_
  refine e_goto (pc := 18) dX1_says_18 (t := 22) (by decide) ?_
  refine ast_names (pc := 22) dX1_says_22 (by show vp_in _ ((c 3).set _ _).length; rw [List.length_set]; exact vi6 hc3 (by decide +kernel)) ?_
  refine e_w (w2 := (WW s a q u (mc_up c 3 [mo, nu, v, o, ba, ye]) h m b n d z)) (by rw [up_up, up_at, hc3]; rfl) ?_
  refine e_aloadn (pc := 23) dX1_says_23 rfl ?_
  refine e_get (pc := 24) dX1_says_24 fX1_21 rfl rfl ?_
  refine e_iloadn (pc := 27) dX1_says_27 rfl ?_
  refine e_aloadn (pc := 28) dX1_says_28 rfl ?_
  refine e_get (pc := 29) dX1_says_29 fX1_11 rfl rfl ?_
  refine e_aloadn (pc := 32) dX1_says_32 rfl ?_
  refine e_get (pc := 33) dX1_says_33 fX1_15 rfl rfl ?_
  refine e_callV (pc := 36) (sp_x_reckon2 (c := (mc_up c 3 [mo, nu, v, o, ba, ye])) hX hR rfl rfl h48) dX1_says_36 kX1_39 ((hX _ _ _ _ _ _ _ _ _).1) rfl rfl rfl (mc_CR_of (Nat.le_of_ble_eq_true rfl) (Nat.le_of_ble_eq_true rfl) (Nat.le_refl _) (Nat.le_refl _)) rfl (Nat.le_of_ble_eq_true rfl) (fun r w1 hw1 => ?_)
  obtain ⟨rfl, l1, hl1, rfl⟩ := hw1
  show mc_E _ _ _ _ 39 _ [.int _] _ _ _
  refine e_isw4 (pc := 39) dX1_says_39 (Nat.le_of_ble_eq_true rfl) rfl ?_
  refine e_iconst (v := 0) (pc := 41) dX1_says_41 (by decide) ?_
  refine e_iload (pc := 42) dX1_says_42 rfl ?_
  refine e_iloadn (pc := 44) dX1_says_44 rfl ?_
  refine e_iconst (v := 1) (pc := 45) dX1_says_45 (by decide) ?_
  refine e_icmp_ne (pc := 46) dX1_says_46 (t := 54) (by decide) (fun _ => ?_) (fun c_46 => absurd c_46 (by decide))
  refine e_ldc (pc := 54) dX1_says_54 qX1_45 ?_
  refine e_min (pc := 56) dX1_says_56 mX1_46 (mc_JR_of (Nat.le_of_ble_eq_true rfl) (Nat.le_refl _) (Nat.le_refl _) (Nat.le_of_ble_eq_true rfl)) ?_
  refine e_max (pc := 59) dX1_says_59 mX1_29 (mc_JR_of (Nat.le_of_ble_eq_true rfl) (Nat.le_refl _) (Nat.le_refl _) (Nat.le_of_ble_eq_true rfl)) ?_
  rw [wn_mm (by decide)]
  exact e_iret (pc := 62) dX1_says_62 rfl (Nat.le_refl _) (Nat.le_refl _) ⟨rfl, mc_up (mc_up c 3 [mo, nu, v, o, ba, ye]) 4 l1, ⟨⟨cd, sa, ca, hX, hR⟩, hK, ⟨v, o, rfl⟩, hl1, h40, hK5, hm9, hb12⟩, ⟨rfl, rfl, rfl⟩, rfl, rfl⟩
theorem hfg_in {K mo ba : Int32} (hm : 0 ≤ mo.toInt ∧ mo.toInt ≤ 9) (hb : 2 ≤ ba.toInt ∧ ba.toInt ≤ 12) : 2 ≤ (yy_fg K mo ba).toInt ∧ (yy_fg K mo ba).toInt ≤ 12 := by
  have em : mo = nI mo.toNatClampNeg := nI_back hm.1
  have eb : ba = nI ba.toNatClampNeg := nI_back (by omega)
  have tm := tnc hm.1
  have tb := tnc (x := ba) (by omega)
  generalize mo.toNatClampNeg = M at em tm
  generalize ba.toNatClampNeg = N at eb tb
  subst em; subst eb
  have hM : M ≤ 9 := by omega
  have hN : 2 ≤ N ∧ N ≤ 12 := by omega
  have D : ∀ M, M < 10 → ∀ N, N < 11 → (decide (2 ≤ (yy_x2 (nI (N + 2) - nI M / 3)).toInt) && decide ((yy_x2 (nI (N + 2) - nI M / 3)).toInt ≤ 12) && decide (2 ≤ (yy_x2 (nI (N + 2) - 1)).toInt) && decide ((yy_x2 (nI (N + 2) - 1)).toInt ≤ 12) && decide (2 ≤ (yy_x2 (nI (N + 2))).toInt) && decide ((yy_x2 (nI (N + 2))).toInt ≤ 12)) = true := by decide +kernel
  have K1 := D M (by omega) (N - 2) (by omega)
  rw [show N - 2 + 2 = N by omega] at K1
  simp only [Bool.and_eq_true, decide_eq_true_eq] at K1
  unfold yy_fg
  split
  · exact ⟨K1.1.1.1.1.1, K1.1.1.1.1.2⟩
  · split
    · exact ⟨K1.1.1.1.2, K1.1.1.2⟩
    · exact ⟨K1.1.2, K1.2⟩
theorem hfg_max {x : Int32} : (if (2 : Int32) < x then x else 2) = yy_x2 x := by
  unfold yy_x2
  have l2 : (2 : Int32).toInt = 2 := rfl
  by_cases h : x < 2
  · rw [if_pos h, if_neg (fun q => by rw [Int32.lt_iff_toInt_lt, l2] at h q; omega)]
  · rw [if_neg h]
    by_cases h2 : 2 < x
    · rw [if_pos h2]
    · rw [if_neg h2]; apply Int32.toInt_inj.mp; rw [Int32.lt_iff_toInt_lt, l2] at h h2; rw [l2]; omega
theorem hfg_ba {ba : Int32} (hb : 2 ≤ ba.toInt) : yy_x2 ba = ba := by
  unfold yy_x2
  rw [if_neg (by rw [Int32.lt_iff_toInt_lt, show (2 : Int32).toInt = 2 from rfl]; omega)]
theorem sp_x_figures {s u m n : Nat → Int32} {a c b d : Nat → List Int32} {q : List (Option Nat)} {h : Nat} {z : mc_W} {K mo nu ba ye : Int32} {sg : Nat → List Int32} (hH : xHd q z h u c K mo nu ba ye sg) : mc_D yX1_figures cX1_figures 2 (some .int) 2 [.ref 17] (WW s a q u c h m b n d z) (some (.int (yy_fg K mo ba))) (WW s a q u c h m b n d z) := by
  refine mc_start (own := RX1) (ini := false) rfl (by decide +kernel) (fun h => by cases h) (Nat.le_of_ble_eq_true rfl) ?_
  show mc_E _ _ _ _ _ [some (.ref 17), none] [] _ _ _
  obtain ⟨⟨cd, sa, ca, hX, hR⟩, hK, ⟨x2, x3, hc3⟩, h48, h40, hK5, hm9, hb12⟩ := id hH
  refine e_aloadn (pc := 0) dX1_figures_0 rfl ?_
  refine e_get (pc := 1) dX1_figures_1 fX1_11 rfl rfl ?_
  refine e_iconst (v := 4) (pc := 4) dX1_figures_4 (by decide) ?_
  refine aldv_names (pc := 5) dX1_figures_5 (vi6 hc3 (by decide +kernel)) (show (c 3).getD _ 0 = ba by rw [hc3]; rfl) ?_
  refine e_isn1 (pc := 6) dX1_figures_6 (Nat.le_of_ble_eq_true rfl) rfl ?_
  refine e_aloadn (pc := 7) dX1_figures_7 rfl ?_
  refine e_get (pc := 8) dX1_figures_8 fX1_25 rfl rfl ?_
  refine e_iconst (v := 3) (pc := 11) dX1_figures_11 (by decide) ?_
  refine e_icmp_ne (pc := 12) dX1_figures_12 (t := 30) (by decide) (fun c_12 => ?_) (fun c_12 => ?_)
  · skip
    refine e_aloadn (pc := 30) dX1_figures_30 rfl ?_
    refine e_get (pc := 31) dX1_figures_31 fX1_25 rfl rfl ?_
    refine e_iconst (v := 5) (pc := 34) dX1_figures_34 (by decide) ?_
    refine e_icmp_ne (pc := 35) dX1_figures_35 (t := 48) (by decide) (fun c_35 => ?_) (fun c_35 => ?_)
    · skip
      refine e_iloadn (pc := 48) dX1_figures_48 rfl ?_
      exact e_iret (pc := 49) dX1_figures_49 rfl (Nat.le_refl _) (Nat.le_refl _) ⟨by rw [hK] at *; simp_all [yy_fg, hfg_ba], rfl⟩
    · skip
      refine e_iconst (v := 2) (pc := 38) dX1_figures_38 (by decide) ?_
      refine e_iloadn (pc := 39) dX1_figures_39 rfl ?_
      refine e_iconst (v := 1) (pc := 40) dX1_figures_40 (by decide) ?_
      refine e_isub (pc := 41) dX1_figures_41 ?_
      refine e_max (pc := 42) dX1_figures_42 mX1_29 (mc_JR_of (Nat.le_of_ble_eq_true rfl) (Nat.le_refl _) (Nat.le_refl _) (Nat.le_of_ble_eq_true rfl)) ?_
      rw [hfg_max]
      refine e_goto (pc := 45) dX1_figures_45 (t := 49) (by decide) ?_
      exact e_iret (pc := 49) dX1_figures_49 rfl (Nat.le_refl _) (Nat.le_refl _) ⟨by rw [hK] at *; simp_all [yy_fg, hfg_ba], rfl⟩
  · skip
    refine e_iconst (v := 2) (pc := 15) dX1_figures_15 (by decide) ?_
    refine e_iloadn (pc := 16) dX1_figures_16 rfl ?_
    refine e_aloadn (pc := 17) dX1_figures_17 rfl ?_
    refine e_get (pc := 18) dX1_figures_18 fX1_11 rfl rfl ?_
    refine e_iconst (v := 0) (pc := 21) dX1_figures_21 (by decide) ?_
    refine aldv_names (pc := 22) dX1_figures_22 (vi6 hc3 (by decide +kernel)) (show (c 3).getD _ 0 = mo by rw [hc3]; rfl) ?_
    refine e_iconst (v := 3) (pc := 23) dX1_figures_23 (by decide) ?_
    refine e_idiv (pc := 24) dX1_figures_24 (by decide) ?_
    refine e_isub (pc := 25) dX1_figures_25 ?_
    refine e_max (pc := 26) dX1_figures_26 mX1_29 (mc_JR_of (Nat.le_of_ble_eq_true rfl) (Nat.le_refl _) (Nat.le_refl _) (Nat.le_of_ble_eq_true rfl)) ?_
    rw [hfg_max]
    exact e_iret (pc := 29) dX1_figures_29 rfl (Nat.le_refl _) (Nat.le_refl _) ⟨by rw [hK] at *; simp_all [yy_fg, hfg_ba], rfl⟩
theorem sp_x_isTurned {s u m n : Nat → Int32} {a c b d : Nat → List Int32} {q : List (Option Nat)} {h : Nat} {z : mc_W} {K mo nu ba ye : Int32} {sg : Nat → List Int32} (hH : xHd q z h u c K mo nu ba ye sg) : mc_D yX1_isTurned cX1_isTurned 1 (some .boolean) 2 [.ref 17] (WW s a q u c h m b n d z) (some (.int (mc_b (yy_it K)))) (WW s a q u c h m b n d z) := by
  refine mc_start (own := RX1) (ini := false) rfl (by decide +kernel) (fun h => by cases h) (Nat.le_of_ble_eq_true rfl) ?_
  show mc_E _ _ _ _ _ [some (.ref 17)] [] _ _ _
  obtain ⟨⟨cd, sa, ca, hX, hR⟩, hK, ⟨x2, x3, hc3⟩, h48, h40, hK5, hm9, hb12⟩ := id hH
  have e2 : yy_un K 1 = yy_it K := by unfold yy_un yy_it; simp
  refine e_aloadn (pc := 0) dX1_isTurned_0 rfl ?_
  refine e_get (pc := 1) dX1_isTurned_1 fX1_25 rfl rfl ?_
  refine e_iconst (v := 1) (pc := 4) dX1_isTurned_4 (by decide) ?_
  refine e_cnD (pc := 5) (sp_isOfKind (K := u 6) (v := 1) (by rw [hK]; exact hK5.1) (by rw [hK]; exact hK5.2)) dX1_isTurned_5 kX1_35 rfl rfl (mc_CR_of (Nat.le_of_ble_eq_true rfl) (Nat.le_of_ble_eq_true rfl) (Nat.le_refl _) (Nat.le_refl _)) (Nat.le_of_ble_eq_true rfl) ?_
  rw [hK, e2]
  exact e_zret (pc := 8) dX1_isTurned_8 rfl (by exact mc_bnar) (Nat.le_refl _) (Nat.le_refl _) ⟨rfl, rfl⟩
theorem sp_x_makes {s u m n : Nat → Int32} {a c b d : Nat → List Int32} {q : List (Option Nat)} {h : Nat} {z : mc_W} {K mo nu ba ye : Int32} {sg : Nat → List Int32} {v : Int32} (hH : xHd q z h u c K mo nu ba ye sg) : mc_T yX1_makes cX1_makes 3 (some .int) 5 [.ref 17, .int v] (WW s a q u c h m b n d z) (some (.int (hmk K mo nu ba ye sg v))) (fun w1 => ∃ c1, xHd q z h u c1 K mo nu ba ye sg ∧ xKc c c1 ∧ c1 5 = c 5 ∧ w1 = (WW s a q u c1 h m b n d z)) := by
  refine mc_start (own := RX1) (ini := false) rfl (by decide +kernel) (fun h => by cases h) (Nat.le_of_ble_eq_true rfl) ?_
  show mc_E _ _ _ _ _ [some (.ref 17), some (.int v), none] [] _ _ _
  obtain ⟨⟨cd, sa, ca, hX, hR⟩, hK, ⟨x2, x3, hc3⟩, h48, h40, hK5, hm9, hb12⟩ := id hH
  subst hK
  refine e_iloadn (pc := 0) dX1_makes_0 rfl ?_
  refine e_if_ne (pc := 1) dX1_makes_1 (t := 14) (by decide) (fun c_1 => ?_) (fun c_1 => ?_)
  · skip
    refine e_iloadn (pc := 14) dX1_makes_14 rfl ?_
    refine e_if_ne (pc := 15) dX1_makes_15 (t := 28) (by decide) (fun c_15 => ?_) (fun c_15 => ?_)
    · skip
      refine e_iloadn (pc := 28) dX1_makes_28 rfl ?_
      refine e_isn2 (pc := 29) dX1_makes_29 (Nat.le_of_ble_eq_true rfl) rfl ?_
      refine e_iloadn (pc := 30) dX1_makes_30 rfl ?_
      refine e_bipush (v := 10) (pc := 31) dX1_makes_31 (by decide) ?_
      refine e_irem (pc := 33) dX1_makes_33 (by decide) ?_
      refine e_if_ne (pc := 34) dX1_makes_34 (t := 51) (by decide) (fun c_34 => ?_) (fun c_34 => ?_)
      · skip
        refine e_aloadn (pc := 51) dX1_makes_51 rfl ?_
        refine e_get (pc := 52) dX1_makes_52 fX1_25 rfl rfl ?_
        refine e_iconst (v := 4) (pc := 55) dX1_makes_55 (by decide) ?_
        refine e_icmp_ne (pc := 56) dX1_makes_56 (t := 70) (by decide) (fun c_56 => ?_) (fun c_56 => ?_)
        · skip
          refine e_iloadn (pc := 70) dX1_makes_70 rfl ?_
          exact e_iret (pc := 71) dX1_makes_71 rfl (Nat.le_refl _) (Nat.le_refl _) ⟨(by clear hH; (try clear hH1); simp_all [hmk, hmk0, yy_un, mc_b0, mc_b1]), ⟨c, hH, xKc_refl c, rfl, rfl⟩⟩
        · skip
          refine e_iloadn (pc := 59) dX1_makes_59 rfl ?_
          refine e_aloadn (pc := 60) dX1_makes_60 rfl ?_
          refine e_get (pc := 61) dX1_makes_61 fX1_11 rfl rfl ?_
          refine e_iconst (v := 0) (pc := 64) dX1_makes_64 (by decide) ?_
          refine aldv_names (x := mo) (pc := 65) dX1_makes_65 (by first | exact vi6 hc3 (by decide +kernel) | exact vi6 hc31 (by decide +kernel)) (by first | (rw [hc3]; rfl) | (rw [hc31]; rfl)) ?_
          refine e_iadd (pc := 66) dX1_makes_66 ?_
          refine e_goto (pc := 67) dX1_makes_67 (t := 71) (by decide) ?_
          exact e_iret (pc := 71) dX1_makes_71 rfl (Nat.le_refl _) (Nat.le_refl _) ⟨(by clear hH; (try clear hH1); simp_all [hmk, hmk0, yy_un, mc_b0, mc_b1]), ⟨c, hH, xKc_refl c, rfl, rfl⟩⟩
      · skip
        refine e_aloadn (pc := 37) dX1_makes_37 rfl ?_
        refine e_get (pc := 38) dX1_makes_38 fX1_25 rfl rfl ?_
        refine e_iconst (v := 2) (pc := 41) dX1_makes_41 (by decide) ?_
        refine e_cnD (pc := 42) (sp_isOfKind (K := u 6) (v := 2) hK5.1 hK5.2) dX1_makes_42 kX1_35 rfl rfl (mc_CR_of (Nat.le_of_ble_eq_true rfl) (Nat.le_of_ble_eq_true rfl) (Nat.le_refl _) (Nat.le_refl _)) (Nat.le_of_ble_eq_true rfl) ?_
        refine e_if_eq (pc := 45) dX1_makes_45 (t := 51) (by decide) (fun c_45 => ?_) (fun c_45 => ?_)
        · skip
          refine e_aloadn (pc := 51) dX1_makes_51 rfl ?_
          refine e_get (pc := 52) dX1_makes_52 fX1_25 rfl rfl ?_
          refine e_iconst (v := 4) (pc := 55) dX1_makes_55 (by decide) ?_
          refine e_icmp_ne (pc := 56) dX1_makes_56 (t := 70) (by decide) (fun c_56 => ?_) (fun c_56 => ?_)
          · skip
            refine e_iloadn (pc := 70) dX1_makes_70 rfl ?_
            exact e_iret (pc := 71) dX1_makes_71 rfl (Nat.le_refl _) (Nat.le_refl _) ⟨(by clear hH; (try clear hH1); simp_all [hmk, hmk0, yy_un, mc_b0, mc_b1]), ⟨c, hH, xKc_refl c, rfl, rfl⟩⟩
          · skip
            refine e_iloadn (pc := 59) dX1_makes_59 rfl ?_
            refine e_aloadn (pc := 60) dX1_makes_60 rfl ?_
            refine e_get (pc := 61) dX1_makes_61 fX1_11 rfl rfl ?_
            refine e_iconst (v := 0) (pc := 64) dX1_makes_64 (by decide) ?_
            refine aldv_names (x := mo) (pc := 65) dX1_makes_65 (by first | exact vi6 hc3 (by decide +kernel) | exact vi6 hc31 (by decide +kernel)) (by first | (rw [hc3]; rfl) | (rw [hc31]; rfl)) ?_
            refine e_iadd (pc := 66) dX1_makes_66 ?_
            refine e_goto (pc := 67) dX1_makes_67 (t := 71) (by decide) ?_
            exact e_iret (pc := 71) dX1_makes_71 rfl (Nat.le_refl _) (Nat.le_refl _) ⟨(by clear hH; (try clear hH1); simp_all [hmk, hmk0, yy_un, mc_b0, mc_b1]), ⟨c, hH, xKc_refl c, rfl, rfl⟩⟩
        · skip
          refine e_incC2 (pc := 48) dX1_makes_48 rfl (Nat.le_of_ble_eq_true rfl) rfl ?_
          refine e_aloadn (pc := 51) dX1_makes_51 rfl ?_
          refine e_get (pc := 52) dX1_makes_52 fX1_25 rfl rfl ?_
          refine e_iconst (v := 4) (pc := 55) dX1_makes_55 (by decide) ?_
          refine e_icmp_ne (pc := 56) dX1_makes_56 (t := 70) (by decide) (fun c_56 => ?_) (fun c_56 => ?_)
          · skip
            refine e_iloadn (pc := 70) dX1_makes_70 rfl ?_
            exact e_iret (pc := 71) dX1_makes_71 rfl (Nat.le_refl _) (Nat.le_refl _) ⟨(by clear hH; (try clear hH1); simp_all [hmk, hmk0, yy_un, mc_b0, mc_b1]), ⟨c, hH, xKc_refl c, rfl, rfl⟩⟩
          · skip
            refine e_iloadn (pc := 59) dX1_makes_59 rfl ?_
            refine e_aloadn (pc := 60) dX1_makes_60 rfl ?_
            refine e_get (pc := 61) dX1_makes_61 fX1_11 rfl rfl ?_
            refine e_iconst (v := 0) (pc := 64) dX1_makes_64 (by decide) ?_
            refine aldv_names (x := mo) (pc := 65) dX1_makes_65 (by first | exact vi6 hc3 (by decide +kernel) | exact vi6 hc31 (by decide +kernel)) (by first | (rw [hc3]; rfl) | (rw [hc31]; rfl)) ?_
            refine e_iadd (pc := 66) dX1_makes_66 ?_
            refine e_goto (pc := 67) dX1_makes_67 (t := 71) (by decide) ?_
            exact e_iret (pc := 71) dX1_makes_71 rfl (Nat.le_refl _) (Nat.le_refl _) ⟨(by clear hH; (try clear hH1); simp_all [hmk, hmk0, yy_un, mc_b0, mc_b1]), ⟨c, hH, xKc_refl c, rfl, rfl⟩⟩
    · skip
      refine e_aloadn (pc := 18) dX1_makes_18 rfl ?_
      refine e_iconst (v := 0) (pc := 19) dX1_makes_19 (by decide) ?_
      refine e_iconst (v := 0) (pc := 20) dX1_makes_20 (by decide) ?_
      refine e_iconst (v := 0) (pc := 21) dX1_makes_21 (by decide) ?_
      refine e_cvX (pc := 22) (sp_x_says0 hH) dX1_makes_22 kX1_49 rfl rfl rfl rfl rfl (mc_CR_of (Nat.le_of_ble_eq_true rfl) (Nat.le_of_ble_eq_true rfl) (Nat.le_refl _) (Nat.le_refl _)) (Nat.le_of_ble_eq_true rfl) (fun w1 hw1 => ?_)
      obtain ⟨c1, hH1, hk1, hr1, rfl⟩ := hw1
      obtain ⟨-, -, ⟨y2, y3, hc31⟩, -⟩ := id hH1
      refine e_goto (pc := 25) dX1_makes_25 (t := 29) (by decide) ?_
      refine e_isn2 (pc := 29) dX1_makes_29 (Nat.le_of_ble_eq_true rfl) rfl ?_
      refine e_iloadn (pc := 30) dX1_makes_30 rfl ?_
      refine e_bipush (v := 10) (pc := 31) dX1_makes_31 (by decide) ?_
      refine e_irem (pc := 33) dX1_makes_33 (by decide) ?_
      refine e_if_ne (pc := 34) dX1_makes_34 (t := 51) (by decide) (fun c_34 => ?_) (fun c_34 => ?_)
      · skip
        refine e_aloadn (pc := 51) dX1_makes_51 rfl ?_
        refine e_get (pc := 52) dX1_makes_52 fX1_25 rfl rfl ?_
        refine e_iconst (v := 4) (pc := 55) dX1_makes_55 (by decide) ?_
        refine e_icmp_ne (pc := 56) dX1_makes_56 (t := 70) (by decide) (fun c_56 => ?_) (fun c_56 => ?_)
        · skip
          refine e_iloadn (pc := 70) dX1_makes_70 rfl ?_
          exact e_iret (pc := 71) dX1_makes_71 rfl (Nat.le_refl _) (Nat.le_refl _) ⟨(by clear hH; (try clear hH1); simp_all [hmk, hmk0, yy_un, mc_b0, mc_b1]), ⟨c1, hH1, hk1, hr1, rfl⟩⟩
        · skip
          refine e_iloadn (pc := 59) dX1_makes_59 rfl ?_
          refine e_aloadn (pc := 60) dX1_makes_60 rfl ?_
          refine e_get (pc := 61) dX1_makes_61 fX1_11 rfl rfl ?_
          refine e_iconst (v := 0) (pc := 64) dX1_makes_64 (by decide) ?_
          refine aldv_names (x := mo) (pc := 65) dX1_makes_65 (by first | exact vi6 hc3 (by decide +kernel) | exact vi6 hc31 (by decide +kernel)) (by first | (rw [hc3]; rfl) | (rw [hc31]; rfl)) ?_
          refine e_iadd (pc := 66) dX1_makes_66 ?_
          refine e_goto (pc := 67) dX1_makes_67 (t := 71) (by decide) ?_
          exact e_iret (pc := 71) dX1_makes_71 rfl (Nat.le_refl _) (Nat.le_refl _) ⟨(by clear hH; (try clear hH1); simp_all [hmk, hmk0, yy_un, mc_b0, mc_b1]), ⟨c1, hH1, hk1, hr1, rfl⟩⟩
      · skip
        refine e_aloadn (pc := 37) dX1_makes_37 rfl ?_
        refine e_get (pc := 38) dX1_makes_38 fX1_25 rfl rfl ?_
        refine e_iconst (v := 2) (pc := 41) dX1_makes_41 (by decide) ?_
        refine e_cnD (pc := 42) (sp_isOfKind (K := u 6) (v := 2) hK5.1 hK5.2) dX1_makes_42 kX1_35 rfl rfl (mc_CR_of (Nat.le_of_ble_eq_true rfl) (Nat.le_of_ble_eq_true rfl) (Nat.le_refl _) (Nat.le_refl _)) (Nat.le_of_ble_eq_true rfl) ?_
        refine e_if_eq (pc := 45) dX1_makes_45 (t := 51) (by decide) (fun c_45 => ?_) (fun c_45 => ?_)
        · skip
          refine e_aloadn (pc := 51) dX1_makes_51 rfl ?_
          refine e_get (pc := 52) dX1_makes_52 fX1_25 rfl rfl ?_
          refine e_iconst (v := 4) (pc := 55) dX1_makes_55 (by decide) ?_
          refine e_icmp_ne (pc := 56) dX1_makes_56 (t := 70) (by decide) (fun c_56 => ?_) (fun c_56 => ?_)
          · skip
            refine e_iloadn (pc := 70) dX1_makes_70 rfl ?_
            exact e_iret (pc := 71) dX1_makes_71 rfl (Nat.le_refl _) (Nat.le_refl _) ⟨(by clear hH; (try clear hH1); simp_all [hmk, hmk0, yy_un, mc_b0, mc_b1]), ⟨c1, hH1, hk1, hr1, rfl⟩⟩
          · skip
            refine e_iloadn (pc := 59) dX1_makes_59 rfl ?_
            refine e_aloadn (pc := 60) dX1_makes_60 rfl ?_
            refine e_get (pc := 61) dX1_makes_61 fX1_11 rfl rfl ?_
            refine e_iconst (v := 0) (pc := 64) dX1_makes_64 (by decide) ?_
            refine aldv_names (x := mo) (pc := 65) dX1_makes_65 (by first | exact vi6 hc3 (by decide +kernel) | exact vi6 hc31 (by decide +kernel)) (by first | (rw [hc3]; rfl) | (rw [hc31]; rfl)) ?_
            refine e_iadd (pc := 66) dX1_makes_66 ?_
            refine e_goto (pc := 67) dX1_makes_67 (t := 71) (by decide) ?_
            exact e_iret (pc := 71) dX1_makes_71 rfl (Nat.le_refl _) (Nat.le_refl _) ⟨(by clear hH; (try clear hH1); simp_all [hmk, hmk0, yy_un, mc_b0, mc_b1]), ⟨c1, hH1, hk1, hr1, rfl⟩⟩
        · skip
          refine e_incC2 (pc := 48) dX1_makes_48 rfl (Nat.le_of_ble_eq_true rfl) rfl ?_
          refine e_aloadn (pc := 51) dX1_makes_51 rfl ?_
          refine e_get (pc := 52) dX1_makes_52 fX1_25 rfl rfl ?_
          refine e_iconst (v := 4) (pc := 55) dX1_makes_55 (by decide) ?_
          refine e_icmp_ne (pc := 56) dX1_makes_56 (t := 70) (by decide) (fun c_56 => ?_) (fun c_56 => ?_)
          · skip
            refine e_iloadn (pc := 70) dX1_makes_70 rfl ?_
            exact e_iret (pc := 71) dX1_makes_71 rfl (Nat.le_refl _) (Nat.le_refl _) ⟨(by clear hH; (try clear hH1); simp_all [hmk, hmk0, yy_un, mc_b0, mc_b1]), ⟨c1, hH1, hk1, hr1, rfl⟩⟩
          · skip
            refine e_iloadn (pc := 59) dX1_makes_59 rfl ?_
            refine e_aloadn (pc := 60) dX1_makes_60 rfl ?_
            refine e_get (pc := 61) dX1_makes_61 fX1_11 rfl rfl ?_
            refine e_iconst (v := 0) (pc := 64) dX1_makes_64 (by decide) ?_
            refine aldv_names (x := mo) (pc := 65) dX1_makes_65 (by first | exact vi6 hc3 (by decide +kernel) | exact vi6 hc31 (by decide +kernel)) (by first | (rw [hc3]; rfl) | (rw [hc31]; rfl)) ?_
            refine e_iadd (pc := 66) dX1_makes_66 ?_
            refine e_goto (pc := 67) dX1_makes_67 (t := 71) (by decide) ?_
            exact e_iret (pc := 71) dX1_makes_71 rfl (Nat.le_refl _) (Nat.le_refl _) ⟨(by clear hH; (try clear hH1); simp_all [hmk, hmk0, yy_un, mc_b0, mc_b1]), ⟨c1, hH1, hk1, hr1, rfl⟩⟩
  · skip
    refine e_aloadn (pc := 4) dX1_makes_4 rfl ?_
    refine e_get (pc := 5) dX1_makes_5 fX1_25 rfl rfl ?_
    refine e_iconst (v := 5) (pc := 8) dX1_makes_8 (by decide) ?_
    refine e_icmp_ne (pc := 9) dX1_makes_9 (t := 14) (by decide) (fun c_9 => ?_) (fun c_9 => ?_)
    · skip
      refine e_iloadn (pc := 14) dX1_makes_14 rfl ?_
      refine e_if_ne (pc := 15) dX1_makes_15 (t := 28) (by decide) (fun c_15 => ?_) (fun c_15 => ?_)
      · skip
        refine e_iloadn (pc := 28) dX1_makes_28 rfl ?_
        refine e_isn2 (pc := 29) dX1_makes_29 (Nat.le_of_ble_eq_true rfl) rfl ?_
        refine e_iloadn (pc := 30) dX1_makes_30 rfl ?_
        refine e_bipush (v := 10) (pc := 31) dX1_makes_31 (by decide) ?_
        refine e_irem (pc := 33) dX1_makes_33 (by decide) ?_
        refine e_if_ne (pc := 34) dX1_makes_34 (t := 51) (by decide) (fun c_34 => ?_) (fun c_34 => ?_)
        · skip
          refine e_aloadn (pc := 51) dX1_makes_51 rfl ?_
          refine e_get (pc := 52) dX1_makes_52 fX1_25 rfl rfl ?_
          refine e_iconst (v := 4) (pc := 55) dX1_makes_55 (by decide) ?_
          refine e_icmp_ne (pc := 56) dX1_makes_56 (t := 70) (by decide) (fun c_56 => ?_) (fun c_56 => ?_)
          · skip
            refine e_iloadn (pc := 70) dX1_makes_70 rfl ?_
            exact e_iret (pc := 71) dX1_makes_71 rfl (Nat.le_refl _) (Nat.le_refl _) ⟨(by clear hH; (try clear hH1); simp_all [hmk, hmk0, yy_un, mc_b0, mc_b1]), ⟨c, hH, xKc_refl c, rfl, rfl⟩⟩
          · skip
            refine e_iloadn (pc := 59) dX1_makes_59 rfl ?_
            refine e_aloadn (pc := 60) dX1_makes_60 rfl ?_
            refine e_get (pc := 61) dX1_makes_61 fX1_11 rfl rfl ?_
            refine e_iconst (v := 0) (pc := 64) dX1_makes_64 (by decide) ?_
            refine aldv_names (x := mo) (pc := 65) dX1_makes_65 (by first | exact vi6 hc3 (by decide +kernel) | exact vi6 hc31 (by decide +kernel)) (by first | (rw [hc3]; rfl) | (rw [hc31]; rfl)) ?_
            refine e_iadd (pc := 66) dX1_makes_66 ?_
            refine e_goto (pc := 67) dX1_makes_67 (t := 71) (by decide) ?_
            exact e_iret (pc := 71) dX1_makes_71 rfl (Nat.le_refl _) (Nat.le_refl _) ⟨(by clear hH; (try clear hH1); simp_all [hmk, hmk0, yy_un, mc_b0, mc_b1]), ⟨c, hH, xKc_refl c, rfl, rfl⟩⟩
        · skip
          refine e_aloadn (pc := 37) dX1_makes_37 rfl ?_
          refine e_get (pc := 38) dX1_makes_38 fX1_25 rfl rfl ?_
          refine e_iconst (v := 2) (pc := 41) dX1_makes_41 (by decide) ?_
          refine e_cnD (pc := 42) (sp_isOfKind (K := u 6) (v := 2) hK5.1 hK5.2) dX1_makes_42 kX1_35 rfl rfl (mc_CR_of (Nat.le_of_ble_eq_true rfl) (Nat.le_of_ble_eq_true rfl) (Nat.le_refl _) (Nat.le_refl _)) (Nat.le_of_ble_eq_true rfl) ?_
          refine e_if_eq (pc := 45) dX1_makes_45 (t := 51) (by decide) (fun c_45 => ?_) (fun c_45 => ?_)
          · skip
            refine e_aloadn (pc := 51) dX1_makes_51 rfl ?_
            refine e_get (pc := 52) dX1_makes_52 fX1_25 rfl rfl ?_
            refine e_iconst (v := 4) (pc := 55) dX1_makes_55 (by decide) ?_
            refine e_icmp_ne (pc := 56) dX1_makes_56 (t := 70) (by decide) (fun c_56 => ?_) (fun c_56 => ?_)
            · skip
              refine e_iloadn (pc := 70) dX1_makes_70 rfl ?_
              exact e_iret (pc := 71) dX1_makes_71 rfl (Nat.le_refl _) (Nat.le_refl _) ⟨(by clear hH; (try clear hH1); simp_all [hmk, hmk0, yy_un, mc_b0, mc_b1]), ⟨c, hH, xKc_refl c, rfl, rfl⟩⟩
            · skip
              refine e_iloadn (pc := 59) dX1_makes_59 rfl ?_
              refine e_aloadn (pc := 60) dX1_makes_60 rfl ?_
              refine e_get (pc := 61) dX1_makes_61 fX1_11 rfl rfl ?_
              refine e_iconst (v := 0) (pc := 64) dX1_makes_64 (by decide) ?_
              refine aldv_names (x := mo) (pc := 65) dX1_makes_65 (by first | exact vi6 hc3 (by decide +kernel) | exact vi6 hc31 (by decide +kernel)) (by first | (rw [hc3]; rfl) | (rw [hc31]; rfl)) ?_
              refine e_iadd (pc := 66) dX1_makes_66 ?_
              refine e_goto (pc := 67) dX1_makes_67 (t := 71) (by decide) ?_
              exact e_iret (pc := 71) dX1_makes_71 rfl (Nat.le_refl _) (Nat.le_refl _) ⟨(by clear hH; (try clear hH1); simp_all [hmk, hmk0, yy_un, mc_b0, mc_b1]), ⟨c, hH, xKc_refl c, rfl, rfl⟩⟩
          · skip
            refine e_incC2 (pc := 48) dX1_makes_48 rfl (Nat.le_of_ble_eq_true rfl) rfl ?_
            refine e_aloadn (pc := 51) dX1_makes_51 rfl ?_
            refine e_get (pc := 52) dX1_makes_52 fX1_25 rfl rfl ?_
            refine e_iconst (v := 4) (pc := 55) dX1_makes_55 (by decide) ?_
            refine e_icmp_ne (pc := 56) dX1_makes_56 (t := 70) (by decide) (fun c_56 => ?_) (fun c_56 => ?_)
            · skip
              refine e_iloadn (pc := 70) dX1_makes_70 rfl ?_
              exact e_iret (pc := 71) dX1_makes_71 rfl (Nat.le_refl _) (Nat.le_refl _) ⟨(by clear hH; (try clear hH1); simp_all [hmk, hmk0, yy_un, mc_b0, mc_b1]), ⟨c, hH, xKc_refl c, rfl, rfl⟩⟩
            · skip
              refine e_iloadn (pc := 59) dX1_makes_59 rfl ?_
              refine e_aloadn (pc := 60) dX1_makes_60 rfl ?_
              refine e_get (pc := 61) dX1_makes_61 fX1_11 rfl rfl ?_
              refine e_iconst (v := 0) (pc := 64) dX1_makes_64 (by decide) ?_
              refine aldv_names (x := mo) (pc := 65) dX1_makes_65 (by first | exact vi6 hc3 (by decide +kernel) | exact vi6 hc31 (by decide +kernel)) (by first | (rw [hc3]; rfl) | (rw [hc31]; rfl)) ?_
              refine e_iadd (pc := 66) dX1_makes_66 ?_
              refine e_goto (pc := 67) dX1_makes_67 (t := 71) (by decide) ?_
              exact e_iret (pc := 71) dX1_makes_71 rfl (Nat.le_refl _) (Nat.le_refl _) ⟨(by clear hH; (try clear hH1); simp_all [hmk, hmk0, yy_un, mc_b0, mc_b1]), ⟨c, hH, xKc_refl c, rfl, rfl⟩⟩
      · skip
        refine e_aloadn (pc := 18) dX1_makes_18 rfl ?_
        refine e_iconst (v := 0) (pc := 19) dX1_makes_19 (by decide) ?_
        refine e_iconst (v := 0) (pc := 20) dX1_makes_20 (by decide) ?_
        refine e_iconst (v := 0) (pc := 21) dX1_makes_21 (by decide) ?_
        refine e_cvX (pc := 22) (sp_x_says0 hH) dX1_makes_22 kX1_49 rfl rfl rfl rfl rfl (mc_CR_of (Nat.le_of_ble_eq_true rfl) (Nat.le_of_ble_eq_true rfl) (Nat.le_refl _) (Nat.le_refl _)) (Nat.le_of_ble_eq_true rfl) (fun w1 hw1 => ?_)
        obtain ⟨c1, hH1, hk1, hr1, rfl⟩ := hw1
        obtain ⟨-, -, ⟨y2, y3, hc31⟩, -⟩ := id hH1
        refine e_goto (pc := 25) dX1_makes_25 (t := 29) (by decide) ?_
        refine e_isn2 (pc := 29) dX1_makes_29 (Nat.le_of_ble_eq_true rfl) rfl ?_
        refine e_iloadn (pc := 30) dX1_makes_30 rfl ?_
        refine e_bipush (v := 10) (pc := 31) dX1_makes_31 (by decide) ?_
        refine e_irem (pc := 33) dX1_makes_33 (by decide) ?_
        refine e_if_ne (pc := 34) dX1_makes_34 (t := 51) (by decide) (fun c_34 => ?_) (fun c_34 => ?_)
        · skip
          refine e_aloadn (pc := 51) dX1_makes_51 rfl ?_
          refine e_get (pc := 52) dX1_makes_52 fX1_25 rfl rfl ?_
          refine e_iconst (v := 4) (pc := 55) dX1_makes_55 (by decide) ?_
          refine e_icmp_ne (pc := 56) dX1_makes_56 (t := 70) (by decide) (fun c_56 => ?_) (fun c_56 => ?_)
          · skip
            refine e_iloadn (pc := 70) dX1_makes_70 rfl ?_
            exact e_iret (pc := 71) dX1_makes_71 rfl (Nat.le_refl _) (Nat.le_refl _) ⟨(by clear hH; (try clear hH1); simp_all [hmk, hmk0, yy_un, mc_b0, mc_b1]), ⟨c1, hH1, hk1, hr1, rfl⟩⟩
          · skip
            refine e_iloadn (pc := 59) dX1_makes_59 rfl ?_
            refine e_aloadn (pc := 60) dX1_makes_60 rfl ?_
            refine e_get (pc := 61) dX1_makes_61 fX1_11 rfl rfl ?_
            refine e_iconst (v := 0) (pc := 64) dX1_makes_64 (by decide) ?_
            refine aldv_names (x := mo) (pc := 65) dX1_makes_65 (by first | exact vi6 hc3 (by decide +kernel) | exact vi6 hc31 (by decide +kernel)) (by first | (rw [hc3]; rfl) | (rw [hc31]; rfl)) ?_
            refine e_iadd (pc := 66) dX1_makes_66 ?_
            refine e_goto (pc := 67) dX1_makes_67 (t := 71) (by decide) ?_
            exact e_iret (pc := 71) dX1_makes_71 rfl (Nat.le_refl _) (Nat.le_refl _) ⟨(by clear hH; (try clear hH1); simp_all [hmk, hmk0, yy_un, mc_b0, mc_b1]), ⟨c1, hH1, hk1, hr1, rfl⟩⟩
        · skip
          refine e_aloadn (pc := 37) dX1_makes_37 rfl ?_
          refine e_get (pc := 38) dX1_makes_38 fX1_25 rfl rfl ?_
          refine e_iconst (v := 2) (pc := 41) dX1_makes_41 (by decide) ?_
          refine e_cnD (pc := 42) (sp_isOfKind (K := u 6) (v := 2) hK5.1 hK5.2) dX1_makes_42 kX1_35 rfl rfl (mc_CR_of (Nat.le_of_ble_eq_true rfl) (Nat.le_of_ble_eq_true rfl) (Nat.le_refl _) (Nat.le_refl _)) (Nat.le_of_ble_eq_true rfl) ?_
          refine e_if_eq (pc := 45) dX1_makes_45 (t := 51) (by decide) (fun c_45 => ?_) (fun c_45 => ?_)
          · skip
            refine e_aloadn (pc := 51) dX1_makes_51 rfl ?_
            refine e_get (pc := 52) dX1_makes_52 fX1_25 rfl rfl ?_
            refine e_iconst (v := 4) (pc := 55) dX1_makes_55 (by decide) ?_
            refine e_icmp_ne (pc := 56) dX1_makes_56 (t := 70) (by decide) (fun c_56 => ?_) (fun c_56 => ?_)
            · skip
              refine e_iloadn (pc := 70) dX1_makes_70 rfl ?_
              exact e_iret (pc := 71) dX1_makes_71 rfl (Nat.le_refl _) (Nat.le_refl _) ⟨(by clear hH; (try clear hH1); simp_all [hmk, hmk0, yy_un, mc_b0, mc_b1]), ⟨c1, hH1, hk1, hr1, rfl⟩⟩
            · skip
              refine e_iloadn (pc := 59) dX1_makes_59 rfl ?_
              refine e_aloadn (pc := 60) dX1_makes_60 rfl ?_
              refine e_get (pc := 61) dX1_makes_61 fX1_11 rfl rfl ?_
              refine e_iconst (v := 0) (pc := 64) dX1_makes_64 (by decide) ?_
              refine aldv_names (x := mo) (pc := 65) dX1_makes_65 (by first | exact vi6 hc3 (by decide +kernel) | exact vi6 hc31 (by decide +kernel)) (by first | (rw [hc3]; rfl) | (rw [hc31]; rfl)) ?_
              refine e_iadd (pc := 66) dX1_makes_66 ?_
              refine e_goto (pc := 67) dX1_makes_67 (t := 71) (by decide) ?_
              exact e_iret (pc := 71) dX1_makes_71 rfl (Nat.le_refl _) (Nat.le_refl _) ⟨(by clear hH; (try clear hH1); simp_all [hmk, hmk0, yy_un, mc_b0, mc_b1]), ⟨c1, hH1, hk1, hr1, rfl⟩⟩
          · skip
            refine e_incC2 (pc := 48) dX1_makes_48 rfl (Nat.le_of_ble_eq_true rfl) rfl ?_
            refine e_aloadn (pc := 51) dX1_makes_51 rfl ?_
            refine e_get (pc := 52) dX1_makes_52 fX1_25 rfl rfl ?_
            refine e_iconst (v := 4) (pc := 55) dX1_makes_55 (by decide) ?_
            refine e_icmp_ne (pc := 56) dX1_makes_56 (t := 70) (by decide) (fun c_56 => ?_) (fun c_56 => ?_)
            · skip
              refine e_iloadn (pc := 70) dX1_makes_70 rfl ?_
              exact e_iret (pc := 71) dX1_makes_71 rfl (Nat.le_refl _) (Nat.le_refl _) ⟨(by clear hH; (try clear hH1); simp_all [hmk, hmk0, yy_un, mc_b0, mc_b1]), ⟨c1, hH1, hk1, hr1, rfl⟩⟩
            · skip
              refine e_iloadn (pc := 59) dX1_makes_59 rfl ?_
              refine e_aloadn (pc := 60) dX1_makes_60 rfl ?_
              refine e_get (pc := 61) dX1_makes_61 fX1_11 rfl rfl ?_
              refine e_iconst (v := 0) (pc := 64) dX1_makes_64 (by decide) ?_
              refine aldv_names (x := mo) (pc := 65) dX1_makes_65 (by first | exact vi6 hc3 (by decide +kernel) | exact vi6 hc31 (by decide +kernel)) (by first | (rw [hc3]; rfl) | (rw [hc31]; rfl)) ?_
              refine e_iadd (pc := 66) dX1_makes_66 ?_
              refine e_goto (pc := 67) dX1_makes_67 (t := 71) (by decide) ?_
              exact e_iret (pc := 71) dX1_makes_71 rfl (Nat.le_refl _) (Nat.le_refl _) ⟨(by clear hH; (try clear hH1); simp_all [hmk, hmk0, yy_un, mc_b0, mc_b1]), ⟨c1, hH1, hk1, hr1, rfl⟩⟩
    · skip
      refine e_iconst (v := 0) (pc := 12) dX1_makes_12 (by decide) ?_
      exact e_iret (pc := 13) dX1_makes_13 rfl (Nat.le_refl _) (Nat.le_refl _) ⟨(by clear hH; (try clear hH1); simp_all [hmk, hmk0, yy_un, mc_b0, mc_b1]), ⟨c, hH, xKc_refl c, rfl, rfl⟩⟩
