/-! ===== a new text ===== -/
theorem rng_take {l : List Int32} {K : Nat} (h : K ≤ l.length) : mc_cpy l (List.replicate K 0) 0 0 K = l.take K := by
  unfold mc_cpy
  rw [List.length_replicate]
  refine List.ext_getElem? fun j => ?_
  rw [List.getElem?_map, List.getElem?_take]
  by_cases q : j < K
  · rw [List.getElem?_range q, if_pos q]
    show some (if 0 ≤ j ∧ j < 0 + K then l.getD (0 + (j - 0)) 0 else _) = _
    rw [if_pos ⟨Nat.zero_le _, by omega⟩, show 0 + (j - 0) = j by omega, List.getD_eq_getElem?_getD, List.getElem?_eq_getElem (by omega)]
    rfl
  · rw [List.getElem?_eq_none (by rw [List.length_range]; omega), if_neg q]; rfl
theorem xmm {x : Int32} {K : Nat} (h : x = nI K) (hK : K ≤ 154) : (if (0 : Int32) < (if (160 : Int32) < x then 160 else x) then (if (160 : Int32) < x then 160 else x) else 0) = nI K := by
  subst h
  rw [if_neg (show ¬ (160 : Int32) < nI K from fun q => by rw [Int32.lt_iff_toInt_lt, nI_toInt (by omega), show (160 : Int32).toInt = 160 from rfl] at q; omega)]
  by_cases g : (0 : Int32) < nI K
  · rw [if_pos g]
  · rw [if_neg g]
    rw [Int32.lt_iff_toInt_lt, nI_toInt (by omega), i0] at g
    have : K = 0 := by omega
    subst this; rfl
theorem set_app {α : Type} {l : List α} {x y : α} : (l ++ [x]).set l.length y = l ++ [y] := by
  rw [List.set_append_right _ _ (Nat.le_refl _)]; simp
theorem WW_zset {s : Nat → Int32} {a : Nat → List Int32} {q : List (Option Nat)} {u : Nat → Int32} {c : Nat → List Int32} {h : Nat} {m : Nat → Int32} {b : Nat → List Int32} {n : Nat → Int32} {d : Nat → List Int32} {z : mc_W} {i : Nat} {v : mc_C} : (WW s a q u c h m b n d z).set (i + 46) v = WW s a q u c h m b n d (z.set i v) := rfl
theorem xm2 {K : Nat} (hK : K ≤ 154) : (if nI K < (160 : Int32) then nI K else 160) = nI K := if_pos (by rw [Int32.lt_iff_toInt_lt, nI_toInt (by omega), show (160 : Int32).toInt = 160 from rfl]; omega)
theorem sp_x_copyOf {s u m n : Nat → Int32} {a c b d : Nat → List Int32} {q : List (Option Nat)} {h : Nat} {z : mc_W} {K : Nat} (hK : K ≤ 154) (hl : (c 0).length = 160) (hz : z.length ≤ 900000) :
    mc_S yJ7_copyOf_59c91 cJ7_copyOf_59c91 3 (some (.array .int)) 2 1 160 [.ref 8, .int (nI K)] (WW s a q u c h m b n d z) (fun r w => r = some (.ref (z.length + 46)) ∧ w = (WW s a q u c h m b n d (z ++ [.inr (.inl ((c 0).take K))]))) := by
  refine mc_start (own := RJ7) (ini := false) rfl (by decide +kernel) (fun h => by cases h) (Nat.le_of_ble_eq_true rfl) ?_
  show mc_E _ _ _ _ _ [some (.ref 8), some (.int (nI K)), none] [] _ _ _
  have e16 : Int32.ofNat (c 0).length = 160 := by rw [hl]; rfl
  refine e_iloadn (pc := 0) dJ7_copyOf_59c91_0 rfl ?_
  refine e_aloadn (pc := 1) dJ7_copyOf_59c91_1 rfl ?_
  refine e_alen (pc := 2) dJ7_copyOf_59c91_2 rfl e16 ?_
  refine e_icmp_ne (pc := 3) dJ7_copyOf_59c91_3 (t := 14) (by decide) (fun _ => ?_) (fun c_3 => absurd c_3 (fun q : nI K = 160 => absurd ((nI_eq (a := K) (b := 160) (by omega) (by decide)).mp q) (by omega)))
  refine e_iloadn (pc := 14) dJ7_copyOf_59c91_14 rfl ?_
  refine e_newa (N := K) (pc := 15) dJ7_copyOf_59c91_15 arr_int (nI_pos (by omega)) (nIc (by omega)) (by omega) (by show z.length + 46 < 1000000; omega) (Nat.le_of_ble_eq_true rfl) (by show 0 + K ≤ 160; omega) ?_
  refine e_w (w2 := (WW s a q u c h m b n d (z ++ [.inr (.inl (List.replicate K 0))]))) rfl ?_
  show mc_E _ _ _ _ _ _ [.ref (z.length + 46)] _ _ _
  refine e_asn2 (pc := 17) dJ7_copyOf_59c91_17 (Nat.le_of_ble_eq_true rfl) rfl ?_
  refine e_aloadn (pc := 18) dJ7_copyOf_59c91_18 rfl ?_
  refine e_iconst (v := 0) (pc := 19) dJ7_copyOf_59c91_19 (by decide) ?_
  refine e_aloadn (pc := 20) dJ7_copyOf_59c91_20 rfl ?_
  refine e_iconst (v := 0) (pc := 21) dJ7_copyOf_59c91_21 (by decide) ?_
  refine e_aloadn (pc := 22) dJ7_copyOf_59c91_22 rfl ?_
  refine e_alen (pc := 23) dJ7_copyOf_59c91_23 rfl rfl ?_
  refine e_iloadn (pc := 24) dJ7_copyOf_59c91_24 rfl ?_
  refine e_min (pc := 25) dJ7_copyOf_59c91_25 mJ7_304 (mc_JR_of (Nat.le_of_ble_eq_true rfl) (Nat.le_refl _) (by show 0 + K ≤ 160; omega) (Nat.le_of_ble_eq_true rfl)) ?_
  refine e_top (y := nI K) (by rw [e16]; exact xm2 hK) ?_
  refine e_copy (pc := 28) (a0 := 8) (a := z.length + 46) (xs := c 0) (ys := List.replicate K 0) (sp := 0) (dp := 0) (n := nI K) dJ7_copyOf_59c91_28 oJ7_150 nat_cpy sta_cpy ini_Sys rfl (by show (z ++ [_])[z.length]? = _; simp) (by decide) (by decide) (nI_pos (by omega)) (by rw [hl, nIc (by omega)]; show 0 + K ≤ 160; omega) (by rw [List.length_replicate, nIc (by omega)]; show 0 + K ≤ K; omega) ⟨Nat.le_of_ble_eq_true rfl, Nat.le_of_ble_eq_true rfl⟩ (Nat.le_of_ble_eq_true rfl) ?_
  refine e_w (w2 := (WW s a q u c h m b n d (z ++ [.inr (.inl ((c 0).take K))]))) (by
    rw [nIc (by omega), show (0 : Int32).toNatClampNeg = 0 from rfl, rng_take (by omega), WW_zset, set_app]) ?_
  refine e_aloadn (pc := 31) dJ7_copyOf_59c91_31 rfl ?_
  exact e_aret (pc := 32) dJ7_copyOf_59c91_32 rfl (Or.inr ⟨_, rfl⟩) (Nat.le_refl _) (by show 0 + K ≤ 160; omega) ⟨rfl, rfl⟩
theorem sp_x_tinit {w : mc_W} {A0 B0 : Nat} {x y : Int32} (hw : w[A0]? = some (.inl (5, [.null, .int 0, .int 0]))) : mc_S yX5_init cX5_init 4 none 2 0 0 [.ref A0, .ref B0, .int x, .int y] w (fun r w1 => r = none ∧ w1 = w.set A0 (.inl (5, [.ref B0, .int x, .int y]))) := by
  refine mc_start (own := RX5) (ini := true) rfl (by decide +kernel) (fun _ => rfl) (Nat.le_of_ble_eq_true rfl) ?_
  show mc_E _ _ _ _ _ [some (.ref A0), some (.ref B0), some (.int x), some (.int y)] [] _ _ _
  have hl : A0 < w.length := by
    rcases Nat.lt_or_ge A0 w.length with q | q
    · exact q
    · rw [List.getElem?_eq_none q] at hw; cases hw
  have g : ∀ v : mc_C, (w.set A0 v)[A0]? = some v := fun v => by rw [List.getElem?_set, if_pos rfl, if_pos hl]
  refine e_aloadn (pc := 0) dX5_init_0 rfl ?_
  refine e_objInit (pc := 1) dX5_init_1 oX5_3 obj_inst obj_code (mc_JR_of (Nat.le_of_ble_eq_true rfl) (Nat.le_of_ble_eq_true rfl) (Nat.le_of_ble_eq_true rfl) (Nat.le_of_ble_eq_true rfl)) ?_
  refine e_aloadn (pc := 4) dX5_init_4 rfl ?_
  refine e_aloadn (pc := 5) dX5_init_5 rfl ?_
  refine e_putF (pc := 6) dX5_init_6 pX5_9 rfl hw (Nat.le_of_ble_eq_true rfl) rfl ?_
  refine e_aloadn (pc := 9) dX5_init_9 rfl ?_
  refine e_iloadn (pc := 10) dX5_init_10 rfl ?_
  refine e_putF (pc := 11) dX5_init_11 pX5_15 rfl (g _) (Nat.le_of_ble_eq_true rfl) rfl ?_
  rw [List.set_set]
  refine e_aloadn (pc := 14) dX5_init_14 rfl ?_
  refine e_iloadn (pc := 15) dX5_init_15 rfl ?_
  refine e_putF (pc := 16) dX5_init_16 pX5_19 rfl (g _) (Nat.le_of_ble_eq_true rfl) rfl ?_
  rw [List.set_set]
  exact e_vret (pc := 19) dX5_init_19 rfl (Nat.le_refl _) (Nat.le_refl _) ⟨rfl, rfl⟩
theorem set_app2 {α : Type} {l : List α} {x y x2 : α} : (l ++ [x, x2]).set l.length y = l ++ [y, x2] := by
  rw [List.set_append_right _ _ (Nat.le_refl _)]; simp
theorem sp_x_result {s u m n : Nat → Int32} {a c b d : Nat → List Int32} {q : List (Option Nat)} {h : Nat} {z : mc_W} {K : Nat} (h3 : u 3 = nI K) (hK : K ≤ 154) (hl : (c 0).length = 160) (hz : z.length ≤ 800000) :
    mc_S yX4_result cX4_result 1 (some (.object "NoZeroWithin$Text")) 3 2 170 [.ref 6] (WW s a q u c h m b n d z) (fun r w => r = some (.ref (z.length + 46)) ∧ w = (WW s a q u c h m b n d (z ++ [.inl (5, [.ref (z.length + 47), .int (u 4), .int (u 5)]), .inr (.inl ((c 0).take K))]))) := by
  refine mc_start (own := RX4) (ini := false) rfl (by decide +kernel) (fun h => by cases h) (Nat.le_of_ble_eq_true rfl) ?_
  show mc_E _ _ _ _ _ [some (.ref 6)] [] _ _ _
  have e16 : Int32.ofNat (c 0).length = 160 := by rw [hl]; rfl
  refine e_new (pc := 0) dX4_result_0 mcf5 nX4_47 insX5 iniX5 rfl (by show z.length + 46 < 1000000; omega) (Nat.le_of_ble_eq_true rfl) (Nat.le_of_ble_eq_true rfl) ?_
  refine e_w (w2 := (WW s a q u c h m b n d (z ++ [.inl (5, [.null, .int 0, .int 0])]))) rfl ?_
  show mc_E _ _ _ _ _ _ [.ref (z.length + 46)] _ _ _
  refine e_dup (pc := 3) dX4_result_3 rfl ?_
  refine e_aloadn (pc := 4) dX4_result_4 rfl ?_
  refine e_get (pc := 5) dX4_result_5 fX4_15 rfl rfl ?_
  refine e_iconst (v := 0) (pc := 8) dX4_result_8 (by decide) ?_
  refine e_aloadn (pc := 9) dX4_result_9 rfl ?_
  refine e_get (pc := 10) dX4_result_10 fX4_25 rfl rfl ?_
  refine e_aloadn (pc := 13) dX4_result_13 rfl ?_
  refine e_get (pc := 14) dX4_result_14 fX4_15 rfl rfl ?_
  refine e_alen (pc := 17) dX4_result_17 rfl e16 ?_
  refine e_min (pc := 18) dX4_result_18 mX4_49 (mc_JR_of (Nat.le_of_ble_eq_true rfl) (Nat.le_of_ble_eq_true rfl) (Nat.le_of_ble_eq_true rfl) (Nat.le_of_ble_eq_true rfl)) ?_
  refine e_max (pc := 21) dX4_result_21 mX4_55 (mc_JR_of (Nat.le_of_ble_eq_true rfl) (Nat.le_of_ble_eq_true rfl) (Nat.le_of_ble_eq_true rfl) (Nat.le_of_ble_eq_true rfl)) ?_
  refine e_top (y := nI K) (xmm h3 hK) ?_
  refine e_callS (sp_x_copyOf (z := z ++ [.inl (5, [.null, .int 0, .int 0])]) hK hl (by rw [List.length_append]; simp; omega)) dX4_result_24 kX4_58 rfl (mc_CR_of (Nat.le_of_ble_eq_true rfl) (Nat.le_of_ble_eq_true rfl) (Nat.le_of_ble_eq_true rfl) (Nat.le_of_ble_eq_true rfl)) rfl (Nat.le_of_ble_eq_true rfl) (fun r w1 h => ?_)
  obtain ⟨rfl, rfl⟩ := h
  refine e_w (w2 := (WW s a q u c h m b n d (z ++ [.inl (5, [.null, .int 0, .int 0]), .inr (.inl ((c 0).take K))]))) (by rw [List.append_assoc]; rfl) ?_
  simp only [List.length_append, List.length_cons, List.length_nil]
  show mc_E _ _ _ _ _ _ [.ref (z.length + 47), .ref (z.length + 46), .ref (z.length + 46)] _ _ _
  refine e_aloadn (pc := 27) dX4_result_27 rfl ?_
  refine e_get (pc := 28) dX4_result_28 fX4_35 rfl rfl ?_
  refine e_aloadn (pc := 31) dX4_result_31 rfl ?_
  refine e_get (pc := 32) dX4_result_32 fX4_38 rfl rfl ?_
  refine e_callI (sp_x_tinit (A0 := z.length + 46) (B0 := z.length + 47) (x := u 4) (y := u 5) (by show (z ++ [_, _])[z.length]? = _; simp)) dX4_result_35 kX4_64 rfl (mc_CR_of (Nat.le_of_ble_eq_true rfl) (Nat.le_of_ble_eq_true rfl) (Nat.le_of_ble_eq_true rfl) (Nat.le_of_ble_eq_true rfl)) rfl (Nat.le_of_ble_eq_true rfl) (fun r w1 h => ?_)
  obtain ⟨rfl, rfl⟩ := h
  exact e_aret (pc := 38) dX4_result_38 rfl (Or.inl ⟨_, rfl⟩) (Nat.le_of_ble_eq_true rfl) (Nat.le_of_ble_eq_true rfl) ⟨rfl, by rw [WW_zset, set_app2]⟩
theorem sp_x_faultPlace {s u m n : Nat → Int32} {a c b d : Nat → List Int32} {q : List (Option Nat)} {h : Nat} {z : mc_W} : mc_D yX4_faultPlace cX4_faultPlace 1 (some .int) 1 [.ref 6] (WW s a q u c h m b n d z) (some (.int (u 0))) (WW s a q u c h m b n d z) := by
  refine mc_start (own := RX4) (ini := false) rfl (by decide +kernel) (fun h => by cases h) (Nat.le_of_ble_eq_true rfl) ?_
  show mc_E _ _ _ _ _ [some (.ref 6)] [] _ _ _
  refine e_aloadn (pc := 0) dX4_faultPlace_0 rfl ?_
  refine e_get (pc := 1) dX4_faultPlace_1 fX4_44 rfl rfl ?_
  exact e_iret (pc := 4) dX4_faultPlace_4 rfl (Nat.le_refl _) (Nat.le_refl _) ⟨rfl, rfl⟩
def xtxt (T : Nat → Int32) (N t : Nat) : Int32 := if t = 6 then -4 else if (xtv T N).1 = true then nI t else -100 - nI (xtv T N).2
theorem sp_x_text {s u m n : Nat → Int32} {a c b d : Nat → List Int32} {q : List (Option Nat)} {h : Nat} {z : mc_W} (hL : xL a) {N : Nat} (hN : s 5 = nI N) (hN1 : N ≤ 160) {t : Nat} (h3 : s 3 = nI t) (ht : t ≤ 6) (hq : q.length = 6) (hl : (c 0).length = 160) (hz : z.length ≤ 800000) :
    mc_S yX6_text cX6_text 3 (some .int) 46 2 170 [.ref 0] (WW s a q u c h m b n d z) (fun r w => r = some (.int (xtxt (xT a) N t)) ∧ (t = 6 → w = (WW s a q u c h m b n d z)) ∧ (t ≠ 6 → ∃ u1 c1, (∀ j, 6 ≤ j → u1 j = u j) ∧ (∀ j, 1 ≤ j → c1 j = c j) ∧ (c1 0).length = 160 ∧ w = (if (xtv (xT a) N).1 = true then (WW (mc_up (mc_up s 5 0) 3 (nI (t + 1))) a (q.set t (some (z.length + 46))) u1 c1 h m b n d (z ++ [.inl (5, [.ref (z.length + 47), .int (nI (xtA (xT a) N).2.2.length), .int (nI (xtB (xT a) N).2.2.length)]), .inr (.inl (xtC (xT a) N).2.2)])) else (WW (mc_up s 5 0) a q u1 c1 h m b n d z)))) := by
  refine mc_start (own := RX6) (ini := false) rfl (by decide +kernel) (fun h => by cases h) (Nat.le_of_ble_eq_true rfl) ?_
  show mc_E _ _ _ _ _ [some (.ref 0), none, none] [] _ _ _
  have c6 : s 3 < 6 ↔ t < 6 := by rw [h3, Int32.lt_iff_toInt_lt, nI_toInt (by omega), show (6 : Int32).toInt = 6 from rfl]; omega
  refine e_aloadn (pc := 0) dX6_text_0 rfl ?_
  refine e_get (pc := 1) dX6_text_1 fX6_36 rfl rfl ?_
  refine e_bipush (v := 6) (pc := 4) dX6_text_4 (by decide) ?_
  refine e_icmp_lt (pc := 6) dX6_text_6 (t := 12) (by decide) (fun c_6 => ?_) (fun c_6 => ?_)
  · skip
    refine e_aloadn (pc := 12) dX6_text_12 rfl ?_
    refine e_get (pc := 13) dX6_text_13 fX6_42 rfl rfl ?_
    refine e_cvX (pc := 16) (sp_x_isText hL hN hN1 hl) dX6_text_16 kX6_101 rfl rfl rfl rfl rfl (mc_CR_of (Nat.le_of_ble_eq_true rfl) (Nat.le_of_ble_eq_true rfl) (Nat.le_of_ble_eq_true rfl) (Nat.le_of_ble_eq_true rfl)) (Nat.le_of_ble_eq_true rfl) (fun w1 hw1 => ?_)
    obtain ⟨u1, c1, hTL, rfl⟩ := hw1
    refine e_isn1 (pc := 19) dX6_text_19 (Nat.le_of_ble_eq_true rfl) rfl ?_
    refine e_aloadn (pc := 20) dX6_text_20 rfl ?_
    refine e_get (pc := 21) dX6_text_21 fX6_42 rfl rfl ?_
    refine e_cvU (pc := 24) (sp_x_tempty) dX6_text_24 kX6_105 rfl rfl rfl rfl rfl (mc_CR_of (Nat.le_of_ble_eq_true rfl) (Nat.le_of_ble_eq_true rfl) (Nat.le_of_ble_eq_true rfl) (Nat.le_of_ble_eq_true rfl)) (Nat.le_of_ble_eq_true rfl) ?_
    refine e_iloadn (pc := 27) dX6_text_27 rfl ?_
    refine e_if_ne (pc := 28) dX6_text_28 (t := 42) (by decide) (fun c_28 => ?_) (fun c_28 => ?_)
    · skip
      have ok : (xtv (xT a) N).1 = true := mc_b1.mp c_28
      obtain ⟨o3, o0, o4, o5⟩ := hTL.2.2.2.2 ok
      have t6 := c6.mp c_6
      have hlen := xtC_len (xT a) N hN1 ok
      refine e_aloadn (pc := 42) dX6_text_42 rfl ?_
      refine e_get (pc := 43) dX6_text_43 fX6_36 rfl rfl ?_
      refine e_isn2 (pc := 46) dX6_text_46 (Nat.le_of_ble_eq_true rfl) rfl ?_
      refine e_aloadn (pc := 47) dX6_text_47 rfl ?_
      refine e_get (pc := 48) dX6_text_48 fX6_32 rfl rfl ?_
      refine e_iloadn (pc := 51) dX6_text_51 rfl ?_
      refine e_aloadn (pc := 52) dX6_text_52 rfl ?_
      refine e_get (pc := 53) dX6_text_53 fX6_42 rfl rfl ?_
      refine e_callV (sp_x_result (K := (xtC (xT a) N).2.2.length) o3 hlen hTL.2.2.2.1 hz) dX6_text_56 kX6_111 rfl rfl rfl rfl (mc_CR_of (Nat.le_of_ble_eq_true rfl) (Nat.le_of_ble_eq_true rfl) (Nat.le_of_ble_eq_true rfl) (Nat.le_of_ble_eq_true rfl)) rfl (Nat.le_of_ble_eq_true rfl) (fun r w1 h => ?_)
      obtain ⟨rfl, rfl⟩ := h
      show mc_E _ _ _ _ _ _ [.ref (z.length + 46), .int (s 3), .ref 5] _ _ _
      refine e_aast (vs := [.ref (z.length + 47), .int (u1 4), .int (u1 5)]) (pc := 59) dX6_text_59 (Or.inl ⟨rfl, rfl⟩) rfl (by show (z ++ [_, _])[z.length]? = _; simp) (by rw [h3, hq]; exact vp_in_nI t6 (by decide)) ?_
      refine e_w (w2 := (WW (mc_up s 5 0) a (q.set t (some (z.length + 46))) u1 c1 h m b n d (z ++ [.inl (5, [.ref (z.length + 47), .int (u1 4), .int (u1 5)]), .inr (.inl ((c1 0).take (xtC (xT a) N).2.2.length))]))) (by rw [h3, nIc (by omega)]; rfl) ?_
      refine e_aloadn (pc := 60) dX6_text_60 rfl ?_
      refine e_dup (pc := 61) dX6_text_61 rfl ?_
      refine e_get (pc := 62) dX6_text_62 fX6_36 rfl rfl ?_
      refine e_iconst (v := 1) (pc := 65) dX6_text_65 (by decide) ?_
      refine e_iadd (pc := 66) dX6_text_66 ?_
      refine e_top ((show mc_up s 5 0 3 + 1 = nI (t + 1) by rw [upn (by decide), h3, nI_1])) ?_
      refine put_x_textCount (pc := 67) dX6_text_67 pX6_36 ?_
      refine e_iloadn (pc := 70) dX6_text_70 rfl ?_
      exact e_iret (pc := 71) dX6_text_71 rfl (Nat.le_of_ble_eq_true rfl) (Nat.le_of_ble_eq_true rfl) ⟨by unfold xtxt; rw [if_neg (show ¬ t = 6 by omega), if_pos ok]; show some (Value.int (s 3)) = _; rw [h3], fun q => absurd q (by omega), fun _ => ⟨u1, c1, hTL.2.1, hTL.2.2.1, hTL.2.2.2.1, by rw [if_pos ok, o4, o5, o0]; try rfl⟩⟩
    · skip
      refine e_bipush (v := -100) (pc := 31) dX6_text_31 (by decide) ?_
      refine e_aloadn (pc := 33) dX6_text_33 rfl ?_
      refine e_get (pc := 34) dX6_text_34 fX6_42 rfl rfl ?_
      refine e_cvD (pc := 37) (sp_x_faultPlace) dX6_text_37 kX6_108 rfl rfl rfl rfl rfl (mc_CR_of (Nat.le_of_ble_eq_true rfl) (Nat.le_of_ble_eq_true rfl) (Nat.le_of_ble_eq_true rfl) (Nat.le_of_ble_eq_true rfl)) (Nat.le_of_ble_eq_true rfl) ?_
      refine e_isub (pc := 40) dX6_text_40 ?_
      exact e_iret (pc := 41) dX6_text_41 rfl (Nat.le_of_ble_eq_true rfl) (Nat.le_of_ble_eq_true rfl) ⟨by unfold xtxt; rw [if_neg (show ¬ t = 6 by have := c6.mp c_6; omega), if_neg (show ¬ (xtv (xT a) N).1 = true by rw [mc_b0.mp c_28]; decide), hTL.1], fun q => absurd q (by have := c6.mp c_6; omega), fun _ => ⟨u1, c1, hTL.2.1, hTL.2.2.1, hTL.2.2.2.1, by rw [if_neg (show ¬ (xtv (xT a) N).1 = true by rw [mc_b0.mp c_28]; decide)]⟩⟩
  · skip
    refine e_bipush (v := -4) (pc := 9) dX6_text_9 (by decide) ?_
    exact e_iret (pc := 11) dX6_text_11 rfl (Nat.le_of_ble_eq_true rfl) (Nat.le_of_ble_eq_true rfl) ⟨by unfold xtxt; rw [if_pos (show t = 6 from Nat.le_antisymm ht (Nat.not_lt.mp (fun q => c_6 (c6.mpr q))))], fun _ => rfl, fun q => absurd (show t = 6 from Nat.le_antisymm ht (Nat.not_lt.mp (fun q => c_6 (c6.mpr q)))) q⟩
