theorem sp_x_result {s u m n : Nat → Int32} {a c b d : Nat → List Int32} {q : List (Option Nat)} {h : Nat} {z : mc_W} {K : Nat} (h3 : u 3 = nI K) (hK : K ≤ 154) (hl : (c 0).length = 160) (hz : z.length ≤ 800000) :
    mc_S yX4_result cX4_result 1 (some (.object "NoZeroWithin$Text")) 3 2 170 [.ref 6] (WW s a q u c h m b n d z) (fun r w => r = some (.ref (z.length + 46)) ∧ w = (WW s a q u c h m b n d (z ++ [.inl (5, [.ref (z.length + 47), .int (u 4), .int (u 5)]), .inr (.inl ((c 0).take K))]))) := by
  refine mc_start (own := RX4) (ini := false) rfl (by decide +kernel) (fun h => by cases h) (Nat.le_of_ble_eq_true rfl) ?_
  show mc_E _ _ _ _ _ [some (.ref 6)] [] _ _ _
  have e16 : Int32.ofNat (c 0).length = 160 := by rw [hl]; rfl
  refine e_new (pc := 0) dX4_result_0 mcf5 nX4_47 insX5 iniX5 rfl (by show z.length + 46 < 1000000; omega) (Nat.le_of_ble_eq_true rfl) (Nat.le_of_ble_eq_true rfl) ?_
  refine e_w (w2 := (WW s a q u c h m b n d (z ++ [.inl (5, [.null, .int 0, .int 0])]))) rfl ?_
  show mc_E _ _ _ _ _ _ [.ref (z.length + 46)] _ _ _
  refine e_dup (pc := 3) dX4_result_3 rfl ?_
  refine e_aloadn (pc := 4) dX4_result_4 rfl ?_
  refine e_get (pc := 5) dX4_result_5 fX4_15 rfl rfl ?_
  refine e_iconst (v := 0) (pc := 8) dX4_result_8 (by decide) ?_
  refine e_aloadn (pc := 9) dX4_result_9 rfl ?_
  refine e_get (pc := 10) dX4_result_10 fX4_25 rfl rfl ?_
  refine e_aloadn (pc := 13) dX4_result_13 rfl ?_
  refine e_get (pc := 14) dX4_result_14 fX4_15 rfl rfl ?_
  refine e_alen (pc := 17) dX4_result_17 rfl e16 ?_
  refine e_min (pc := 18) dX4_result_18 mX4_49 (mc_JR_of (Nat.le_of_ble_eq_true rfl) (Nat.le_of_ble_eq_true rfl) (Nat.le_of_ble_eq_true rfl) (Nat.le_of_ble_eq_true rfl)) ?_
  refine e_max (pc := 21) dX4_result_21 mX4_55 (mc_JR_of (Nat.le_of_ble_eq_true rfl) (Nat.le_of_ble_eq_true rfl) (Nat.le_of_ble_eq_true rfl) (Nat.le_of_ble_eq_true rfl)) ?_
  refine e_top (y := nI K) (xmm h3 hK) ?_
  have hz2 : (z ++ [.inl (5, [.null, .int 0, .int 0])] : mc_W).length ≤ 900000 := by
    rw [List.length_append]; show z.length + 1 ≤ 900000; omega
  have H := sp_x_copyOf (s := s) (a := a) (q := q) (u := u) (c := c) (h := h) (m := m) (b := b) (n := n) (d := d) (z := z ++ [.inl (5, [.null, .int 0, .int 0])]) hK hl hz2
  refine e_callS (st := [.ref (z.length + 46), .ref (z.length + 46)]) H dX4_result_24 kX4_58 rfl (mc_CR_of (Nat.le_of_ble_eq_true rfl) (Nat.le_of_ble_eq_true rfl) (Nat.le_of_ble_eq_true rfl) (Nat.le_of_ble_eq_true rfl)) rfl (Nat.le_of_ble_eq_true rfl) (fun r w1 h => ?_)
  obtain ⟨rfl, rfl⟩ := h
  refine e_w (w2 := (WW s a q u c h m b n d (z ++ [.inl (5, [.null, .int 0, .int 0]), .inr (.inl ((c 0).take K))]))) (by rw [List.append_assoc]; rfl) ?_
  simp only [List.length_append, List.length_cons, List.length_nil]
  show mc_E _ _ _ _ _ _ [.ref (z.length + 47), .ref (z.length + 46), .ref (z.length + 46)] _ _ _
  refine e_aloadn (pc := 27) dX4_result_27 rfl ?_
  refine e_get (pc := 28) dX4_result_28 fX4_35 rfl rfl ?_
  refine e_aloadn (pc := 31) dX4_result_31 rfl ?_
  refine e_get (pc := 32) dX4_result_32 fX4_38 rfl rfl ?_
  refine e_callI (sp_x_tinit (A0 := z.length + 46) (B0 := z.length + 47) (x := u 4) (y := u 5) (by show (z ++ [_, _])[z.length]? = _; simp)) dX4_result_35 kX4_64 rfl (mc_CR_of (Nat.le_of_ble_eq_true rfl) (Nat.le_of_ble_eq_true rfl) (Nat.le_of_ble_eq_true rfl) (Nat.le_of_ble_eq_true rfl)) rfl (Nat.le_of_ble_eq_true rfl) (fun r w1 h => ?_)
  obtain ⟨rfl, rfl⟩ := h
  exact e_aret (pc := 38) dX4_result_38 rfl (Or.inl ⟨_, rfl⟩) (Nat.le_of_ble_eq_true rfl) (Nat.le_of_ble_eq_true rfl) ⟨rfl, by rw [WW_zset, set_app2]⟩
