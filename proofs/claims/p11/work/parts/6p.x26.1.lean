theorem sp_x_copyOf {s u m n : Nat → Int32} {a c b d : Nat → List Int32} {q : List (Option Nat)} {h : Nat} {z : mc_W} {K : Nat} (hK : K ≤ 154) (hl : (c 0).length = 160) (hz : z.length ≤ 900000) :
    mc_S yJ7_copyOf_59c91 cJ7_copyOf_59c91 3 (some (.array .int)) 2 1 160 [.ref 8, .int (nI K)] (WW s a q u c h m b n d z) (fun r w => r = some (.ref (z.length + 46)) ∧ w = (WW s a q u c h m b n d (z ++ [.inr (.inl ((c 0).take K))]))) := by
  refine mc_start (own := RJ7) (ini := false) rfl (by decide +kernel) (fun h => by cases h) (Nat.le_of_ble_eq_true rfl) ?_
  show mc_E _ _ _ _ _ [some (.ref 8), some (.int (nI K)), none] [] _ _ _
  have e16 : Int32.ofNat (c 0).length = 160 := by rw [hl]; rfl
  refine e_iloadn (pc := 0) dJ7_copyOf_59c91_0 rfl ?_
  refine e_aloadn (pc := 1) dJ7_copyOf_59c91_1 rfl ?_
  refine e_alen (pc := 2) dJ7_copyOf_59c91_2 rfl e16 ?_
  refine e_icmp_ne (pc := 3) dJ7_copyOf_59c91_3 (t := 14) (by decide) (fun _ => ?_) (fun c_3 => absurd c_3 (fun q : nI K = 160 => absurd ((nI_eq (a := K) (b := 160) (by omega) (by decide)).mp q) (by omega)))
  refine e_iloadn (pc := 14) dJ7_copyOf_59c91_14 rfl ?_
  refine e_newa (N := K) (pc := 15) dJ7_copyOf_59c91_15 arr_int (nI_pos (by omega)) (nIc (by omega)) (by omega) (by show z.length + 46 < 1000000; omega) (Nat.le_of_ble_eq_true rfl) (by show 0 + K ≤ 160; omega) ?_
  refine e_w (w2 := (WW s a q u c h m b n d (z ++ [.inr (.inl (List.replicate K 0))]))) rfl ?_
  show mc_E _ _ _ _ _ _ [.ref (z.length + 46)] _ _ _
  refine e_asn2 (pc := 17) dJ7_copyOf_59c91_17 (Nat.le_of_ble_eq_true rfl) rfl ?_
  refine e_aloadn (pc := 18) dJ7_copyOf_59c91_18 rfl ?_
  refine e_iconst (v := 0) (pc := 19) dJ7_copyOf_59c91_19 (by decide) ?_
  refine e_aloadn (pc := 20) dJ7_copyOf_59c91_20 rfl ?_
  refine e_iconst (v := 0) (pc := 21) dJ7_copyOf_59c91_21 (by decide) ?_
  refine e_aloadn (pc := 22) dJ7_copyOf_59c91_22 rfl ?_
  refine e_alen (pc := 23) dJ7_copyOf_59c91_23 rfl rfl ?_
  refine e_iloadn (pc := 24) dJ7_copyOf_59c91_24 rfl ?_
  refine e_min (pc := 25) dJ7_copyOf_59c91_25 mJ7_304 (mc_JR_of (Nat.le_of_ble_eq_true rfl) (Nat.le_refl _) (by show 0 + K ≤ 160; omega) (Nat.le_of_ble_eq_true rfl)) ?_
  refine e_top (y := nI K) (by rw [e16]; exact xm2 hK) ?_
  refine e_copy (pc := 28) (a0 := 8) (a := z.length + 46) (xs := c 0) (ys := List.replicate K 0) (sp := 0) (dp := 0) (n := nI K) dJ7_copyOf_59c91_28 oJ7_150 nat_cpy sta_cpy ini_Sys rfl (by show (z ++ [_])[z.length]? = _; simp) (by decide) (by decide) (nI_pos (by omega)) (by rw [hl, nIc (by omega)]; show 0 + K ≤ 160; omega) (by rw [List.length_replicate, nIc (by omega)]; show 0 + K ≤ K; omega) ⟨Nat.le_of_ble_eq_true rfl, Nat.le_of_ble_eq_true rfl⟩ (Nat.le_of_ble_eq_true rfl) ?_
  refine e_w (w2 := (WW s a q u c h m b n d (z ++ [.inr (.inl ((c 0).take K))]))) (by
    rw [nIc (by omega), show (0 : Int32).toNatClampNeg = 0 from rfl, rng_take (by omega), WW_zset, set_app]) ?_
  refine e_aloadn (pc := 31) dJ7_copyOf_59c91_31 rfl ?_
  exact e_aret (pc := 32) dJ7_copyOf_59c91_32 rfl (Or.inr ⟨_, rfl⟩) (Nat.le_refl _) (by show 0 + K ≤ 160; omega) ⟨rfl, rfl⟩
