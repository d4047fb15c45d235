/-! ===== the beginning ===== -/
def fs0 (k : Nat) : Int32 := [10, 1, 0, 1, 0, 0, 0, 0, 0, 0, 0, -1, 0, -1, 0, -1, 0, -1, 0].getD k 0
def fa0 (k : Nat) : List Int32 := [List.replicate 5 0, List.replicate 5 0, List.replicate 160 0, List.replicate 36 0, List.replicate 36 0, List.replicate 40 0, List.replicate 40 0, List.replicate 40 0, List.replicate 40 0].getD k []
def fq0 : List (Option Nat) := [some 3, none, none, none, none, none]
def fu0 (_ : Nat) : Int32 := 0
def fc0 (k : Nat) : List Int32 := [List.replicate 160 0, List.replicate 6 0, List.replicate 6 0, List.replicate 6 0, List.replicate 48 0, List.replicate 40 0].getD k []
def BB0 : Nat → List Int32 := mc_up yb0 3 (yq0 32)
def FRB (b : Nat → List Int32) : Prop := yTX 0 BB0 b true [100001, 100003, 3] [0, 1, 2]
theorem FRB.row {b : Nat → List Int32} (h : FRB b) {k : Nat} (h4 : k ≠ 4) (h5 : k ≠ 5) : b k = BB0 k := by
  obtain ⟨l, l5, hb, -⟩ := h
  subst hb
  unfold mc_up
  rw [if_neg h4, if_neg h5]
theorem fa_L : xL fa0 := by
  refine ⟨rfl, rfl, rfl, rfl, rfl, ?_⟩
  decide +kernel
theorem BB_hi {k : Nat} (h : 10 ≤ k) : BB0 k = [] := by
  unfold BB0 mc_up
  rw [if_neg (by omega)]
  unfold yb0
  rw [List.getD_eq_getElem?_getD, List.getElem?_eq_none (show _ from h)]
  rfl
theorem m_0 : ym1 = Ms fs0 := by
  funext k
  match k with
  | 0 => rfl
  | 1 => rfl
  | 2 => rfl
  | 3 => rfl
  | 4 => rfl
  | 5 => rfl
  | 6 => rfl
  | 7 => rfl
  | 8 => rfl
  | 9 => rfl
  | 10 => rfl
  | k + 11 => rfl
theorem b_0 {b : Nat → List Int32} (h : FRB b) : b = Bs fs0 fa0 (b 3) (b 4) (b 5) := by
  funext k
  match k with
  | 0 => exact h.row (by decide) (by decide)
  | 1 => exact h.row (by decide) (by decide)
  | 2 => exact h.row (by decide) (by decide)
  | 3 => rfl
  | 4 => rfl
  | 5 => rfl
  | 6 => exact h.row (by decide) (by decide)
  | 7 => exact h.row (by decide) (by decide)
  | 8 => exact h.row (by decide) (by decide)
  | 9 => exact h.row (by decide) (by decide)
  | k + 10 => exact (h.row (by omega) (by omega)).trans (BB_hi (by omega))
theorem fa_O : yO (List.replicate 36 0) := by
  refine ⟨rfl, ?_, ?_⟩
  · decide +kernel
  · decide +kernel
theorem iv_0 {b : Nat → List Int32} {n : Nat → Int32} {d : Nat → List Int32} (F : FRB b) (D : yD d) : IV (WW fs0 fa0 fq0 fu0 fc0 3 ym1 b n d []) := by
  have S := tx_seg (t := 0) (oA := [100001]) (oB := [100003]) (oC := [3]) (by decide) F (by decide) (by decide) (by decide) (by decide)
  have l3 : (b 3).length = 160 := by rw [F.row (by decide) (by decide)]; decide +kernel
  obtain ⟨l, l5, e, h1, h2, -⟩ := id F
  have l4 : (b 4).length = 1200 := by rw [e]; exact h1
  have l5 : (b 5).length = 24 := by rw [e]; exact h2
  refine IVi (s := fs0) (a := fa0) (t3 := b 3) (t4 := b 4) (t5 := b 5) (T := 1) (N := 0) ?_ m_0 (b_0 F)
  refine ⟨⟨by unfold yC; decide, ?_, by decide +kernel, by decide, by decide, rfl, by decide, by decide, by decide⟩, Or.inl rfl, ⟨?_, ?_⟩, ⟨fa_L, l3, l4, l5⟩, ⟨rfl, rfl, fun t ht => ?_⟩, ⟨rfl, by decide, fun i hi => absurd hi (Nat.not_lt_zero i)⟩, ⟨fa_O, fa_O⟩, ⟨rfl, rfl, rfl, rfl, rfl, rfl⟩, D⟩
  · exact (show ∀ i, i < 5 → 0 ≤ ((fa0 0).getD i 0).toInt ∧ ((fa0 0).getD i 0).toInt ≤ 5 by decide +kernel)
  · exact (show ∀ k, k < 4 → 0 ≤ (fs0 (12 + 2 * k)).toInt ∧ (fs0 (12 + 2 * k)).toInt ≤ 40 by decide +kernel)
  · exact (show ∀ k, k < 4 → -1 ≤ (fs0 (11 + 2 * k)).toInt ∧ (fs0 (11 + 2 * k)).toInt ≤ 2 by decide +kernel)
  · have t0 : t = 0 := by omega
    subst t0
    obtain ⟨s0, s1, s2, sT⟩ := S
    have q0 : yseg (gB (b 4) (b 5)) 0 0 = [100001] := s0
    have q1 : yseg (gB (b 4) (b 5)) 0 1 = [100003] := s1
    have q2 : yseg (gB (b 4) (b 5)) 0 2 = [3] := s2
    refine ⟨rfl, ⟨[1, 3, -4], 1, 2, fun s a u c h0 m b n d => ⟨rfl, rfl⟩, ?_⟩, sT⟩
    refine ⟨by rw [q0, q1, q2]; decide, by rw [q0]; decide, by rw [q0, q1]; decide, by decide, fun p hp => ?_⟩
    rcases (show p = 0 ∨ p = 1 ∨ p = 2 by omega) with rfl | rfl | rfl
    · rw [q0]; decide
    · rw [q1]; decide
    · rw [q2]; decide
theorem whole_start {p : Program} {e : Env} {s : State} {m : MethodId} {below : List Frame} {meth : Method} {c : Code} (l : Launch) (hflags : l.flags = flags0) {b L : Nat} {xs : Nat → Int32} (hL : L ≤ 3584) (C0 : lw_At p s m meth c b L xs) : W p l e room_1 s m #[Value.ref b] below meth c s.heap [] 0 0 (lw_Z below #[Value.ref b] s) (entryFrame m ([Value.ref b] : List Value).toArray 4) := by
  refine law_of l C0 ?_
  refine e_new (pc := 0) dL_law_0 mcf6 tw_cl7 insX6 iniX6 rfl (Nat.le_of_ble_eq_true rfl) (Nat.le_of_ble_eq_true rfl) (Nat.le_of_ble_eq_true rfl) ?_
  refine e_w (w2 := [.inl (6, [.int 0, .int 0, .int 0, .null, .null, .null, .null, .int 0, .int 0, .null, .null, .null, .null, .null])]) rfl ?_
  refine e_dup (pc := 3) dL_law_3 rfl ?_
  refine e_ciD (pc := 4) ct_X6_1 dL_law_4 kL_9 rfl rfl (lw_CR (Nat.le_of_ble_eq_true rfl) (Nat.le_of_ble_eq_true rfl) (Nat.le_of_ble_eq_true rfl) (Nat.le_of_ble_eq_true rfl)) (Nat.le_of_ble_eq_true rfl) ?_
  refine e_asn1 (pc := 7) dL_law_7 (Nat.le_of_ble_eq_true rfl) rfl ?_
  refine e_new (pc := 8) dL_law_8 mcf7 tw_cl10 insX7 iniX7 rfl (Nat.le_of_ble_eq_true rfl) (Nat.le_of_ble_eq_true rfl) (Nat.le_of_ble_eq_true rfl) ?_
  refine e_dup (pc := 11) dL_law_11 rfl ?_
  refine e_callI (pc := 12) (ct_X7 (s := fs0) (a := fa0) (q := fq0) (u := fu0) (c := fc0) (h := 3)) dL_law_12 kL_12 rfl (lw_CR (Nat.le_of_ble_eq_true rfl) (Nat.le_of_ble_eq_true rfl) (Nat.le_of_ble_eq_true rfl) (Nat.le_of_ble_eq_true rfl)) rfl (Nat.le_of_ble_eq_true rfl) (fun r w1 h => ?_)
  obtain ⟨rfl, b1, n1, d1, F, D, rfl⟩ := h
  refine e_asn2 (pc := 15) dL_law_15 (Nat.le_of_ble_eq_true rfl) rfl ?_
  refine e_iconst (v := nI (7 * 0)) (pc := 16) dL_law_16 (by decide) ?_
  refine e_isn3 (pc := 17) dL_law_17 (Nat.le_of_ble_eq_true rfl) rfl ?_
  exact law_loop (E := False) (I := fun _ w => IV w) hL (fun k w h => h) (fun k w hk hI => ops_iv w hI) 512 0 _ _ _ (by omega) (by omega) (iv_0 F D) (Nat.le_of_ble_eq_true rfl) (Nat.le_of_ble_eq_true rfl)
