/-! ===== a new text on both sides ===== -/
theorem sp_y_textF {s u m n : Nat → Int32} {a c b d : Nat → List Int32} {q : List (Option Nat)} {h : Nat} {z : mc_W} (h4 : m 4 = 6) : mc_D yX7_text cX7_text 3 (some .int) 5 [.ref 29] (WW s a q u c h m b n d z) (some (.int (-4))) (WW s a q u c h m b n d z) := by
  refine mc_start (own := RX7) (ini := false) rfl (by decide +kernel) (fun h => by cases h) (Nat.le_of_ble_eq_true rfl) ?_
  show mc_E _ _ _ _ _ [some (.ref 29), none, none] [] _ _ _
  refine e_aloadn (pc := 0) dX7_text_0 rfl ?_
  refine e_get (pc := 1) dX7_text_1 fX7_80 rfl rfl ?_
  refine e_bipush (v := 6) (pc := 4) dX7_text_4 (by decide) ?_
  refine e_icmp_ne (pc := 6) dX7_text_6 (t := 12) (by decide) (fun c_6 => absurd h4 c_6) (fun _ => ?_)
  refine e_bipush (v := -4) (pc := 9) dX7_text_9 (by decide) ?_
  exact e_iret (pc := 11) dX7_text_11 rfl (Nat.le_refl _) (Nat.le_refl _) ⟨rfl, rfl⟩
theorem tx_new {T U : Nat → Int32} {N : Nat} (hN : N ≤ 160) (h : ∀ p, p < N → T p = U p) (ok : (ytxV U N).1 = true) : ∃ oA oB oC, (ytxV U N).2.2.1 = oA ++ (oB ++ oC) ∧ (xtC T N).2.2 = (oA ++ (oB ++ oC)).map cm ∧
    (xtA T N).2.2.length = oA.length ∧ (xtB T N).2.2.length = oA.length + oB.length ∧ (ytxV U N).2.2.2 = [0, oA.length, oA.length + oB.length] ∧ (oA ++ (oB ++ oC)).length ≤ 160 ∧ xdp oA 0 = true ∧ xdp oB 0 = true ∧ xdp oC 0 = true := by
  obtain ⟨e, k⟩ := xtxt_eq hN h
  have okx : (xtv T N).1 = true := by rw [e]; exact ok
  obtain ⟨k1, k2⟩ := k ok
  obtain ⟨lA, lB, lC, eA, eB, eC, qA, qB, qC⟩ := text_parts hN okx
  have hlen := xtC_len T N hN okx
  have hv := ytxV_v U N
  rw [k1] at eC
  obtain ⟨oA, o2, e1, m1, e2⟩ := List.map_eq_append_iff.mp eC
  obtain ⟨oB, oC, e3, m2, m3⟩ := List.map_eq_append_iff.mp e2
  subst e3
  rw [k1, List.length_map, e1] at hlen
  rw [e1] at hv
  have lAl : lA.length = oA.length := by rw [← m1, List.length_map]
  have lBl : lB.length = oB.length := by rw [← m2, List.length_map]
  refine ⟨oA, oB, oC, e1, by rw [k1, e1], by rw [eA]; exact lAl, by rw [eB, List.length_append, lAl, lBl], by rw [k2, eA, eB, List.length_append, lAl, lBl], by omega, ?_, ?_, ?_⟩
  · exact zx_dp oA 0 (fun y hy => hv y (List.mem_append_left _ hy)) (by rw [m1]; exact qA)
  · exact zx_dp oB 0 (fun y hy => hv y (List.mem_append_right _ (List.mem_append_left _ hy))) (by rw [m2]; exact qB)
  · exact zx_dp oC 0 (fun y hy => hv y (List.mem_append_right _ (List.mem_append_right _ hy))) (by rw [m3]; exact qC)
theorem seg_new {l o pre mid post : List Int32} {K : Nat} (e : o = pre ++ (mid ++ post)) (h : ∀ i, i < o.length → l.getD (K + i) 0 = o.getD i 0) (hl : K + o.length ≤ l.length) : (l.drop (K + pre.length)).take mid.length = mid := by
  have el : o.length = pre.length + (mid.length + post.length) := by rw [e, List.length_append, List.length_append]
  refine li_ext (by rw [List.length_take, List.length_drop]; omega) (fun j hj => ?_)
  have hj2 : j < mid.length := by rw [List.length_take] at hj; omega
  have k := h (pre.length + j) (by omega)
  rw [List.getD_eq_getElem?_getD, List.getElem?_take_of_lt hj2, List.getElem?_drop, ← List.getD_eq_getElem?_getD, show K + pre.length + j = K + (pre.length + j) by omega, k, e, List.getD_eq_getElem?_getD, List.getD_eq_getElem?_getD, List.getElem?_append_right (by omega), Nat.add_sub_cancel_left, List.getElem?_append_left hj2]
theorem dt_eq {l r : List Int32} {X Y : Nat} (hl : l.length = r.length) (h : ∀ i, X ≤ i → i < X + Y → l.getD i 0 = r.getD i 0) : (l.drop X).take Y = (r.drop X).take Y := by
  refine li_ext (by rw [List.length_take, List.length_take, List.length_drop, List.length_drop, hl]) (fun j hj => ?_)
  have hj2 : j < Y := by rw [List.length_take] at hj; omega
  have k := h (X + j) (by omega) (by omega)
  rw [List.getD_eq_getElem?_getD, List.getElem?_take_of_lt hj2, List.getElem?_drop, ← List.getD_eq_getElem?_getD, k]
  rw [List.getD_eq_getElem?_getD, List.getD_eq_getElem?_getD, List.getElem?_take_of_lt hj2, List.getElem?_drop]
theorem seg_keep {B b : Nat → List Int32} {t T : Nat} (hl : (b 4).length = (B 4).length) (h4 : ∀ i, i < 200 * T → (b 4).getD i 0 = (B 4).getD i 0) (h5 : ∀ i, i < 4 * T → (b 5).getD i 0 = (B 5).getD i 0) (ht : t < T) (hy : yT B t) : (∀ p, p < 3 → yseg b t p = yseg B t p) ∧ yT b t := by
  have fr : ∀ p, p ≤ 3 → yfr b t p = yfr B t p := fun p hp => h5 (4 * t + p) (by omega)
  have sg : ∀ p, p < 3 → yseg b t p = yseg B t p := fun p hp => by
    obtain ⟨g1, g2, g3, -⟩ := hy p hp
    have t1 := tnc g1
    have t2 := tnc (x := yfr B t (p + 1)) (by omega)
    unfold yseg
    rw [fr p (by omega), fr (p + 1) (by omega)]
    exact dt_eq hl (fun i hi1 hi2 => h4 i (by omega))
  refine ⟨sg, fun p hp => ?_⟩
  rw [fr p (by omega), fr (p + 1) (by omega), sg p hp]
  exact hy p hp
theorem xTr_cg {cd : List Int32} {sa ca : Int32} {sg sg2 : Nat → List Int32} (h : ∀ p, p < 3 → sg2 p = sg p) (H : xTr cd sa ca sg) : xTr cd sa ca sg2 := by
  obtain ⟨h1, h2, h3, h4, h5⟩ := H
  exact ⟨by rw [h 0 (by decide), h 1 (by decide), h 2 (by decide)]; exact h1, by rw [h 0 (by decide)]; exact h2, by rw [h 0 (by decide), h 1 (by decide)]; exact h3, h4, fun p hp => by rw [h p hp]; exact h5 p hp⟩
theorem WW_zget {s : Nat → Int32} {a : Nat → List Int32} {q : List (Option Nat)} {u : Nat → Int32} {c : Nat → List Int32} {h : Nat} {m : Nat → Int32} {b : Nat → List Int32} {n : Nat → Int32} {d : Nat → List Int32} {z : mc_W} {i : Nat} : (WW s a q u c h m b n d z)[i + 46]? = z[i]? := rfl
theorem xTz_grow {q q2 : List (Option Nat)} {z w : mc_W} {t : Nat} {cd : List Int32} {sa ca : Int32} (h : xTz q z (xad t) cd sa ca) (ht : t = 0 ∨ 2 * (t - 1) + 1 < z.length) : xTz q2 (z ++ w) (xad t) cd sa ca := by
  intro s a u c h0 m b n d
  have H := h s a u c h0 m b n d
  cases t with
  | zero => exact H
  | succ j =>
    have hj : 2 * j + 1 < z.length := by omega
    have e : xad (j + 1) = 2 * j + 46 := by unfold xad; rw [if_neg (by omega)]; omega
    rw [e, show 2 * j + 46 + 1 = (2 * j + 1) + 46 by omega, WW_zget, WW_zget] at H ⊢
    rw [List.getElem?_append_left (by omega), List.getElem?_append_left (by omega)]
    exact H
theorem xTz_new {q : List (Option Nat)} {z : mc_W} {t : Nat} {cd : List Int32} {sa ca : Int32} (ht : 1 ≤ t) (hz : z.length = 2 * (t - 1)) : xTz q (z ++ [.inl (5, [.ref (z.length + 47), .int sa, .int ca]), .inr (.inl cd)]) (xad t) cd sa ca := by
  intro s a u c h0 m b n d
  have e : xad t = z.length + 46 := by unfold xad; rw [if_neg (by omega)]; omega
  rw [e, show z.length + 46 + 1 = (z.length + 1) + 46 by omega, WW_zget, WW_zget]
  refine ⟨?_, ?_⟩
  · rw [List.getElem?_append_right (Nat.le_refl _), Nat.sub_self]; rfl
  · rw [List.getElem?_append_right (by omega), show z.length + 1 - z.length = 1 by omega]; rfl
/-- the new text, behind the others: its parts, as both sides have them -/
theorem tx_seg {t : Nat} {B b : Nat → List Int32} {oA oB oC : List Int32} (ht : t < 6) (h : yTX t B b true (oA ++ (oB ++ oC)) [0, oA.length, oA.length + oB.length]) (hl : (oA ++ (oB ++ oC)).length ≤ 160) (dA : xdp oA 0 = true) (dB : xdp oB 0 = true) (dC : xdp oC 0 = true) :
    yseg b t 0 = oA ∧ yseg b t 1 = oB ∧ yseg b t 2 = oC ∧ yT b t := by
  obtain ⟨l, l5, rfl, l1200, -, -, -, k⟩ := h
  obtain ⟨k4, k5, k6⟩ := k rfl
  have el : (oA ++ (oB ++ oC)).length = oA.length + (oB.length + oC.length) := by rw [List.length_append, List.length_append]
  have f0 : yfr (mc_up (mc_up B 5 l5) 4 l) t 0 = nI 0 := k5 0 (by decide)
  have f1 : yfr (mc_up (mc_up B 5 l5) 4 l) t 1 = nI oA.length := k5 1 (by decide)
  have f2 : yfr (mc_up (mc_up B 5 l5) 4 l) t 2 = nI (oA.length + oB.length) := k5 2 (by decide)
  have f3 : yfr (mc_up (mc_up B 5 l5) 4 l) t 3 = nI (oA ++ (oB ++ oC)).length := k6
  have b4 : (mc_up (mc_up B 5 l5) 4 l) 4 = l := rfl
  have s0 : yseg (mc_up (mc_up B 5 l5) 4 l) t 0 = oA := by
    unfold yseg
    rw [f0, f1, nIc (by omega), nIc (by omega), b4]
    exact seg_new (o := oA ++ (oB ++ oC)) (pre := []) (mid := oA) (post := oB ++ oC) rfl k4 (by omega)
  have s1 : yseg (mc_up (mc_up B 5 l5) 4 l) t 1 = oB := by
    unfold yseg
    rw [f1, f2, nIc (by omega), nIc (by omega), b4, Nat.add_sub_cancel_left]
    exact seg_new (pre := oA) (mid := oB) (post := oC) rfl k4 (by omega)
  have s2 : yseg (mc_up (mc_up B 5 l5) 4 l) t 2 = oC := by
    unfold yseg
    rw [f2, f3, nIc (by omega), nIc (by omega), b4, show (oA ++ (oB ++ oC)).length - (oA.length + oB.length) = oC.length by omega]
    have := seg_new (l := l) (o := oA ++ (oB ++ oC)) (K := 200 * t) (pre := oA ++ oB) (mid := oC) (post := []) (by rw [List.append_nil, List.append_assoc]) k4 (by omega)
    rwa [List.length_append] at this
  refine ⟨s0, s1, s2, fun p hp => ?_⟩
  rcases (show p = 0 ∨ p = 1 ∨ p = 2 by omega) with rfl | rfl | rfl
  · rw [f0, f1, s0, nI_toInt (by omega), nI_toInt (by omega)]
    exact ⟨by omega, by omega, by omega, xy_dp _ _ dA⟩
  · rw [f1, f2, s1, nI_toInt (by omega), nI_toInt (by omega)]
    exact ⟨by omega, by omega, by omega, xy_dp _ _ dB⟩
  · rw [f2, f3, s2, nI_toInt (by omega), nI_toInt (by omega)]
    exact ⟨by omega, by omega, by omega, xy_dp _ _ dC⟩
