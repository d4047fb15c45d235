/-! ===== a text on both sides ===== -/
section Txt
variable {s u n : Nat → Int32} {a c d : Nat → List Int32} {q : List (Option Nat)} {h : Nat} {z : mc_W} {t3 t4 t5 : List Int32} {T N : Nat}
theorem JV.txK (J : JV s a q c t3 t4 t5 d z T N) {b1 : Nat → List Int32} {ok : Bool} {o : List Int32} {S : List Nat} (hX : yTX T (Bs s a t3 t4 t5) b1 ok o S) :
    ∃ l l5, b1 = Bs s a t3 l l5 ∧ l.length = 1200 ∧ l5.length = 24 ∧ ∀ t, t < T → (∀ p, p < 3 → yseg (gB l l5) t p = yseg (gB t4 t5) t p) ∧ yT (gB l l5) t := by
  obtain ⟨-, -, -, l1, x1, -⟩ := J
  obtain ⟨l, l5, e, h1, h2, h3, h4, -⟩ := hX
  refine ⟨l, l5, by rw [e, Bs_t5, Bs_t4], h1, h2, fun t ht => ?_⟩
  exact seg_keep (B := gB t4 t5) (b := gB l l5) (T := T) (h1.trans l1.2.2.1.symm) (fun i hi => h3 i (Or.inl hi)) (fun i hi => h4 i (Or.inl hi)) ht (x1.2.2 t ht).2.2
theorem kX_K {l l5 : List Int32} (x1 : kX q t4 t5 z T) (hK : ∀ t, t < T → (∀ p, p < 3 → yseg (gB l l5) t p = yseg (gB t4 t5) t p) ∧ yT (gB l l5) t) : kX q l l5 z T := by
  refine ⟨x1.1, x1.2.1, fun t ht => ?_⟩
  obtain ⟨g1, ⟨cd, sa, ca, g2, g3⟩, -⟩ := x1.2.2 t ht
  exact ⟨g1, ⟨cd, sa, ca, g2, xTr_cg (hK t ht).1 g3⟩, (hK t ht).2⟩
theorem JV.txF (J : JV s a q c t3 t4 t5 d z T N) {c1 d1 : Nat → List Int32} {l l5 : List Int32} (hc : xC c1) (hd : yD d1) (h1 : l.length = 1200) (h2 : l5.length = 24) (hK : ∀ t, t < T → (∀ p, p < 3 → yseg (gB l l5) t p = yseg (gB t4 t5) t p) ∧ yT (gB l l5) t) :
    JV (mc_up s 5 0) a q c1 t3 l l5 d1 z T 0 := by
  obtain ⟨⟨n1, n2, n3, n4, n5, n6, n7, n8, n9⟩, ii, s1, l1, x1, k1, o1, cc, dd⟩ := J
  exact ⟨⟨n1, n2, n3, n4, n5, n6, n7, n8, n9⟩, kI_cg (fun j h1 h2 => upn (by omega)) ii, kS_cg (fun j h1 => upn (by omega)) s1, ⟨l1.1, l1.2.1, h1, h2⟩, kX_K x1 hK, ⟨rfl, by omega, fun i hi => by omega⟩, o1, hc, hd⟩
theorem JV.txT (J : JV s a q c t3 t4 t5 d z T N) {c1 d1 : Nat → List Int32} {l l5 cd : List Int32} {sa ca : Int32} (hT : T < 6) (hc : xC c1) (hd : yD d1) (h1 : l.length = 1200) (h2 : l5.length = 24) (hK : ∀ t, t < T → (∀ p, p < 3 → yseg (gB l l5) t p = yseg (gB t4 t5) t p) ∧ yT (gB l l5) t)
    (hR : xTr cd sa ca (yseg (gB l l5) T)) (hY : yT (gB l l5) T) :
    JV (mc_up (mc_up s 5 0) 3 (nI (T + 1))) a (q.set T (some (z.length + 46))) c1 t3 l l5 d1 (z ++ [.inl (5, [.ref (z.length + 47), .int sa, .int ca]), .inr (.inl cd)]) (T + 1) 0 := by
  obtain ⟨⟨n1, n2, n3, n4, n5, n6, n7, n8, n9⟩, ii, s1, l1, x1, k1, o1, cc, dd⟩ := J
  have x2 := kX_K x1 hK
  refine ⟨⟨n1, n2, n3, n4, ⟨n5.1, by show (s 4).toInt < _; omega⟩, rfl, by omega, by omega, n9⟩, ?_, kS_cg (fun j h1 => by rw [upn (by omega), upn (by omega)]) s1, ⟨l1.1, l1.2.1, h1, h2⟩, ⟨by rw [List.length_set]; exact x2.1, by rw [List.length_append, x2.2.1]; show 2 * (T - 1) + 2 = _; omega, fun t ht => ?_⟩, ⟨rfl, by omega, fun i hi => by omega⟩, o1, hc, hd⟩
  · have : kI (mc_up (mc_up s 5 0) 3 (nI (T + 1))) T := kI_cg (fun j h1 h2 => by rw [upn (by omega), upn (by omega)]) ii
    rcases this with k | ⟨k1, k2, k3, k4, k5, k6⟩
    · exact Or.inl k
    · exact Or.inr ⟨k1, k2, k3, k4, k5, by omega⟩
  · have hql := x2.1
    have hzl := x2.2.1
    by_cases e : t = T
    · subst e
      refine ⟨?_, ⟨cd, sa, ca, xTz_new n7 hzl, hR⟩, hY⟩
      rw [List.getD_eq_getElem?_getD, List.getElem?_set, if_pos rfl, if_pos (by omega)]
      show some (z.length + 46) = some (xad t)
      unfold xad
      rw [if_neg (by omega), hzl]
      congr 1
      omega
    · obtain ⟨g1, ⟨cd1, sa1, ca1, g2, g3⟩, g4⟩ := x2.2.2 t (by omega)
      refine ⟨?_, ⟨cd1, sa1, ca1, xTz_grow g2 (by omega), g3⟩, g4⟩
      rw [List.getD_eq_getElem?_getD, List.getElem?_set, if_neg (fun q => e q.symm), ← List.getD_eq_getElem?_getD]
      exact g1
theorem op_text (J : JV s a q c t3 t4 t5 d z T N) : jI yX6_text cX6_text 3 yX7_text cX7_text 3 2 170 True [] (WW s a q u c h (Ms s) (Bs s a t3 t4 t5) n d z) IV := by
  obtain ⟨e3, hT1, hT6⟩ := J.T1
  obtain ⟨hN, hN160, hag⟩ := J.2.2.2.2.2.1
  have hxc := J.xc
  have hzl := J.2.2.2.2.1.2.1
  have hX := sp_x_text (s := s) (u := u) (m := Ms s) (n := n) (a := a) (c := c) (b := Bs s a t3 t4 t5) (d := d) (q := q) (h := h) (z := z) J.xl hN hN160 e3 hT6 J.2.2.2.2.1.1 hxc.1 (by omega)
  by_cases h6 : T = 6
  · refine ⟨-4, -4, 46, 5, _, by decide, by decide, fun _ => rfl, rfl, mc_S_mono hX (fun r w k => ?_)⟩
    obtain ⟨k1, k2, -⟩ := k
    have k2 := k2 h6
    subst k2
    refine ⟨by rw [k1]; unfold xtxt; rw [if_pos h6], ⟨_, rfl⟩, D_iv J rfl rfl hxc (sp_y_textF (by show s 3 = 6; rw [e3, h6]; rfl))⟩
  · have hT : T < 6 := by omega
    have tape : ∀ p, p < N → xT a p = yt3 (Bs s a t3 t4 t5) p := fun p hp => (hag p hp).symm
    obtain ⟨ex, -⟩ := xtxt_eq hN160 tape
    have Y := fun s1 a1 q1 u1 c1 z1 => sp_y_text (s := s1) (a := a1) (q := q1) (u := u1) (c := c1) (h := h) (m := Ms s) (b := Bs s a t3 t4 t5) (n := n) (d := d) (z := z1) (t := T) (N := N) J.L hN hN160 e3 hT J.D
    by_cases ok : (ytxV (yt3 (Bs s a t3 t4 t5)) N).1 = true
    · have okx : (xtv (xT a) N).1 = true := by rw [ex]; exact ok
      obtain ⟨oA, oB, oC, f1, f2, f3, f4, f5, f6, f7, f8, f9⟩ := tx_new hN160 tape ok
      refine ⟨nI T, nI T, 46, 5, _, by decide, by decide, fun _ => rfl, rfl, mc_S_mono hX (fun r w k => ?_)⟩
      obtain ⟨k1, -, k2⟩ := k
      obtain ⟨u1, c1, -, hc1, hc0, rfl⟩ := k2 h6
      rw [if_pos okx]
      refine ⟨by rw [k1]; unfold xtxt; rw [if_neg h6, if_pos okx], ⟨_, rfl⟩, ?_⟩
      have xc1 : xC c1 := ⟨hc0, by rw [hc1 1 (by decide)]; exact hxc.2.1, by rw [hc1 2 (by decide)]; exact hxc.2.2.1, by rw [hc1 3 (by decide)]; exact hxc.2.2.2.1, by rw [hc1 4 (by decide)]; exact hxc.2.2.2.2.1, by rw [hc1 5 (by decide)]; exact hxc.2.2.2.2.2⟩
      refine mc_S_mono (Y _ _ _ _ _ _) (fun r w e => ?_)
      obtain ⟨e1, b1, n1, d1, hTX, hd1, e2⟩ := e
      have m4 : Ms s 4 = nI T := e3
      rw [if_pos ok] at e1 e2
      rw [m4, nI_1] at e2
      refine ⟨by rw [e1, m4, nI_1, nI_pred], ?_⟩
      rw [ok, f1, f5] at hTX
      obtain ⟨l, l5, eb, hl, hl5, hK⟩ := J.txK hTX
      obtain ⟨g0, g1, g2, gY⟩ := tx_seg hT hTX f6 f7 f8 f9
      rw [eb, seg_gB] at g0 g1 g2
      rw [eb, yT_gB] at gY
      have hR : xTr (xtC (xT a) N).2.2 (nI (xtA (xT a) N).2.2.length) (nI (xtB (xT a) N).2.2.length) (yseg (gB l l5) T) := by
        refine ⟨by rw [g0, g1, g2]; exact f2, by rw [g0, f3], by rw [g0, g1, f4], by rw [f2, List.length_map]; exact f6, fun p hp => ?_⟩
        rcases (show p = 0 ∨ p = 1 ∨ p = 2 by omega) with rfl | rfl | rfl
        · rw [g0]; exact f7
        · rw [g1]; exact f8
        · rw [g2]; exact f9
      have J2 := J.txT hT xc1 hd1 hl hl5 hK hR gY
      rw [e2]
      refine IVi J2 ?_ ?_
      · rw [Ms_3, Ms_5]
      · rw [eb]; exact (Bs_s (fun j hj => by rw [upn (by omega), upn (by omega)])).symm
    · have okx : ¬ (xtv (xT a) N).1 = true := by rw [ex]; exact ok
      have pl : (xtv (xT a) N).2 = (ytxV (yt3 (Bs s a t3 t4 t5)) N).2.1 := by rw [ex]
      refine ⟨-100 - nI (ytxV (yt3 (Bs s a t3 t4 t5)) N).2.1, -100 - nI (ytxV (yt3 (Bs s a t3 t4 t5)) N).2.1, 46, 5, _, by decide, by decide, fun _ => rfl, rfl, mc_S_mono hX (fun r w k => ?_)⟩
      obtain ⟨k1, -, k2⟩ := k
      obtain ⟨u1, c1, -, hc1, hc0, rfl⟩ := k2 h6
      rw [if_neg okx]
      refine ⟨by rw [k1]; unfold xtxt; rw [if_neg h6, if_neg okx, pl], ⟨_, rfl⟩, ?_⟩
      have xc1 : xC c1 := ⟨hc0, by rw [hc1 1 (by decide)]; exact hxc.2.1, by rw [hc1 2 (by decide)]; exact hxc.2.2.1, by rw [hc1 3 (by decide)]; exact hxc.2.2.2.1, by rw [hc1 4 (by decide)]; exact hxc.2.2.2.2.1, by rw [hc1 5 (by decide)]; exact hxc.2.2.2.2.2⟩
      refine mc_S_mono (Y _ _ _ _ _ _) (fun r w e => ?_)
      obtain ⟨e1, b1, n1, d1, hTX, hd1, e2⟩ := e
      rw [if_neg ok] at e1 e2
      refine ⟨e1, ?_⟩
      obtain ⟨l, l5, eb, hl, hl5, hK⟩ := J.txK hTX
      have J2 := J.txF xc1 hd1 hl hl5 hK
      rw [e2]
      refine IVi J2 ?_ ?_
      · rw [Ms_5]
      · rw [eb]; exact (Bs_s (fun j hj => upn (by omega))).symm
end Txt
