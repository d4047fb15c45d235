/-! ===== what holds between any two calls ===== -/
def gB (t4 t5 : List Int32) : Nat → List Int32 := fun k => match k with | 4 => t4 | 5 => t5 | _ => []
def kN (s : Nat → Int32) (a : Nat → List Int32) (T : Nat) : Prop := yC s ∧ xK s a ∧ (∀ i, i < 5 → 0 ≤ ((a 1).getD i 0).toInt ∧ ((a 1).getD i 0).toInt ≤ 9) ∧ (2 ≤ (s 0).toInt ∧ (s 0).toInt ≤ 12) ∧ (0 ≤ (s 4).toInt ∧ (s 4).toInt < T) ∧ s 3 = nI T ∧ 1 ≤ T ∧ T ≤ 6 ∧ yy_yr (s 1) = true
def kI (s : Nat → Int32) (T : Nat) : Prop := s 6 = 0 ∨ (s 6 = 1 ∧ (2 ≤ (s 7).toInt ∧ (s 7).toInt ≤ 12) ∧ yy_yr (s 8) = true ∧ (0 ≤ (s 9).toInt ∧ (s 9).toInt ≤ 5) ∧ 0 ≤ (s 10).toInt ∧ (s 10).toInt < T)
def kS (s : Nat → Int32) : Prop := xS s ∧ ∀ k, k < 4 → -1 ≤ (s (11 + 2 * k)).toInt ∧ (s (11 + 2 * k)).toInt ≤ 2
def kL (a : Nat → List Int32) (t3 t4 t5 : List Int32) : Prop := xL a ∧ t3.length = 160 ∧ t4.length = 1200 ∧ t5.length = 24
def kX (q : List (Option Nat)) (t4 t5 : List Int32) (z : mc_W) (T : Nat) : Prop := q.length = 6 ∧ z.length = 2 * (T - 1) ∧ ∀ t, t < T → q.getD t none = some (xad t) ∧ (∃ cd sa ca, xTz q z (xad t) cd sa ca ∧ xTr cd sa ca (yseg (gB t4 t5) t)) ∧ yT (gB t4 t5) t
def kT (s : Nat → Int32) (a : Nat → List Int32) (t3 : List Int32) (N : Nat) : Prop := s 5 = nI N ∧ N ≤ 160 ∧ ∀ i, i < N → t3.getD i 0 = (a 2).getD i 0
def JV (s : Nat → Int32) (a : Nat → List Int32) (q : List (Option Nat)) (c : Nat → List Int32) (t3 t4 t5 : List Int32) (d : Nat → List Int32) (z : mc_W) (T N : Nat) : Prop :=
  kN s a T ∧ kI s T ∧ kS s ∧ kL a t3 t4 t5 ∧ kX q t4 t5 z T ∧ kT s a t3 N ∧ (yO (a 3) ∧ yO (a 4)) ∧ xC c ∧ yD d
def IV (w : mc_W) : Prop := ∃ (s : Nat → Int32) (a : Nat → List Int32) (q : List (Option Nat)) (u : Nat → Int32) (c : Nat → List Int32) (h : Nat) (t3 t4 t5 : List Int32) (n : Nat → Int32) (d : Nat → List Int32) (z : mc_W) (T N : Nat), w = WW s a q u c h (Ms s) (Bs s a t3 t4 t5) n d z ∧ JV s a q c t3 t4 t5 d z T N
section Inv
variable {s s1 u n m1 : Nat → Int32} {a a1 c d b1 : Nat → List Int32} {q : List (Option Nat)} {h : Nat} {z : mc_W} {t3 t4 t5 l : List Int32} {T N : Nat}
theorem seg_gB : yseg (Bs s a t3 t4 t5) = yseg (gB t4 t5) := rfl
theorem yT_gB {t : Nat} : yT (Bs s a t3 t4 t5) t ↔ yT (gB t4 t5) t := Iff.rfl
theorem JV.ok (J : JV s a q c t3 t4 t5 d z T N) : xOK s a q c z T (yseg (Bs s a t3 t4 t5)) := by
  obtain ⟨⟨n1, n2, n3, n4, n5, n6, n7, n8, n9⟩, -, -, l1, x1, -, -, cc, -⟩ := J
  exact ⟨l1.1, n1, n2, ⟨x1.1, n8, fun t ht => ⟨(x1.2.2 t ht).1, (x1.2.2 t ht).2.1⟩⟩, n5, cc, n4, n3⟩
theorem JV.L (J : JV s a q c t3 t4 t5 d z T N) : yL (Bs s a t3 t4 t5) := by
  obtain ⟨-, -, -, ⟨⟨l0, l1, l2, l3, l4, l5⟩, h3, h4, h5⟩, -⟩ := J
  exact ⟨l0, l1, l3, h3, h4, h5, l4, rfl, rfl, xcells_len ⟨l0, l1, l2, l3, l4, l5⟩⟩
theorem JV.T1 (J : JV s a q c t3 t4 t5 d z T N) : s 3 = nI T ∧ 1 ≤ T ∧ T ≤ 6 := by
  obtain ⟨⟨n1, n2, n3, n4, n5, n6, n7, n8, n9⟩, -⟩ := J
  exact ⟨n6, n7, n8⟩
theorem JV.C (J : JV s a q c t3 t4 t5 d z T N) : yC (Ms s) := J.1.1
theorem JV.D (J : JV s a q c t3 t4 t5 d z T N) : yD d := J.2.2.2.2.2.2.2.2
theorem JV.yr (J : JV s a q c t3 t4 t5 d z T N) : yy_yr (Ms s 1) = true := J.1.2.2.2.2.2.2.2.2
theorem JV.S (J : JV s a q c t3 t4 t5 d z T N) : xS s := J.2.2.1.1
theorem JV.xl (J : JV s a q c t3 t4 t5 d z T N) : xL a := J.2.2.2.1.1
theorem JV.mo (J : JV s a q c t3 t4 t5 d z T N) : ∀ i, i < 5 → 0 ≤ ((a 1).getD i 0).toInt ∧ ((a 1).getD i 0).toInt ≤ 9 := J.1.2.2.1
theorem JV.O (J : JV s a q c t3 t4 t5 d z T N) : yO (a 3) := J.2.2.2.2.2.2.1.1
theorem JV.xc (J : JV s a q c t3 t4 t5 d z T N) : xC c := J.2.2.2.2.2.2.2.1
theorem JV.G (J : JV s a q c t3 t4 t5 d z T N) : yG (Ms s) (Bs s a t3 t4 t5) := by
  have hL := J.L
  obtain ⟨⟨n1, n2, n3, n4, n5, n6, n7, n8, n9⟩, -, -, l1, x1, -, -, cc, -⟩ := J
  have e : (Ms s 4).toInt = T := by show (s 3).toInt = _; rw [n6, nI_toInt (by omega)]
  refine ⟨hL, n1, n4, ⟨n5.1, ?_, ?_⟩, fun t ht => ?_, fun i hi => ⟨n2 i hi, n3 i hi⟩⟩
  · rw [e]; exact n5.2
  · rw [e]; omega
  · rw [e] at ht; exact (x1.2.2 t (by omega)).2.2
theorem JV.V (J : JV s a q c t3 t4 t5 d z T N) : yV (Ms s) (Bs s a t3 t4 t5) := by
  have hG := J.G
  obtain ⟨-, -, -, ⟨g1, g2, g3⟩, g4, -⟩ := hG
  have t := tnc (x := Ms s 5) g1
  exact ⟨g1, by omega, g4 _ (by omega)⟩
theorem JV.Sh (J : JV s a q c t3 t4 t5 d z T N) : ySh (Bs s a t3 t4 t5) := by
  obtain ⟨-, -, ⟨s1, s2⟩, -⟩ := J
  intro i hi
  rcases (show i = 0 ∨ i = 1 ∨ i = 2 ∨ i = 3 by omega) with rfl | rfl | rfl | rfl
  · exact ⟨s2 0 (by decide), s1 0 (by decide)⟩
  · exact ⟨s2 1 (by decide), s1 1 (by decide)⟩
  · exact ⟨s2 2 (by decide), s1 2 (by decide)⟩
  · exact ⟨s2 3 (by decide), s1 3 (by decide)⟩
theorem JV.cd (J : JV s a q c t3 t4 t5 d z T N) {c1 d1 : Nat → List Int32} (hc : xC c1) (hd : yD d1) : JV s a q c1 t3 t4 t5 d1 z T N :=
  ⟨J.1, J.2.1, J.2.2.1, J.2.2.2.1, J.2.2.2.2.1, J.2.2.2.2.2.1, J.2.2.2.2.2.2.1, hc, hd⟩
theorem IVi {b m : _} (J : JV s a q c t3 t4 t5 d z T N) (hm : m = Ms s) (hb : b = Bs s a t3 t4 t5) : IV (WW s a q u c h m b n d z) :=
  ⟨s, a, q, u, c, h, t3, t4, t5, n, d, z, T, N, by rw [hm, hb], J⟩
theorem kS_cg (h1 : ∀ j, 11 ≤ j → s1 j = s j) (h : kS s) : kS s1 :=
  ⟨fun k hk => by rw [h1 _ (by omega)]; exact h.1 k hk, fun k hk => by rw [h1 _ (by omega)]; exact h.2 k hk⟩
theorem kN_cg (h1 : ∀ j, j ≤ 4 → s1 j = s j) (h : kN s a T) : kN s1 a T := by
  obtain ⟨n1, n2, n3, n4, n5, n6, n7, n8, n9⟩ := h
  exact ⟨by unfold yC; rw [h1 2 (by decide)]; exact n1, n2, n3, by rw [h1 0 (by decide)]; exact n4, by rw [h1 4 (by decide)]; exact n5, by rw [h1 3 (by decide)]; exact n6, n7, n8, by rw [h1 1 (by decide)]; exact n9⟩
theorem kI_cg (h1 : ∀ j, 6 ≤ j → j ≤ 10 → s1 j = s j) (h : kI s T) : kI s1 T := by
  unfold kI
  rw [h1 6 (by decide) (by decide), h1 7 (by decide) (by decide), h1 8 (by decide) (by decide), h1 9 (by decide) (by decide), h1 10 (by decide) (by decide)]
  exact h
theorem kT_cg (h1 : s1 5 = s 5) (h2 : a1 2 = a 2) (h : kT s a t3 N) : kT s1 a1 t3 N := ⟨h1.trans h.1, h.2.1, fun i hi => by rw [h2]; exact h.2.2 i hi⟩
theorem kN_a (h0 : a1 0 = a 0) (h2 : a1 1 = a 1) (h : kN s a T) : kN s a1 T := by
  obtain ⟨n1, n2, n3, n4, n5, n6, n7, n8, n9⟩ := h
  exact ⟨n1, fun i hi => by rw [h0]; exact n2 i hi, by rw [h2]; exact n3, n4, n5, n6, n7, n8, n9⟩
theorem xL_cg (h0 : ∀ k, (a1 k).length = (a k).length) (h : xL a) : xL a1 := by
  obtain ⟨l0, l1, l2, l3, l4, l5⟩ := h
  exact ⟨by rw [h0]; exact l0, by rw [h0]; exact l1, by rw [h0]; exact l2, by rw [h0]; exact l3, by rw [h0]; exact l4, fun k hk => by rw [h0]; exact l5 k hk⟩
theorem len_up {k : Nat} (hl : l.length = (a k).length) : ∀ j, (mc_up a k l j).length = (a j).length := by
  intro j; unfold mc_up
  by_cases e : j = k
  · rw [if_pos e, e, hl]
  · rw [if_neg e]
theorem JV.p0 {v : Int32} (J : JV s a q c t3 t4 t5 d z T N) (hv : 2 ≤ v.toInt ∧ v.toInt ≤ 12) : JV (mc_up s 0 v) a q c t3 t4 t5 d z T N := by
  obtain ⟨⟨n1, n2, n3, n4, n5, n6, n7, n8, n9⟩, i1, s1, l1, x1, k1, o1, cc, dd⟩ := J
  exact ⟨⟨n1, n2, n3, hv, n5, n6, n7, n8, n9⟩, kI_cg (fun j h1 h2 => upn (by omega)) i1, kS_cg (fun j h1 => upn (by omega)) s1, l1, x1, kT_cg rfl rfl k1, o1, cc, dd⟩
theorem JV.p1 {v : Int32} (J : JV s a q c t3 t4 t5 d z T N) (hv : yy_yr v = true) : JV (mc_up s 1 v) a q c t3 t4 t5 d z T N := by
  obtain ⟨⟨n1, n2, n3, n4, n5, n6, n7, n8, n9⟩, i1, s1, l1, x1, k1, o1, cc, dd⟩ := J
  exact ⟨⟨n1, n2, n3, n4, n5, n6, n7, n8, hv⟩, kI_cg (fun j h1 h2 => upn (by omega)) i1, kS_cg (fun j h1 => upn (by omega)) s1, l1, x1, kT_cg rfl rfl k1, o1, cc, dd⟩
theorem JV.p4 {v : Int32} (J : JV s a q c t3 t4 t5 d z T N) (hv : 0 ≤ v.toInt ∧ v.toInt < T) : JV (mc_up s 4 v) a q c t3 t4 t5 d z T N := by
  obtain ⟨⟨n1, n2, n3, n4, n5, n6, n7, n8, n9⟩, i1, s1, l1, x1, k1, o1, cc, dd⟩ := J
  exact ⟨⟨n1, n2, n3, n4, hv, n6, n7, n8, n9⟩, kI_cg (fun j h1 h2 => upn (by omega)) i1, kS_cg (fun j h1 => upn (by omega)) s1, l1, x1, kT_cg rfl rfl k1, o1, cc, dd⟩
theorem JV.a3 (J : JV s a q c t3 t4 t5 d z T N) (hl : yO l) : JV s (mc_up a 3 l) q c t3 t4 t5 d z T N := by
  obtain ⟨n1, i1, s1, l1, x1, k1, o1, cc, dd⟩ := J
  have e : l.length = (a 3).length := by rw [hl.1, o1.1.1]
  exact ⟨kN_a rfl rfl n1, i1, s1, ⟨xL_cg (len_up e) l1.1, l1.2⟩, x1, kT_cg rfl rfl k1, ⟨hl, o1.2⟩, cc, dd⟩
theorem JV.set {w v : Int32} (J : JV s a q c t3 t4 t5 d z T N) : JV (yy_setm s w v) a q c t3 t4 t5 d z T N := by
  unfold yy_setm
  by_cases h1 : mc_wi w 0 1 = false
  · rw [if_pos h1]; exact J
  · rw [if_neg h1]
    by_cases h2 : w = 0
    · rw [if_pos h2]
      by_cases h3 : mc_wi v 2 12 = true
      · rw [if_pos h3]
        rw [mc_wi_iff] at h3
        exact J.p0 h3
      · rw [if_neg h3]; exact J
    · rw [if_neg h2]
      by_cases h3 : yy_yr v = true
      · rw [if_pos h3]; exact J.p1 h3
      · rw [if_neg h3]; exact J
theorem JV.force {t : Int32} (J : JV s a q c t3 t4 t5 d z T N) : JV (xx_fos s t) a q c t3 t4 t5 d z T N := by
  obtain ⟨e3, hT1, hT6⟩ := J.T1
  unfold xx_fos
  by_cases h1 : mc_wi t 0 (s 3 - 1) = true
  · rw [if_pos h1]
    have t3 := nI_toInt (n := T) (by omega)
    rw [mc_wi_iff, e3, i32_sub (by omega) (by decide), t3, i0, i1] at h1
    exact J.p4 (by omega)
  · rw [if_neg h1]; exact J
theorem JV.clerk {k mo : Int32} (J : JV s a q c t3 t4 t5 d z T N) : JV (yy_ckm s k mo) (yy_ckb s a k mo) q c t3 t4 t5 d z T N := by
  by_cases h : yy_ck s k mo = true ∧ ¬ s 2 = 5
  · have e1 : yy_ckm s k mo = mc_up s 2 (s 2 + 1) := if_pos h
    have e2 : yy_ckb s a k mo = mc_up (mc_up a 0 ((a 0).set (s 2).toNatClampNeg k)) 1 ((a 1).set (s 2).toNatClampNeg mo) := if_pos h
    rw [e1, e2]
    obtain ⟨⟨n1, n2, n3, n4, n5, n6, n7, n8, n9⟩, ii, s1, l1, x1, k1, o1, cc, dd⟩ := J
    obtain ⟨h1, h2⟩ := h
    unfold yy_ck at h1
    rw [Bool.and_eq_true, mc_wi_iff, mc_wi_iff, i0, show (5 : Int32).toInt = 5 from rfl, show (9 : Int32).toInt = 9 from rfl] at h1
    have c1 := n1.1
    have c2 := n1.2
    have c5 : ¬ (s 2).toInt = 5 := fun q => h2 (Int32.toInt_inj.mp q)
    have e : (s 2 + 1).toInt = (s 2).toInt + 1 := by rw [i32_add (by omega) (by decide), i1]
    have l0 := l1.1.1
    have l01 := l1.1.2.1
    have tn := tnc c1
    refine ⟨⟨⟨?_, ?_⟩, fun i hi => ?_, fun i hi => ?_, n4, n5, n6, n7, n8, n9⟩, kI_cg (fun j h1 h2 => upn (by omega)) ii, kS_cg (fun j h1 => upn (by omega)) s1, ⟨xL_cg (fun j => ?_) l1.1, l1.2⟩, x1, kT_cg rfl rfl k1, o1, cc, dd⟩
    · show 0 ≤ (s 2 + 1).toInt; omega
    · show (s 2 + 1).toInt ≤ 5; omega
    · show 0 ≤ (((a 0).set (s 2).toNatClampNeg k).getD i 0).toInt ∧ (((a 0).set (s 2).toNatClampNeg k).getD i 0).toInt ≤ 5
      rw [gDs (by omega)]
      by_cases ei : i = (s 2).toNatClampNeg
      · rw [if_pos ei]; exact h1.1
      · rw [if_neg ei]; exact n2 i hi
    · show 0 ≤ (((a 1).set (s 2).toNatClampNeg mo).getD i 0).toInt ∧ (((a 1).set (s 2).toNatClampNeg mo).getD i 0).toInt ≤ 9
      rw [gDs (by omega)]
      by_cases ei : i = (s 2).toNatClampNeg
      · rw [if_pos ei]; exact h1.2
      · rw [if_neg ei]; exact n3 i hi
    · rw [len_up (by rw [List.length_set]; rfl), len_up (List.length_set ..)]
  · have e1 : yy_ckm s k mo = s := if_neg h
    have e2 : yy_ckb s a k mo = a := if_neg h
    rw [e1, e2]; exact J
theorem JV.lend {f g mu : Int32} (J : JV s a q c t3 t4 t5 d z T N) : JV s (if yy_fo f g = true ∧ mc_wi mu 0 9999 = true then mc_up a 3 ((a 3).set (6 * f + g).toNatClampNeg mu) else a) q c t3 t4 t5 d z T N := by
  by_cases h : yy_fo f g = true ∧ mc_wi mu 0 9999 = true
  · rw [if_pos h]
    obtain ⟨F, G, hF, hG, hne, rfl, rfl⟩ := fo_two h.1
    rw [oo_nI hF hG]
    have m := mc_wi_iff.mp h.2
    exact J.a3 (yO_set J.O hF hG hne m)
  · rw [if_neg h]; exact J
theorem JV.pay {sg : Nat → List Int32} {k fg mu : Int32} (J : JV s a q c t3 t4 t5 d z T N) : JV s (xpya s a sg k fg mu) q c t3 t4 t5 d z T N := by
  rcases pay_O (s := s) (sg := sg) (k := k) (fg := fg) (mu := mu) J.O with e | ⟨l, hl, e⟩
  · rw [e]; exact J
  · rw [e]; exact J.a3 hl
theorem JV.image (J : JV s a q c t3 t4 t5 d z T N) : JV (ximm s) (mc_up a 4 (a 3)) q c t3 t4 t5 d z T N := by
  obtain ⟨⟨n1, n2, n3, n4, n5, n6, n7, n8, n9⟩, i1, s1, l1, x1, k1, o1, cc, dd⟩ := J
  refine ⟨⟨n1, n2, n3, n4, n5, n6, n7, n8, n9⟩, Or.inr ⟨rfl, n4, n9, n1, n5⟩, kS_cg (fun j h1 => ?_) s1, ⟨xL_cg (len_up (by rw [o1.1.1, o1.2.1])) l1.1, l1.2⟩, x1, kT_cg rfl rfl k1, ⟨o1.1, o1.1⟩, cc, dd⟩
  unfold ximm
  rw [upn (by omega), upn (by omega), upn (by omega), upn (by omega), upn (by omega)]
theorem JV.back (J : JV s a q c t3 t4 t5 d z T N) : JV (xbkm s) (xbka s a) q c t3 t4 t5 d z T N := by
  unfold xbkm xbka
  by_cases h : s 6 = 0
  · rw [if_pos h, if_pos h]; exact J
  · rw [if_neg h, if_neg h]
    obtain ⟨⟨n1, n2, n3, n4, n5, n6, n7, n8, n9⟩, i1, s1, l1, x1, k1, o1, cc, dd⟩ := J
    obtain ⟨j1, j2, j3, j4, j5⟩ := i1.resolve_left h
    exact ⟨⟨j4, n2, n3, j2, j5, n6, n7, n8, j3⟩, Or.inr ⟨j1, j2, j3, j4, j5⟩, kS_cg (fun j h1 => by rw [upn (by omega), upn (by omega), upn (by omega), upn (by omega)]) s1, ⟨xL_cg (len_up (by rw [o1.1.1, o1.2.1])) l1.1, l1.2⟩, x1, kT_cg rfl rfl k1, ⟨o1.2, o1.2⟩, cc, dd⟩
/-- a sheet's own numbers change -/
theorem JV.num {k : Nat} (J : JV s a q c t3 t4 t5 d z T N) (hk : k < 4) (hl : l.length = 40) : JV s (mc_up a (5 + k) l) q c t3 t4 t5 d z T N := by
  obtain ⟨n1, i1, s1, l1, x1, k1, o1, cc, dd⟩ := J
  have e : l.length = (a (5 + k)).length := by rw [hl, l1.1.2.2.2.2.2 k hk]
  have u0 : ∀ j, j ≤ 4 → mc_up a (5 + k) l j = a j := fun j hj => upn (by omega)
  exact ⟨kN_a (u0 0 (by decide)) (u0 1 (by decide)) n1, i1, s1, ⟨xL_cg (len_up e) l1.1, l1.2⟩, x1, kT_cg rfl (u0 2 (by decide)) k1, ⟨by rw [u0 3 (by decide)]; exact o1.1, by rw [u0 4 (by decide)]; exact o1.2⟩, cc, dd⟩
theorem JV.siz {k : Nat} {so M : Int32} (J : JV s a q c t3 t4 t5 d z T N) (hk : k < 4) (hs : -1 ≤ so.toInt ∧ so.toInt ≤ 2) (hM : 0 ≤ M.toInt ∧ M.toInt ≤ 40) : JV (mc_up (mc_up s (11 + 2 * k) so) (12 + 2 * k) M) a q c t3 t4 t5 d z T N := by
  obtain ⟨n1, i1, s1, l1, x1, k1, o1, cc, dd⟩ := J
  have u0 : ∀ j, j ≤ 10 → mc_up (mc_up s (11 + 2 * k) so) (12 + 2 * k) M j = s j := fun j hj => by rw [upn (by omega), upn (by omega)]
  refine ⟨kN_cg (fun j hj => u0 j (by omega)) n1, kI_cg (fun j _ h2 => u0 j h2) i1, ⟨fun p hp => ?_, fun p hp => ?_⟩, l1, x1, kT_cg (u0 5 (by decide)) rfl k1, o1, cc, dd⟩
  · by_cases e : p = k
    · subst e; rw [up_at]; exact hM
    · rw [upn (by omega), upn (by omega)]; exact s1.1 p hp
  · rw [upn (by omega)]
    by_cases e : p = k
    · subst e; rw [up_at]; exact hs
    · rw [upn (by omega)]; exact s1.2 p hp
theorem xcl_b (v : Int32) : 0 ≤ (xcl v).toInt ∧ (xcl v).toInt ≤ 40 := by
  unfold xcl
  by_cases h : 40 < v
  · rw [if_pos h]; decide
  · rw [if_neg h]
    rw [Int32.lt_iff_toInt_lt, show (40 : Int32).toInt = 40 from rfl] at h
    by_cases h2 : 0 < v
    · rw [if_pos h2]; rw [Int32.lt_iff_toInt_lt, i0] at h2; omega
    · rw [if_neg h2]; decide
theorem JV.sheet {v so M : Int32} (J : JV s a q c t3 t4 t5 d z T N) : JV (xshs s v so M) (xsha a v so M) q c t3 t4 t5 d z T N := by
  unfold xshs xsha
  by_cases h : ysh1 v so M = 1
  · rw [if_pos h, if_pos h]
    have w : (mc_wi v 0 3 && mc_wi so (-1) 2) = true := by
      rw [← Bool.not_eq_false]
      intro q
      unfold ysh1 at h
      rw [if_pos (Or.inl q)] at h
      exact absurd h (by decide)
    rw [Bool.and_eq_true] at w
    obtain ⟨k, hk, rfl⟩ := wi_k w.1
    have ws := mc_wi_iff.mp w.2
    rw [nIc (by omega)]
    unfold xbs xba
    exact (J.siz hk ws (xcl_b _)).num hk (List.length_replicate ..)
  · rw [if_neg h, if_neg h]; exact J
theorem JV.cell {k : Nat} {i v : Int32} (J : JV s a q c t3 t4 t5 d z T N) (hk : k < 4) : JV s (xcla s a k i v) q c t3 t4 t5 d z T N := by
  unfold xcla xsto
  split
  · split
    · exact J.num hk (by rw [List.length_set]; exact J.xl.2.2.2.2.2 k hk)
    · exact J
  · exact J
theorem JV.copy {k p : Nat} {i j g : Int32} (J : JV s a q c t3 t4 t5 d z T N) (hp : p < 4) : JV s (xcya s a k p i j g) q c t3 t4 t5 d z T N := by
  unfold xcya xcpa
  split
  · exact J.num hp (by rw [mc_cpy_len]; exact J.xl.2.2.2.2.2 p hp)
  · exact J
theorem xfl_len {P : Int32 → Int64} {F S : Nat} : ∀ g i l, (xfl P F S g i l).length = l.length := by
  intro g
  induction g with
  | zero => intro i l; rfl
  | succ g ih => intro i l; simp only [xfl]; rw [ih, List.length_set, List.length_set]
theorem JV.film {k : Nat} {sg : Nat → List Int32} {j fr sm : Int32} (J : JV s a q c t3 t4 t5 d z T N) (hk : k < 4) : JV (xfs s k j fr sm) (xfa s a sg k j fr sm) q c t3 t4 t5 d z T N := by
  unfold xfs xfa
  by_cases h : xfok s j fr sm = true
  · rw [if_pos h, if_pos h]
    unfold xbs
    exact (J.siz hk (by decide) (xcl_b _)).num hk (by rw [xfl_len, List.length_replicate])
  · rw [if_neg h, if_neg h]; exact J
theorem JV.cb {k : Nat} {fr : Int32} : ∀ g i S (s : Nat → Int32) (a : Nat → List Int32), JV s a q c t3 t4 t5 d z T N → JV (xcb k fr g i S s a).2.1 (xcb k fr g i S s a).2.2 q c t3 t4 t5 d z T N := by
  intro g
  induction g with
  | zero => intro i S s a J; exact J
  | succ g ih =>
    intro i S s a J
    simp only [xcb]
    split
    · exact J
    · exact ih _ _ _ _ J.clerk
theorem JV.cby {k : Nat} {so fr M : Int32} (J : JV s a q c t3 t4 t5 d z T N) : JV (xcby s a k so fr M).2.1 (xcby s a k so fr M).2.2 q c t3 t4 t5 d z T N := by
  unfold xcby
  split
  · exact J
  · split
    · exact J
    · split
      · exact J
      · exact JV.cb _ _ _ _ _ J
theorem JV.feed {K : Nat} {r t : List Int32} (J : JV s a q c t3 t4 t5 d z T N) (hK : N + K ≤ 160) (hr : r.length = 160) (ht : t.length = 160) (h : ∀ i, i < N + K → t.getD i 0 = r.getD i 0) : JV (mc_up s 5 (nI (N + K))) (mc_up a 2 r) q c t t4 t5 d z T (N + K) := by
  obtain ⟨⟨n1, n2, n3, n4, n5, n6, n7, n8, n9⟩, i1, s1, l1, x1, k1, o1, cc, dd⟩ := J
  exact ⟨⟨n1, n2, n3, n4, n5, n6, n7, n8, n9⟩, kI_cg (fun j h1 h2 => upn (by omega)) i1, kS_cg (fun j h1 => upn (by omega)) s1, ⟨xL_cg (len_up (by rw [hr, l1.1.2.2.1])) l1.1, ht, l1.2.2⟩, x1, ⟨rfl, hK, h⟩, o1, cc, dd⟩
end Inv
