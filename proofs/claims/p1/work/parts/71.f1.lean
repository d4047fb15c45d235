/-! ===== a fresh object: each call of both sides ===== -/
theorem mc_S_mono {y : MethodName} {cc : ByteArray} {nL : Nat} {ret : Option FieldType} {d mc ms : Nat} {av : List Value} {w : mc_W} {P P' : Option Value → mc_W → Prop} (h : mc_S y cc nL ret d mc ms av w P) (hm : ∀ r w, P r w → P' r w) : mc_S y cc nL ret d mc ms av w P' := by
  intro l g p e ha hc hk s m args below hf happ hP hK
  obtain ⟨k, o, h1, h2, h3, ⟨⟨r, w', a1, a2, a3⟩, a4⟩, a5⟩ := h l g p e ha hc hk s m args below hf happ hP hK
  exact ⟨k, o, h1, h2, h3, ⟨⟨r, w', a1, hm _ _ a2, a3⟩, a4⟩, a5⟩
section Joins
variable {y1 y2 : MethodName} {c1 c2 : ByteArray} {n1 n2 d1 d2 : Nat} {A : List Value} {Q2 : mc_W → Prop}
variable {s u m n s1 u1 : Nat → Int32} {a c b d a1 k1 : Nat → List Int32} {q q1 : List (Option Nat)} {h h1 : Nat} {z z1 : mc_W}
theorem jI_D {r1 r2 : Int32} (hS : mc_D y1 c1 n1 (some .int) d1 (.ref 0 :: A) (WW s a q u c h m b n d z) (some (.int r1)) (WW s1 a1 q1 u1 k1 h1 m b n d z1)) (hT : mc_T y2 c2 n2 (some .int) d2 (.ref 29 :: A) (WW s1 a1 q1 u1 k1 h1 m b n d z1) (some (.int r2)) Q2) (hr : r1 = r2) (hd1 : d1 ≤ 40 := by decide) (hd2 : d2 ≤ 40 := by decide) : jI y1 c1 n1 y2 c2 n2 0 0 True A (WW s a q u c h m b n d z) (fun _ => True) :=
  ⟨r1, r2, d1, d2, _, hd1, hd2, fun _ => hr, rfl, mc_S_mono hS (fun r w e => by obtain ⟨e1, e2⟩ := e; subst e2; exact ⟨e1, ⟨_, rfl⟩, mc_S_mono hT (fun r w h => ⟨h.1, trivial⟩)⟩)⟩
theorem jL_D {r1 r2 : Int64} (hS : mc_D y1 c1 n1 (some .long) d1 (.ref 0 :: A) (WW s a q u c h m b n d z) (some (.long r1)) (WW s1 a1 q1 u1 k1 h1 m b n d z1)) (hT : mc_T y2 c2 n2 (some .long) d2 (.ref 29 :: A) (WW s1 a1 q1 u1 k1 h1 m b n d z1) (some (.long r2)) Q2) (hr : r1 = r2) (hd1 : d1 ≤ 40 := by decide) (hd2 : d2 ≤ 40 := by decide) : jL y1 c1 n1 y2 c2 n2 0 0 True A (WW s a q u c h m b n d z) (fun _ => True) :=
  ⟨r1, r2, d1, d2, _, hd1, hd2, fun _ => hr, rfl, mc_S_mono hS (fun r w e => by obtain ⟨e1, e2⟩ := e; subst e2; exact ⟨e1, ⟨_, rfl⟩, mc_S_mono hT (fun r w h => ⟨h.1, trivial⟩)⟩)⟩
end Joins
/-! the numbers and rows of the beginning -/
def fs0 (k : Nat) : Int32 := [10, 1, 0, 1, 0, 0, 0, 0, 0, 0, 0, -1, 0, -1, 0, -1, 0, -1, 0].getD k 0
def fa0 (k : Nat) : List Int32 := [List.replicate 5 0, List.replicate 5 0, List.replicate 160 0, List.replicate 36 0, List.replicate 36 0, List.replicate 40 0, List.replicate 40 0, List.replicate 40 0, List.replicate 40 0].getD k []
def fq0 : List (Option Nat) := [some 3, none, none, none, none, none]
def fu0 (_ : Nat) : Int32 := 0
def fc0 (k : Nat) : List Int32 := [List.replicate 160 0, List.replicate 6 0, List.replicate 6 0, List.replicate 6 0, List.replicate 48 0, List.replicate 40 0].getD k []
def BB0 : Nat → List Int32 := mc_up yb0 3 (yq0 32)
/-- the world of the beginning, but what the other side's reading left -/
abbrev W00 (b : Nat → List Int32) (n : Nat → Int32) (d : Nat → List Int32) : mc_W := WW fs0 fa0 fq0 fu0 fc0 3 ym1 b n d []
def FRB (b : Nat → List Int32) : Prop := yTX 0 BB0 b true [100001, 100003, 3] [0, 1, 2]
theorem FRB.row {b : Nat → List Int32} (h : FRB b) {k : Nat} (h4 : k ≠ 4) (h5 : k ≠ 5) : b k = BB0 k := by
  obtain ⟨l, l5, hb, -⟩ := h
  subst hb
  unfold mc_up
  rw [if_neg h4, if_neg h5]
theorem FRB.L {b : Nat → List Int32} (h : FRB b) : yL b := by
  have r := fun k h4 h5 => h.row (k := k) h4 h5
  obtain ⟨l, l5, hb, g1, g2, -⟩ := h
  refine ⟨by rw [r 0 (by decide) (by decide)]; rfl, by rw [r 1 (by decide) (by decide)]; rfl, by rw [r 2 (by decide) (by decide)]; rfl, by rw [r 3 (by decide) (by decide)]; decide +kernel, by subst hb; exact g1, by subst hb; exact g2, by rw [r 6 (by decide) (by decide)]; rfl, by rw [r 7 (by decide) (by decide)]; rfl, by rw [r 8 (by decide) (by decide)]; rfl, by rw [r 9 (by decide) (by decide)]; rfl⟩
theorem li3 {l : List Int32} {x y v : Int32} (h0 : l.getD 0 0 = x) (h1 : l.getD 1 0 = y) (h2 : l.getD 2 0 = v) (hl : 3 ≤ l.length) : ∃ r, l = x :: y :: v :: r := by
  match l, hl with
  | a :: b :: c :: r, _ => exact ⟨r, by simp at h0 h1 h2; rw [h0, h1, h2]⟩
theorem FRB.T {b : Nat → List Int32} (h : FRB b) : yT b 0 := by
  obtain ⟨l, l5, hb, g1, g2, -, -, g5⟩ := h
  obtain ⟨k1, k2, k3⟩ := g5 rfl
  subst hb
  obtain ⟨r, hr⟩ := li3 (k1 0 (by decide)) (k1 1 (by decide)) (k1 2 (by decide)) (by omega)
  have s0 : l5.getD 0 0 = 0 := k2 0 (by decide)
  have s1 : l5.getD 1 0 = 1 := k2 1 (by decide)
  have s2 : l5.getD 2 0 = 2 := k2 2 (by decide)
  have s3 : l5.getD 3 0 = 3 := k3
  have e0 : yfr (mc_up (mc_up BB0 5 l5) 4 l) 0 0 = 0 := s0
  have e1 : yfr (mc_up (mc_up BB0 5 l5) 4 l) 0 1 = 1 := s1
  have e2 : yfr (mc_up (mc_up BB0 5 l5) 4 l) 0 2 = 2 := s2
  have e3 : yfr (mc_up (mc_up BB0 5 l5) 4 l) 0 3 = 3 := s3
  have b4 : (mc_up (mc_up BB0 5 l5) 4 l) 4 = l := rfl
  intro p hp
  rcases (show p = 0 ∨ p = 1 ∨ p = 2 by omega) with rfl | rfl | rfl
  · refine ⟨by rw [e0]; decide, by rw [e0, e1]; decide, by rw [e1]; decide, ?_⟩
    unfold yseg; rw [e0, e1, b4, hr]; rfl
  · refine ⟨by rw [e1]; decide, by rw [e1, e2]; decide, by rw [e2]; decide, ?_⟩
    unfold yseg; rw [e1, e2, b4, hr]; rfl
  · refine ⟨by rw [e2]; decide, by rw [e2, e3]; decide, by rw [e3]; decide, ?_⟩
    unfold yseg; rw [e2, e3, b4, hr]; rfl
theorem FRB.C : yC ym1 := by unfold yC; decide
theorem FRB.G {b : Nat → List Int32} (h : FRB b) : yG ym1 b := by
  refine ⟨h.L, FRB.C, by decide, by decide, fun t ht => ?_, fun i hi => ?_⟩
  · have : (ym1 4).toInt = 1 := rfl
    have : t = 0 := by omega
    subst this; exact h.T
  · rw [h.row (k := 0) (by decide) (by decide), h.row (k := 1) (by decide) (by decide)]
    exact (show ∀ i, i < 5 → (0 ≤ ((BB0 0).getD i 0).toInt ∧ ((BB0 0).getD i 0).toInt ≤ 5) ∧ 0 ≤ ((BB0 1).getD i 0).toInt ∧ ((BB0 1).getD i 0).toInt ≤ 9 by decide +kernel) i hi
theorem FRB.Sh {b : Nat → List Int32} (h : FRB b) : ySh b := by
  intro i hi
  rw [h.row (k := 7) (by decide) (by decide), h.row (k := 8) (by decide) (by decide)]
  exact (show ∀ i, i < 4 → (-1 ≤ ((BB0 7).getD i 0).toInt ∧ ((BB0 7).getD i 0).toInt ≤ 2) ∧ 0 ≤ ((BB0 8).getD i 0).toInt ∧ ((BB0 8).getD i 0).toInt ≤ 40 by decide +kernel) i hi
theorem f_ck (k : Int32) : mc_wi k 0 (ym1 2 - 1) = false := by
  rw [mc_wi_iffF]
  show k.toInt < 0 ∨ (-1 : Int32).toInt < k.toInt
  rw [show (-1 : Int32).toInt = -1 from rfl]; omega
theorem f_b7 {b : Nat → List Int32} (h : FRB b) {v : Int32} (hv : mc_wi v 0 3 = true) : gt (b 7) v = -1 := by
  obtain ⟨k, hk, rfl⟩ := wi_k hv
  rw [h.row (k := 7) (by decide) (by decide)]
  rcases (show k = 0 ∨ k = 1 ∨ k = 2 ∨ k = 3 by omega) with rfl | rfl | rfl | rfl <;> rfl
theorem f_ybw {b : Nat → List Int32} (h : FRB b) (v : Int32) : ybw b v = sfr v := by
  unfold ybw sfr
  by_cases hv : mc_wi v 0 3 = true
  · rw [if_neg (by rw [hv]; decide), if_pos (f_b7 h hv), if_neg (by rw [hv]; decide)]
  · rw [if_pos (by simpa using hv), if_pos (by simpa using hv)]
theorem f_ysw {b : Nat → List Int32} (h : FRB b) (v : Int32) : ysw b v = sfr v := by
  unfold ysw sfr
  by_cases hv : mc_wi v 0 3 = true
  · rw [if_neg (by rw [hv]; decide), if_pos (f_b7 h hv), if_neg (by rw [hv]; decide)]
  · rw [if_pos (by simpa using hv), if_pos (by simpa using hv)]
theorem f_ytw {b : Nat → List Int32} (h : FRB b) (v k : Int32) : ytw ym1 b v k = sfr v := by
  unfold ytw; rw [f_ysw h, if_pos (sfr0 v)]
theorem gt_rep {n : Nat} {k : Int32} : gt (List.replicate n 0) k = 0 := by
  unfold gt; rw [List.getD_eq_getElem?_getD, List.getElem?_replicate]; split <;> rfl
theorem fs_M : ∀ k, k < 4 → fs0 (11 + 2 * k) = -1 := by decide +kernel
theorem fa_L : xL fa0 := by
  refine ⟨rfl, rfl, rfl, rfl, rfl, ?_⟩
  decide +kernel
theorem f_b2 {b : Nat → List Int32} (h : FRB b) : b 2 = List.replicate 36 0 := h.row (by decide) (by decide)
theorem xof_rep {f g : Int32} : xof (List.replicate 36 0) f g = 0 := by unfold xof; rw [gt_rep]; split <;> rfl
theorem xall_rep {f : Int32} : xall (List.replicate 36 0) f = 0 := by unfold xall; simp only [xof_rep]; rfl
theorem f_tk {b : Nat → List Int32} (h : FRB b) (i k : Int32) : xtk fs0 fa0 i k = ytk ym1 b i k := by
  unfold xtk ytk
  by_cases h1 : mc_wi k 0 6 = false
  · rw [if_pos h1, if_pos h1]
  rw [if_neg h1, if_neg h1]
  by_cases h2 : mc_wi i 0 10 = false
  · rw [if_pos h2, if_pos h2]
  rw [if_neg h2, if_neg h2]
  by_cases h3 : i < 5
  · rw [if_pos h3, if_neg (Int32.not_le.mpr h3), if_pos (show mc_wi i 0 (fs0 2 - 1) = false from f_ck i)]
    have h4 : 0 ≤ i.toInt := by
      rw [Bool.not_eq_false, mc_wi_iff] at h2; exact h2.1
    rw [if_neg (show ¬ i < ym1 2 by rw [Int32.lt_iff_toInt_lt, show (ym1 2).toInt = 0 from rfl]; omega)]
  · rw [if_neg h3, if_pos (Int32.not_lt.mp h3)]
    rw [show xall (fa0 3) (i - 5) = 0 from xall_rep, if_pos rfl]
    have e : ytks b i = 0 := by unfold ytks; rw [f_b2 h]; simp only [gt_rep]; rfl
    rw [if_pos e]
theorem f_film (v k w p : Int32) : (if mc_wi v 0 3 = false then (-2 : Int32) else -5) = yfm1 ym1 v k w p := by
  unfold yfm1
  by_cases hv : mc_wi v 0 3 = false
  · rw [if_pos hv, if_pos hv]
  · rw [if_neg hv, if_neg hv, if_pos (f_ck _)]
theorem f_cell {b : Nat → List Int32} (F : FRB b) (v i : Int32) : sfr v = ycl1 b v i := by
  unfold ycl1 sfr
  by_cases hv : mc_wi v 0 3 = true
  · rw [if_neg (by rw [hv]; decide), if_neg (by rw [hv]; decide), if_pos (f_b7 F hv)]
  · rw [if_pos (by simpa using hv), if_pos (by simpa using hv)]
theorem f_copy {b : Nat → List Int32} (F : FRB b) (v i w j k : Int32) : sfc v w = ycy1 b v i w j k := by
  have e : ycyr b v i w j k = sfc v w := by
    unfold ycyr sfc
    by_cases hv : mc_wi v 0 3 = true
    · by_cases hw : mc_wi w 0 3 = true
      · rw [if_neg (by rw [hv, hw]; decide), if_pos (Or.inl (f_b7 F hv)), if_neg (by rw [hv, hw]; decide)]
      · rw [if_pos (Or.inr (by simpa using hw)), if_pos (by rw [hv]; simpa using hw)]
    · rw [if_pos (Or.inl (by simpa using hv)), if_pos (by rw [Bool.and_eq_false_iff]; exact Or.inl (by simpa using hv))]
  unfold ycy1
  rw [e, if_neg (by unfold sfc; split <;> decide)]
theorem f_cby {b : Nat → List Int32} (F : FRB b) (v so i p : Int32) : (if (mc_wi v 0 3 && mc_wi so 0 2 && mc_wi p 0 5) = false then (-2 : Int32) else -11) = (ycby ym1 b v so i p).1 := by
  unfold ycby
  by_cases hv : (mc_wi v 0 3 && mc_wi so 0 2 && mc_wi p 0 5) = true
  · rw [if_neg (by rw [hv]; decide), if_neg (by rw [hv]; decide)]
    rw [Bool.and_eq_true, Bool.and_eq_true] at hv
    rw [if_pos (f_b7 F hv.1.1)]
  · rw [if_pos (by simpa using hv), if_pos (by simpa using hv)]
theorem sf_textR {s u m n : Nat → Int32} {a c b d : Nat → List Int32} {q : List (Option Nat)} {h : Nat} {z : mc_W} (h3 : s 3 = 1) (h5 : s 5 = 0) : mc_S yX6_text cX6_text 3 (some .int) 6 2 170 [.ref 0] (WW s a q u c h m b n d z) (fun r' w' => r' = some (.int (-100)) ∧ w' = (WW (mc_up s 5 0) a q (mc_up (mc_up (mc_up (mc_up (mc_up u 1 0) 3 0) 0 0) 1 0) 2 (-26)) c h m b n d z)) := by
  refine mc_start (own := RX6) (ini := false) rfl (by decide +kernel) (fun h => by cases h) (Nat.le_of_ble_eq_true rfl) ?_
  show mc_E _ _ _ _ _ [some (.ref 0), none, none] [] _ _ _
  refine e_aloadn (pc := 0) dX6_text_0 rfl ?_
  refine e_get (pc := 1) dX6_text_1 fX6_36 rfl rfl ?_
  refine e_bipush (v := 6) (pc := 4) dX6_text_4 (by decide) ?_
  refine e_icmp_lt (pc := 6) dX6_text_6 (t := 12) (by decide) (fun _ => ?_) (fun c_6 => absurd (by rw [h3]; decide) c_6)
  refine e_aloadn (pc := 12) dX6_text_12 rfl ?_
  refine e_get (pc := 13) dX6_text_13 fX6_42 rfl rfl ?_
  refine e_cvD (pc := 16) (sf_isText h5) dX6_text_16 kX6_101 rfl rfl rfl rfl rfl (mc_CR_of (Nat.le_of_ble_eq_true rfl) (Nat.le_of_ble_eq_true rfl) (Nat.le_of_ble_eq_true rfl) (Nat.le_of_ble_eq_true rfl)) (Nat.le_of_ble_eq_true rfl) ?_
  refine e_isn1 (pc := 19) dX6_text_19 (Nat.le_of_ble_eq_true rfl) rfl ?_
  refine e_aloadn (pc := 20) dX6_text_20 rfl ?_
  refine e_get (pc := 21) dX6_text_21 fX6_42 rfl rfl ?_
  refine e_cvU (pc := 24) (sp_x_tempty) dX6_text_24 kX6_105 rfl rfl rfl rfl rfl (mc_CR_of (Nat.le_of_ble_eq_true rfl) (Nat.le_of_ble_eq_true rfl) (Nat.le_of_ble_eq_true rfl) (Nat.le_of_ble_eq_true rfl)) (Nat.le_of_ble_eq_true rfl) ?_
  refine e_iloadn (pc := 27) dX6_text_27 rfl ?_
  refine e_if_ne (pc := 28) dX6_text_28 (t := 42) (by decide) (fun c_28 => absurd c_28 (by decide)) (fun _ => ?_)
  refine e_bipush (v := -100) (pc := 31) dX6_text_31 (by decide) ?_
  refine e_aloadn (pc := 33) dX6_text_33 rfl ?_
  refine e_get (pc := 34) dX6_text_34 fX6_42 rfl rfl ?_
  refine e_cvD (pc := 37) (sf_fault) dX6_text_37 kX6_108 rfl rfl rfl rfl rfl (mc_CR_of (Nat.le_of_ble_eq_true rfl) (Nat.le_of_ble_eq_true rfl) (Nat.le_of_ble_eq_true rfl) (Nat.le_of_ble_eq_true rfl)) (Nat.le_of_ble_eq_true rfl) ?_
  refine e_isub (pc := 40) dX6_text_40 ?_
  exact e_iret (pc := 41) dX6_text_41 rfl (Nat.le_of_ble_eq_true rfl) (Nat.le_of_ble_eq_true rfl) ⟨by simp [mc_up], rfl⟩
theorem ytx0 (T : Nat → Int32) : ytxV T 0 = (false, 0, [], [0]) := by rfl
theorem fo_text {b : Nat → List Int32} {n : Nat → Int32} {d : Nat → List Int32} (F : FRB b) (D : yD d) : jI yX6_text cX6_text 3 yX7_text cX7_text 3 2 170 True [] (W00 b n d) (fun _ => True) := by
  refine ⟨-100, -100, 6, 5, _, by decide, by decide, fun _ => rfl, rfl, mc_S_mono (sf_textR (s := fs0) rfl rfl) (fun r w e => ?_)⟩
  obtain ⟨e1, e2⟩ := e
  subst e2
  refine ⟨e1, ⟨_, rfl⟩, ?_⟩
  have K := sp_y_text (s := mc_up fs0 5 0) (a := fa0) (q := fq0) (u := mc_up (mc_up (mc_up (mc_up (mc_up fu0 1 0) 3 0) 0 0) 1 0) 2 (-26)) (c := fc0) (h := 3) (m := ym1) (b := b) (n := n) (d := d) (z := []) (t := 1) (N := 0) F.L rfl (by decide) rfl (by decide) D
  rw [ytx0] at K
  exact mc_S_mono K (fun r w h => ⟨h.1.trans (by rw [if_neg (by decide)]; decide), trivial⟩)
theorem fo_feed {b : Nat → List Int32} {n : Nat → Int32} {d : Nat → List Int32} (F : FRB b) (k x0 x1 x2 x3 x4 : Int32) : jI yX6_feed cX6_feed 7 yX7_feed cX7_feed 8 0 0 True [.int k, .int x0, .int x1, .int x2, .int x3, .int x4] (W00 b n d) (fun _ => True) := by
  by_cases hv : (mc_wi k 1 5 && mc_wi x0 0 255 && mc_wi x1 0 255 && mc_wi x2 0 255 && mc_wi x3 0 255 && mc_wi x4 0 255) = true
  · have hb : (mc_wi x0 0 255 && mc_wi x1 0 255 && mc_wi x2 0 255 && mc_wi x3 0 255 && mc_wi x4 0 255) = true := by
      simp only [Bool.and_eq_true] at hv ⊢
      exact ⟨⟨⟨⟨hv.1.1.1.1.2, hv.1.1.1.2⟩, hv.1.1.2⟩, hv.1.2⟩, hv.2⟩
    have hk : mc_wi k 1 5 = true := by simp only [Bool.and_eq_true] at hv; exact hv.1.1.1.1.1
    rw [mc_wi_iff, i1, show (5 : Int32).toInt = 5 from rfl] at hk
    have hk5 : k = 1 ∨ k = 2 ∨ k = 3 ∨ k = 4 ∨ k = 5 := by
      have : k.toInt = 1 ∨ k.toInt = 2 ∨ k.toInt = 3 ∨ k.toInt = 4 ∨ k.toInt = 5 := by omega
      rcases this with q | q | q | q | q
      · exact Or.inl (Int32.toInt_inj.mp q)
      · exact Or.inr (Or.inl (Int32.toInt_inj.mp q))
      · exact Or.inr (Or.inr (Or.inl (Int32.toInt_inj.mp q)))
      · exact Or.inr (Or.inr (Or.inr (Or.inl (Int32.toInt_inj.mp q))))
      · exact Or.inr (Or.inr (Or.inr (Or.inr (Int32.toInt_inj.mp q))))
    have e : ∀ j : Int32, yfe1 ym1 k x0 x1 x2 x3 x4 = if ym1 3 + k ≤ 160 then ym1 3 + k else -4 := fun _ => by unfold yfe1; rw [if_neg (by rw [hv]; decide)]
    have K := fun s1 a1 u1 => sp_y_feed (s := s1) (a := a1) (q := fq0) (u := u1) (c := fc0) (h := 3) (m := ym1) (b := b) (n := n) (d := d) (z := []) (k := k) (x0 := x0) (x1 := x1) (x2 := x2) (x3 := x3) (x4 := x4) F.L (by decide) (by decide)
    rw [e 0] at K
    rcases hk5 with rfl | rfl | rfl | rfl | rfl
    · exact jI_D (sp_x_feed1 (N := 0) rfl rfl (by decide) hb) (K _ _ _) (by decide)
    · exact jI_D (sp_x_feed2 (N := 0) rfl rfl (by decide) hb) (K _ _ _) (by decide)
    · exact jI_D (sp_x_feed3 (N := 0) rfl rfl (by decide) hb) (K _ _ _) (by decide)
    · exact jI_D (sp_x_feed4 (N := 0) rfl rfl (by decide) hb) (K _ _ _) (by decide)
    · exact jI_D (sp_x_feed5 (N := 0) rfl rfl (by decide) hb) (K _ _ _) (by decide)
  · have hv : (mc_wi k 1 5 && mc_wi x0 0 255 && mc_wi x1 0 255 && mc_wi x2 0 255 && mc_wi x3 0 255 && mc_wi x4 0 255) = false := by simpa using hv
    exact jI_D (sp_x_feedB hv) (sp_y_feed F.L (by decide) (by decide)) (by unfold yfe1; rw [if_pos hv])
theorem fo_forgive {b : Nat → List Int32} {n : Nat → Int32} {d : Nat → List Int32} (F : FRB b) (w : Int32) : jI yX6_forgive cX6_forgive 7 yX7_forgive cX7_forgive 7 0 0 True [.int w] (W00 b n d) (fun _ => True) := by
  have e : xforg (fa0 3) w = yforgive (b 2) w := by
    rw [f_b2 F]
    unfold xforg yforgive
    rw [show xfo2 (fa0 3) 6 0 (-1) (yy_ones (xrg (fa0 3))) = (-1, 0) by decide +kernel, show yfor (List.replicate 36 0) 36 0 (-1) (yy_ones (yrings (List.replicate 36 0))) = (-1, 0) by decide +kernel]
  refine ⟨_, _, 7, 3, _, by decide, by decide, fun _ => e, rfl, mc_S_mono (sp_x_forgive (s := fs0) (a := fa0) (c := fc0) (m := ym1) (b := b) (n := n) (d := d) (q := fq0) (u := fu0) (h := 3) (z := []) rfl rfl) (fun r w1 k => ?_)⟩
  obtain ⟨e1, R, hR, rfl⟩ := k
  exact ⟨e1, ⟨_, rfl⟩, mc_S_mono (sp_y_forgive F.L) (fun r w h => ⟨h.1, trivial⟩)⟩
theorem fo_all {b : Nat → List Int32} {n : Nat → Int32} {d : Nat → List Int32} (F : FRB b) (D : yD d) : OPS True (W00 b n d) (fun _ => True) :=
  ⟨fun a1 => jI_D (sp_x_count) (sp_y_count) rfl,
  fun a1 a2 => jI_D (sp_x_set) (sp_y_set) rfl,
  fun a1 a2 a3 a4 a5 a6 => fo_feed F a1 a2 a3 a4 a5 a6,
  fo_text F D,
  fun a1 => jI_D (sp_x_force) (sp_y_force) rfl,
  fun a1 a2 a3 a4 => jI_D (sf_asks rfl) (sp_y_asks F.L FRB.C F.G.V D) (by unfold yasks; rw [if_neg (by simp [f_ck])]),
  fun a1 a2 => jI_D (sp_x_clerk fa_L FRB.C) (sp_y_clerk F.L FRB.C) rfl,
  fun a1 a2 => jI_D (sf_told rfl) (sp_y_told F.L FRB.C) (by unfold yy_td; rw [if_pos (f_ck _)]),
  fun a1 a2 a3 => jI_D (sf_figure rfl) (sp_y_figure F.G D) (by unfold yfig; rw [if_pos (f_ck _)]),
  fun a1 a2 => jL_D (sf_reads rfl) (sp_y_reads F.G D) (by unfold yreads; rw [if_pos (by simp [f_ck])]),
  fun a1 a2 => jL_D (sf_plain rfl) (sp_y_plain F.G D) (by unfold yplain; rw [if_pos (f_ck _)]),
  fun a1 a2 a3 => jL_D (sf_adds rfl) (sp_y_adds F.G D) (by unfold yadds; rw [if_pos (f_ck _)]),
  fun a1 a2 a3 => jI_D (sf_apart rfl) (sp_y_apart F.G D) (by unfold yap; rw [if_pos (f_ck _)]),
  fun a1 a2 a3 => jL_D (sf_book fs_M) (sp_y_book F.G F.Sh D) (by unfold ybook; rw [f_ybw F, if_pos (sfr0 _)]),
  fun a1 a2 => jL_D (sf_who fs_M) (sp_y_who F.G F.Sh D) (by unfold ywho; rw [f_ybw F, if_pos (sfr0 _)]),
  fun a1 a2 a3 => jL_D (sf_smuggled fs_M) (sp_y_smuggled F.G F.Sh D) (by unfold ysm; rw [f_ybw F, if_pos (sfr0 _)]),
  fun a1 a2 a3 => jL_D (sf_slip rfl) (sp_y_slip F.G D) (by unfold yslip; rw [if_pos (f_ck _)]),
  fun a1 a2 => jL_D (sf_sure rfl) (sp_y_sure F.G D) (by unfold ysure; rw [if_pos (f_ck _)]),
  fun a1 a2 a3 => jI_D (sf_shortest fs_M) (sp_y_shortest F.G F.Sh D) (by unfold yshort; rw [f_ybw F, if_pos (sfr0 _)]),
  fun a1 a2 a3 => jI_D (sp_x_lend rfl) (sp_y_lend F.L) (by unfold yy_len yy_ow; rw [f_b2 F]; rfl),
  fun a1 a2 => jI_D (sp_x_debt rfl) (sp_y_debt F.L) (by unfold yy_ow; rw [f_b2 F]; rfl),
  fun a1 a2 a3 => jI_D (sf_pay rfl) (sp_y_pay F.G D) (by unfold ypay ypyc; rw [if_pos (f_ck _), if_neg (by decide)]),
  jI_D (sp_x_rings rfl rfl) (sp_y_rings F.L) (by rw [f_b2 F]; decide +kernel),
  jI_D (sp_x_clear rfl) (sp_y_clear F.L) (by rw [f_b2 F]; decide +kernel),
  fun a1 => fo_forgive F a1,
  fun a1 a2 => jI_D (sp_x_span) (sp_y_span) rfl,
  fun a1 a2 => jI_D (sp_x_behind) (sp_y_behind) rfl,
  fun a1 a2 a3 => jI_D (sf_alike rfl) (sp_y_alike F.G (by decide) D) (by unfold yalike; rw [if_pos (f_ck _)]),
  fun a1 a2 => jI_D (sf_judge fs_M) (sp_y_judge F.G F.Sh D) (by unfold yjudge; rw [f_ytw F, if_neg (sfr0 _)]),
  fun a1 a2 a3 => jI_D (sf_kinds fs_M) (sp_y_kinds F.G F.Sh D) (by unfold ykinds; rw [f_ytw F, if_pos (sfr0 _)]),
  fun a1 => jI_D (sf_whose fs_M) (sp_y_whose F.G F.Sh D) (by unfold ywhose; rw [f_ysw F, if_pos (sfr0 _)]),
  fun a1 a2 => jI_D (sf_laws fs_M) (sp_y_laws F.G F.Sh D) (by unfold ylaws; rw [f_ytw F, if_pos (sfr0 _)]),
  fun a1 a2 a3 a4 => jI_D (sf_film rfl) (sp_y_film F.G D) (f_film _ _ _ _),
  fun a1 a2 a3 => jL_D (sf_drawn rfl) (sp_y_drawn F.G D) (by unfold ydrawn; rw [if_pos (f_ck _)]),
  fun a1 a2 a3 a4 a5 => jL_D (sf_odds rfl) (sp_y_odds F.G D) (by unfold yodds; rw [if_pos (by simp [f_ck])]),
  jI_D (sp_x_image fa_L) (sp_y_image F.L) rfl,
  jI_D (sp_x_back fa_L (Or.inl rfl)) (sp_y_back F.L) (by decide),
  fun a1 a2 a3 => jI_D (sp_x_sheet fa_L) (sp_y_sheet F.L) rfl,
  fun a1 a2 a3 => jI_D (sf_cell fs_M) (sp_y_cell F.L F.Sh) (f_cell F _ _),
  fun a1 a2 a3 a4 a5 => jI_D (sf_copy fs_M) (sp_y_copy F.L F.Sh) (f_copy F _ _ _ _ _),
  fun a1 a2 a3 a4 => jI_D (sf_clerksBy fs_M) (sp_y_clerksBy F.L FRB.C F.Sh) (f_cby F _ _ _ _),
  fun a1 a2 => jI_D (sp_x_taken fa_L FRB.C (fun i hi => (show ∀ i, i < 5 → 0 ≤ ((fa0 0).getD i 0).toInt ∧ ((fa0 0).getD i 0).toInt ≤ 5 by decide +kernel) i hi)) (sp_y_taken F.L) (f_tk F _ _)⟩
