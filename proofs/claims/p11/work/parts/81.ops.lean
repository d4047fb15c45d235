/-! ===== each call of both sides keeps it, and both answer alike ===== -/
section Joins
variable {y1 y2 : MethodName} {c1 c2 : ByteArray} {n1 n2 d1 d2 : Nat} {A : List Value} {Q : mc_W → Prop} {E : Prop}
variable {s u m n s1 u1 : Nat → Int32} {a c b d a1 k1 : Nat → List Int32} {q q1 : List (Option Nat)} {h h1 : Nat} {z z1 : mc_W}
theorem jI_D {r1 r2 : Int32} (hS : mc_D y1 c1 n1 (some .int) d1 (.ref 0 :: A) (WW s a q u c h m b n d z) (some (.int r1)) (WW s1 a1 q1 u1 k1 h1 m b n d z1)) (hT : mc_T y2 c2 n2 (some .int) d2 (.ref 29 :: A) (WW s1 a1 q1 u1 k1 h1 m b n d z1) (some (.int r2)) Q) (hr : E → r1 = r2) (hd1 : d1 ≤ 60 := by decide) (hd2 : d2 ≤ 60 := by decide) : jI y1 c1 n1 y2 c2 n2 0 0 E A (WW s a q u c h m b n d z) Q :=
  ⟨r1, r2, d1, d2, _, hd1, hd2, hr, rfl, mc_S_mono hS (fun r w e => by obtain ⟨e1, e2⟩ := e; subst e2; exact ⟨e1, ⟨_, rfl⟩, hT⟩)⟩
theorem jL_D {r1 r2 : Int64} (hS : mc_D y1 c1 n1 (some .long) d1 (.ref 0 :: A) (WW s a q u c h m b n d z) (some (.long r1)) (WW s1 a1 q1 u1 k1 h1 m b n d z1)) (hT : mc_T y2 c2 n2 (some .long) d2 (.ref 29 :: A) (WW s1 a1 q1 u1 k1 h1 m b n d z1) (some (.long r2)) Q) (hr : E → r1 = r2) (hd1 : d1 ≤ 60 := by decide) (hd2 : d2 ≤ 60 := by decide) : jL y1 c1 n1 y2 c2 n2 0 0 E A (WW s a q u c h m b n d z) Q :=
  ⟨r1, r2, d1, d2, _, hd1, hd2, hr, rfl, mc_S_mono hS (fun r w e => by obtain ⟨e1, e2⟩ := e; subst e2; exact ⟨e1, ⟨_, rfl⟩, hT⟩)⟩
theorem jI_P {r1 r2 : Int32} (hS : mc_T y1 c1 n1 (some .int) d1 (.ref 0 :: A) (WW s a q u c h m b n d z) (some (.int r1)) (fun w1 => ∃ u1 k1 h1, xC k1 ∧ w1 = WW s1 a1 q1 u1 k1 h1 m b n d z1)) (hT : ∀ u1 k1 h1, xC k1 → mc_T y2 c2 n2 (some .int) d2 (.ref 29 :: A) (WW s1 a1 q1 u1 k1 h1 m b n d z1) (some (.int r2)) Q) (hr : E → r1 = r2) (hd1 : d1 ≤ 60 := by decide) (hd2 : d2 ≤ 60 := by decide) : jI y1 c1 n1 y2 c2 n2 0 0 E A (WW s a q u c h m b n d z) Q :=
  ⟨r1, r2, d1, d2, _, hd1, hd2, hr, rfl, mc_S_mono hS (fun r w e => by obtain ⟨e1, u1, k1, h1, hk, e2⟩ := e; subst e2; exact ⟨e1, ⟨_, rfl⟩, hT u1 k1 h1 hk⟩)⟩
theorem jL_P {r1 r2 : Int64} (hS : mc_T y1 c1 n1 (some .long) d1 (.ref 0 :: A) (WW s a q u c h m b n d z) (some (.long r1)) (fun w1 => ∃ u1 k1 h1, xC k1 ∧ w1 = WW s1 a1 q1 u1 k1 h1 m b n d z1)) (hT : ∀ u1 k1 h1, xC k1 → mc_T y2 c2 n2 (some .long) d2 (.ref 29 :: A) (WW s1 a1 q1 u1 k1 h1 m b n d z1) (some (.long r2)) Q) (hr : E → r1 = r2) (hd1 : d1 ≤ 60 := by decide) (hd2 : d2 ≤ 60 := by decide) : jL y1 c1 n1 y2 c2 n2 0 0 E A (WW s a q u c h m b n d z) Q :=
  ⟨r1, r2, d1, d2, _, hd1, hd2, hr, rfl, mc_S_mono hS (fun r w e => by obtain ⟨e1, u1, k1, h1, hk, e2⟩ := e; subst e2; exact ⟨e1, ⟨_, rfl⟩, hT u1 k1 h1 hk⟩)⟩
end Joins
section Ends
variable {y2 : MethodName} {c2 : ByteArray} {n2 d2 : Nat} {ret : Option FieldType} {r : Option Value} {A : List Value} {w : mc_W}
variable {s u n m1 n1 : Nat → Int32} {a c d b1 d1 : Nat → List Int32} {q : List (Option Nat)} {h : Nat} {z : mc_W} {t3 t4 t5 : List Int32} {T N : Nat}
theorem T_iv (J : JV s a q c t3 t4 t5 d z T N) {m : Nat → Int32} {b : Nat → List Int32} (hm : m = Ms s) (hb : b = Bs s a t3 t4 t5) {k1 : Nat → List Int32} (hk : xC k1) (hT : mc_T y2 c2 n2 ret d2 A w r (fun w' => ∃ n1 d1, yD d1 ∧ w' = WW s a q u k1 h m b n1 d1 z)) : mc_T y2 c2 n2 ret d2 A w r IV :=
  mc_S_mono hT (fun r w e => by obtain ⟨e1, n1, d1, hd, e2⟩ := e; exact ⟨e1, by rw [e2]; exact IVi (J.cd hk hd) hm hb⟩)
theorem T_ivd (J : JV s a q c t3 t4 t5 d z T N) {m : Nat → Int32} {b : Nat → List Int32} (hm : m = Ms s) (hb : b = Bs s a t3 t4 t5) {k1 : Nat → List Int32} (hk : xC k1) (hT : mc_T y2 c2 n2 ret d2 A w r (fun w' => ∃ d1, yD d1 ∧ w' = WW s a q u k1 h m b n d1 z)) : mc_T y2 c2 n2 ret d2 A w r IV :=
  mc_S_mono hT (fun r w e => by obtain ⟨e1, d1, hd, e2⟩ := e; exact ⟨e1, by rw [e2]; exact IVi (J.cd hk hd) hm hb⟩)
theorem T_iva (J : JV s a q c t3 t4 t5 d z T N) {m : Nat → Int32} {b : Nat → List Int32} (hm : m = Ms s) (hb : b = Bs s a t3 t4 t5) {k1 : Nat → List Int32} (hk : xC k1) {X : (Nat → List Int32) → Prop} (hT : mc_T y2 c2 n2 ret d2 A w r (fun w' => ∃ d1, yD d1 ∧ X d1 ∧ w' = WW s a q u k1 h m b n d1 z)) : mc_T y2 c2 n2 ret d2 A w r IV :=
  mc_S_mono hT (fun r w e => by obtain ⟨e1, d1, hd, -, e2⟩ := e; exact ⟨e1, by rw [e2]; exact IVi (J.cd hk hd) hm hb⟩)
theorem D_iv (J : JV s a q c t3 t4 t5 d z T N) {m : Nat → Int32} {b : Nat → List Int32} (hm : m = Ms s) (hb : b = Bs s a t3 t4 t5) {k1 : Nat → List Int32} (hk : xC k1) (hT : mc_D y2 c2 n2 ret d2 A w r (WW s a q u k1 h m b n d z)) : mc_T y2 c2 n2 ret d2 A w r IV :=
  mc_S_mono hT (fun r w e => by obtain ⟨e1, e2⟩ := e; exact ⟨e1, by rw [e2]; exact IVi (J.cd hk J.D) hm hb⟩)
end Ends
theorem wi_cases (x : Int32) : mc_wi x 0 3 = false ∨ ∃ k, k < 4 ∧ x = nI k := by
  cases h : mc_wi x 0 3 with
  | false => exact Or.inl rfl
  | true => exact Or.inr (wi_k h)
section No
variable {m : Nat → Int32} {b : Nat → List Int32} {x0 j w v k : Int32}
theorem ybw_no (h : mc_wi x0 0 3 = false) : ybw b x0 = -2 := if_pos h
theorem ysw_no (h : mc_wi x0 0 3 = false) : ysw b x0 = -2 := if_pos h
theorem ytw_no (h : mc_wi x0 0 3 = false) : ytw m b x0 j = -2 := by unfold ytw; rw [ysw_no h, if_pos (by decide)]
theorem ybook_no (h : mc_wi x0 0 3 = false) : ybook m b x0 j w = -2 := by unfold ybook; rw [ybw_no h, if_pos (by decide)]; decide
theorem ywho_no (h : mc_wi x0 0 3 = false) : ywho m b x0 w = -2 := by unfold ywho; rw [ybw_no h, if_pos (by decide)]; decide
theorem ysm_no (h : mc_wi x0 0 3 = false) : ysm m b x0 j w = -2 := by unfold ysm; rw [ybw_no h, if_pos (by decide)]; decide
theorem yshort_no (h : mc_wi x0 0 3 = false) : yshort m b x0 j w = -2 := by unfold yshort; rw [ybw_no h, if_pos (by decide)]
theorem yjudge_no (h : mc_wi x0 0 3 = false) : yjudge m b x0 j = -2 := by unfold yjudge; rw [ytw_no h, if_neg (by decide)]
theorem ykinds_no (h : mc_wi x0 0 3 = false) : ykinds m b x0 j w = -2 := by unfold ykinds; rw [ytw_no h, if_pos (by decide)]
theorem ywhose_no (h : mc_wi x0 0 3 = false) : ywhose m b x0 = -2 := by unfold ywhose; rw [ysw_no h, if_pos (by decide)]
theorem ylaws_no (h : mc_wi x0 0 3 = false) : ylaws m b x0 j = -2 := by unfold ylaws; rw [ytw_no h, if_pos (by decide)]
theorem yfm1_no (h : mc_wi x0 0 3 = false) : yfm1 m x0 j w v = -2 := if_pos h
theorem yfmb_no (h : mc_wi x0 0 3 = false) : yfmb m b x0 j w v = b := if_neg (by unfold yfmc; rw [h]; simp)
theorem ycl1_no (h : mc_wi x0 0 3 = false) : ycl1 b x0 j = -2 := if_pos h
theorem yclb_no (h : mc_wi x0 0 3 = false) : yclb b x0 j v = b := by unfold yclb; rw [ycl1_no h, if_neg (by decide)]
theorem ycy1_no {x1 : Int32} (h : (mc_wi x0 0 3 && mc_wi x1 0 3) = false) : ycy1 b x0 j x1 w v = -2 ∧ ycyb b x0 j x1 w v = b := by
  have e : ycyr b x0 j x1 w v = -2 := if_pos (by rwa [Bool.and_eq_false_iff] at h)
  unfold ycy1 ycyb
  rw [e, if_neg (by decide), if_neg (by decide)]
  exact ⟨rfl, rfl⟩
theorem ycby_no (h : mc_wi x0 0 3 = false) : ycby m b x0 j w v = (-2, m, b) := if_pos (by rw [h]; rfl)
end No
section Ops
variable {s u n : Nat → Int32} {a c d : Nat → List Int32} {q : List (Option Nat)} {h : Nat} {z : mc_W} {t3 t4 t5 : List Int32} {T N : Nat}
theorem op_feed (J : JV s a q c t3 t4 t5 d z T N) (k x0 x1 x2 x3 x4 : Int32) : jI yX6_feed cX6_feed 7 yX7_feed cX7_feed 8 0 0 True [.int k, .int x0, .int x1, .int x2, .int x3, .int x4] (WW s a q u c h (Ms s) (Bs s a t3 t4 t5) n d z) IV := by
  obtain ⟨hN, hN160, hag⟩ := J.2.2.2.2.2.1
  have l2 : (a 2).length = 160 := J.xl.2.2.1
  have l3 : t3.length = 160 := J.2.2.2.1.2.1
  have tN := nI_toInt (n := N) (by omega)
  have h3 : (Ms s 3) = nI N := hN
  have y := fun s1 a1 u1 => sp_y_feed (s := s1) (a := a1) (q := q) (u := u1) (c := c) (h := h) (m := Ms s) (b := Bs s a t3 t4 t5) (n := n) (d := d) (z := z) (k := k) (x0 := x0) (x1 := x1) (x2 := x2) (x3 := x3) (x4 := x4) J.L (by rw [h3, tN]; omega) (by rw [h3, tN]; omega)
  by_cases hv : (mc_wi k 1 5 && mc_wi x0 0 255 && mc_wi x1 0 255 && mc_wi x2 0 255 && mc_wi x3 0 255 && mc_wi x4 0 255) = true
  · have hb : (mc_wi x0 0 255 && mc_wi x1 0 255 && mc_wi x2 0 255 && mc_wi x3 0 255 && mc_wi x4 0 255) = true := by
      simp only [Bool.and_eq_true] at hv ⊢
      exact ⟨⟨⟨⟨hv.1.1.1.1.2, hv.1.1.1.2⟩, hv.1.1.2⟩, hv.1.2⟩, hv.2⟩
    have hk : mc_wi k 1 5 = true := by simp only [Bool.and_eq_true] at hv; exact hv.1.1.1.1.1
    rw [mc_wi_iff, i1, show (5 : Int32).toInt = 5 from rfl] at hk
    obtain ⟨K, hK⟩ : ∃ K, k.toNatClampNeg = K := ⟨_, rfl⟩
    have tk := tnc (x := k) (by omega)
    have ek : k = nI K := by rw [← hK]; exact nI_back (by omega)
    have hK5 : 1 ≤ K ∧ K ≤ 5 := by omega
    have e1 : yfe1 (Ms s) k x0 x1 x2 x3 x4 = if N + K ≤ 160 then nI (N + K) else -4 := by
      unfold yfe1
      rw [if_neg (by rw [hv]; decide), h3, ek, nI_add, show (160 : Int32) = nI 160 from rfl]
      by_cases cN : N + K ≤ 160
      · rw [if_pos cN, if_pos (nI_le cN (by decide))]
      · rw [if_neg cN, if_neg (nI_ge (by omega) (by omega))]
    by_cases cN : N + K ≤ 160
    · rw [if_pos cN] at e1
      have nn : ¬ yfe1 (Ms s) k x0 x1 x2 x3 x4 < 0 := by rw [e1]; exact nI_pos (by omega)
      have em : yfem (Ms s) k x0 x1 x2 x3 x4 = Ms (mc_up s 5 (nI (N + K))) := by
        unfold yfem
        rw [if_neg nn, Ms_5, h3, ek, nI_add]
      have eb : yfeb (Ms s) (Bs s a t3 t4 t5) k x0 x1 x2 x3 x4 = Bs s a (yfd (yfx x0 x1 x2 x3 x4) K 0 N t3) t4 t5 := by
        unfold yfeb
        rw [if_neg nn, hK, h3, nIc (by omega)]
        exact Bs_t3
      have go : ∀ r : List Int32, r.length = 160 → (yfd (yfx x0 x1 x2 x3 x4) K 0 N t3).length = 160 → (∀ i, i < N + K → (yfd (yfx x0 x1 x2 x3 x4) K 0 N t3).getD i 0 = r.getD i 0) → ∀ u1, mc_T yX7_feed cX7_feed 8 (some .int) 3 [.ref 29, .int k, .int x0, .int x1, .int x2, .int x3, .int x4] (WW (mc_up s 5 (nI (N + K))) (mc_up a 2 r) q u1 c h (Ms s) (Bs s a t3 t4 t5) n d z) (some (.int (nI (N + K)))) IV := by
        intro r hr ht hA u1
        have Y := y (mc_up s 5 (nI (N + K))) (mc_up a 2 r) u1
        rw [e1] at Y
        exact D_iv (J.feed cN hr ht hA) em (by rw [eb, Bs_2]; exact (Bs_s (fun j hj => upn (by omega))).symm) J.xc Y
      subst ek
      rcases (show K = 1 ∨ K = 2 ∨ K = 3 ∨ K = 4 ∨ K = 5 by omega) with rfl | rfl | rfl | rfl | rfl
      · exact jI_D (sp_x_feed1 l2 hN cN hb) (go _ (by simp only [List.length_set]; exact l2) (by simp only [yfd, List.length_set]; exact l3) (agree_set (x := x0) hag (by omega) (by omega)) _) (fun _ => rfl)
      · exact jI_D (sp_x_feed2 l2 hN cN hb) (go _ (by simp only [List.length_set]; exact l2) (by simp only [yfd, List.length_set]; exact l3) (agree_set (x := x1) (agree_set (x := x0) hag (by omega) (by omega)) (by simp only [List.length_set]; omega) (by simp only [List.length_set]; omega)) _) (fun _ => rfl)
      · exact jI_D (sp_x_feed3 l2 hN cN hb) (go _ (by simp only [List.length_set]; exact l2) (by simp only [yfd, List.length_set]; exact l3) (agree_set (x := x2) (agree_set (x := x1) (agree_set (x := x0) hag (by omega) (by omega)) (by simp only [List.length_set]; omega) (by simp only [List.length_set]; omega)) (by simp only [List.length_set]; omega) (by simp only [List.length_set]; omega)) _) (fun _ => rfl)
      · exact jI_D (sp_x_feed4 l2 hN cN hb) (go _ (by simp only [List.length_set]; exact l2) (by simp only [yfd, List.length_set]; exact l3) (agree_set (x := x3) (agree_set (x := x2) (agree_set (x := x1) (agree_set (x := x0) hag (by omega) (by omega)) (by simp only [List.length_set]; omega) (by simp only [List.length_set]; omega)) (by simp only [List.length_set]; omega) (by simp only [List.length_set]; omega)) (by simp only [List.length_set]; omega) (by simp only [List.length_set]; omega)) _) (fun _ => rfl)
      · exact jI_D (sp_x_feed5 l2 hN cN hb) (go _ (by simp only [List.length_set]; exact l2) (by simp only [yfd, List.length_set]; exact l3) (agree_set (x := x4) (agree_set (x := x3) (agree_set (x := x2) (agree_set (x := x1) (agree_set (x := x0) hag (by omega) (by omega)) (by simp only [List.length_set]; omega) (by simp only [List.length_set]; omega)) (by simp only [List.length_set]; omega) (by simp only [List.length_set]; omega)) (by simp only [List.length_set]; omega) (by simp only [List.length_set]; omega)) (by simp only [List.length_set]; omega) (by simp only [List.length_set]; omega)) _) (fun _ => rfl)
    · rw [if_neg cN] at e1
      have nn : yfe1 (Ms s) k x0 x1 x2 x3 x4 < 0 := by rw [e1]; decide
      exact jI_D (sp_x_feedF ek hK5 hN hN160 (by omega)) (D_iv J (by unfold yfem; rw [if_pos nn]) (by unfold yfeb; rw [if_pos nn]) J.xc (y s a u)) (fun _ => by rw [e1, if_pos hv])
  · have hv : (mc_wi k 1 5 && mc_wi x0 0 255 && mc_wi x1 0 255 && mc_wi x2 0 255 && mc_wi x3 0 255 && mc_wi x4 0 255) = false := by simpa using hv
    have e1 : yfe1 (Ms s) k x0 x1 x2 x3 x4 = -2 := if_pos hv
    have nn : yfe1 (Ms s) k x0 x1 x2 x3 x4 < 0 := by rw [e1]; decide
    exact jI_D (sp_x_feedB hv) (D_iv J (by unfold yfem; rw [if_pos nn]) (by unfold yfeb; rw [if_pos nn]) J.xc (y s a u)) (fun _ => e1.symm)
theorem op_forgive (J : JV s a q c t3 t4 t5 d z T N) (w : Int32) : jI yX6_forgive cX6_forgive 7 yX7_forgive cX7_forgive 7 0 0 True [.int w] (WW s a q u c h (Ms s) (Bs s a t3 t4 t5) n d z) IV := by
  refine ⟨_, _, 7, 3, _, by decide, by decide, fun _ => eq_forgive (w := w) J.O, rfl, mc_S_mono (sp_x_forgive (s := s) (a := a) (c := c) (m := Ms s) (b := Bs s a t3 t4 t5) (n := n) (d := d) (q := q) (u := u) (h := h) (z := z) J.xl.2.2.2.1 J.xc.2.1) (fun r w1 k => ?_)⟩
  obtain ⟨e1, R, hR, rfl⟩ := k
  exact ⟨e1, ⟨_, rfl⟩, D_iv J rfl rfl (by have := J.xc; exact ⟨this.1, hR, this.2.2.1, this.2.2.2.1, this.2.2.2.2.1, this.2.2.2.2.2⟩) (sp_y_forgive J.L)⟩
end Ops
