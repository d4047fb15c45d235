/-! what a text says -/
def yD (d : Nat → List Int32) : Prop := (d 0).length = 200 ∧ (d 1).length = 200 ∧ (d 2).length = 6 ∧ (d 3).length = 40
def ystep (nm : List Int32) (c : Int32) (st : List Int32) : List Int32 :=
  if 100000 ≤ c ∨ c < 11 then (if c < 11 then gt nm c else c - 100000) :: st
  else if c = 13 then (match st with | x :: r => (if x = 0 then 1 else 0) :: r | [] => [])
  else if c = 19 then (match st with | x :: r => (-x) :: r | [] => [])
  else match st with | y :: x :: r => yy_two c x y :: r | _ => []
def yev (nm : List Int32) : List Int32 → List Int32 → Int32
  | [], st => st.headD 0
  | c :: r, st => yev nm r (ystep nm c st)
def ydp : List Int32 → Nat → Bool
  | [], n => n == 1
  | c :: r, n => if 100000 ≤ c ∨ c < 11 then (decide (100000 ≤ c) || mc_wi c 0 5) && decide (n < 200) && ydp r (n + 1)
    else if c = 13 ∨ c = 19 then decide (1 ≤ n) && ydp r n else decide (2 ≤ n) && ydp r (n - 1)
theorem tk_set (l : List Int32) (k : Nat) (v : Int32) (h : k < l.length) : (l.set k v).take (k + 1) = l.take k ++ [v] := by
  apply List.ext_getElem?
  intro i
  rw [List.getElem?_take]
  by_cases h1 : i < k
  · rw [if_pos (by omega), List.getElem?_set_ne (by omega), List.getElem?_append_left (by rw [List.length_take]; omega), List.getElem?_take, if_pos h1]
  · by_cases h2 : i = k
    · subst h2
      rw [if_pos (by omega), List.getElem?_set_self h, List.getElem?_append_right (by rw [List.length_take]; omega), List.length_take]
      rw [show i - min i l.length = 0 by omega]; rfl
    · rw [if_neg (by omega), List.getElem?_eq_none]
      rw [List.length_append, List.length_take]; simp; omega
theorem tk_last {l : List Int32} {st : List Int32} {x : Int32} {N : Nat} (h : l.take N = (x :: st).reverse) (hN : N = (x :: st).length) : l.take (N - 1) = st.reverse ∧ l.getD (N - 1) 0 = x ∧ N - 1 < l.length := by
  have hl : N ≤ l.length := by
    have := congrArg List.length h
    rw [List.length_take, List.length_reverse, ← hN] at this
    omega
  have h1 : 0 < N := by rw [hN]; simp
  rw [List.reverse_cons] at h
  have e1 : l.take (N - 1) = (l.take N).take (N - 1) := by rw [List.take_take]; congr 1; omega
  have e2 : (st.reverse).length = N - 1 := by rw [List.length_reverse, hN]; simp
  refine ⟨?_, ?_, by omega⟩
  · rw [e1, h, List.take_append_of_le_length (by omega), List.take_of_length_le (by omega)]
  · have e3 : l[N - 1]? = (l.take N)[N - 1]? := by rw [List.getElem?_take, if_pos (by omega)]
    rw [List.getD_eq_getElem?_getD, e3, h, List.getElem?_append_right (by omega), e2, Nat.sub_self]
    rfl
theorem nIc {n : Nat} (h : n < 2 ^ 31) : (nI n).toNatClampNeg = n := nI_clamp h
theorem yD_set1 {d : Nat → List Int32} (hD : yD d) (k : Nat) (v : Int32) : yD (mc_up d 1 ((d 1).set k v)) ∧ (mc_up d 1 ((d 1).set k v)) 2 = d 2 ∧ (mc_up d 1 ((d 1).set k v)) 3 = d 3 := by
  refine ⟨⟨hD.1, ?_, hD.2.2.1, hD.2.2.2⟩, rfl, rfl⟩
  show ((d 1).set k v).length = 200
  rw [List.length_set]; exact hD.2.1
/-- where the parts of text t stand -/
def yfr (b : Nat → List Int32) (t p : Nat) : Int32 := (b 5).getD (4 * t + p) 0
def yseg (b : Nat → List Int32) (t p : Nat) : List Int32 := ((b 4).drop (200 * t + (yfr b t p).toNatClampNeg)).take ((yfr b t (p + 1)).toNatClampNeg - (yfr b t p).toNatClampNeg)
/-- text t is one -/
def yT (b : Nat → List Int32) (t : Nat) : Prop := ∀ p, p < 3 → 0 ≤ (yfr b t p).toInt ∧ (yfr b t p).toInt ≤ (yfr b t (p + 1)).toInt ∧ (yfr b t (p + 1)).toInt ≤ 160 ∧ ydp (yseg b t p) 0 = true
theorem nI_dec {n : Nat} (h : 1 ≤ n) : nI n + Int32.ofInt (-1) = nI (n - 1) := by
  obtain ⟨k, rfl⟩ : ∃ k, n = k + 1 := ⟨n - 1, by omega⟩
  rw [show Int32.ofInt (-1) = (-1 : Int32) by decide, pk_m1]
  rfl
theorem nI_sub1 {n : Nat} (h : 1 ≤ n) : nI n - 1 = nI (n - 1) := pk_sub (a := n) (b := 1) h
set_option maxHeartbeats 1000000 in
theorem lp_y_says {s u m n : Nat → Int32} {a c b : Nat → List Int32} {q : List (Option Nat)} {h : Nat} {z : mc_W} {t p e : Nat} {V : Int32} {nm d3 : List Int32} (hL : yL b) (ht : m 5 = nI t) (ht6 : t < 6) (hp : p < 3) (hE : yfr b t (p + 1) = nI e) (he : e ≤ 160) :
    ∀ (r st : List Int32) (k N : Nat) (d : Nat → List Int32) (x4 : Option Value), yD d → d 2 = nm → d 3 = d3 → N = st.length → (d 1).take N = st.reverse → k + r.length = e → (∀ i, i < r.length → (b 4).getD (200 * t + k + i) 0 = r.getD i 0) → ydp r N = true → yev nm r st = V →
      mc_E RX7 cX7_says 5 (mc_JM (some .int) false 2 0 0 (fun r' w' => r' = some (.int V) ∧ ∃ d1, yD d1 ∧ d1 3 = d3 ∧ w' = WW s a q u c h m b n d1 z)) 16 [some (.ref 29), some (.int (nI p)), some (.int (nI N)), some (.int (nI k)), x4] [] (WW s a q u c h m b n d z) 0 0 := by
  have hiE : vp_in (4 * m 5 + nI p + 1) (b 5).length := by
    rw [ht, show (4 : Int32) * nI t = nI (4 * t) from pk_mul 4 t, nI_add, nI_1, hL.2.2.2.2.2.1]; exact vp_in_nI (by omega) (by decide)
  have hxE : (b 5).getD (4 * m 5 + nI p + 1).toNatClampNeg 0 = nI e := by
    rw [ht, show (4 : Int32) * nI t = nI (4 * t) from pk_mul 4 t, nI_add, nI_1, nIc (by omega)]; exact hE
  have hiC : ∀ k, k < 160 → vp_in (200 * m 5 + nI k) (b 4).length := fun k hk => by
    rw [ht, show (200 : Int32) * nI t = nI (200 * t) from pk_mul 200 t, nI_add, hL.2.2.2.2.1]; exact vp_in_nI (by omega) (by decide)
  have hxC : ∀ k, k < 160 → (200 * m 5 + nI k).toNatClampNeg = 200 * t + k := fun k hk => by
    rw [ht, show (200 : Int32) * nI t = nI (200 * t) from pk_mul 200 t, nI_add, nIc (by omega)]
  intro r
  induction r with
  | nil =>
    intro st k N d x4 hD h2 h3 hN hst hkr hrr hdp hV
    have hke : k = e := by simpa using hkr
    have h1 : N = 1 := by simpa [ydp] using hdp
    obtain ⟨v, rfl⟩ : ∃ v, st = [v] := by
      match st, hN with
      | [v], _ => exact ⟨v, rfl⟩
      | [], hN => simp at hN; omega
      | _ :: _ :: _, hN => simp at hN; omega
    have h0 := (tk_last hst hN).2.1
    subst h1
    have hx0 : (d 1).getD (0 : Int32).toNatClampNeg 0 = V := by rw [← hV]; exact h0
    have hi0 : vp_in (0 : Int32) (d 1).length := by rw [hD.2.1]; exact vp_in_nI (n := 0) (by decide) (by decide)
    refine e_iloadn (pc := 16) dX7_says_16 rfl ?_
    refine e_aloadn (pc := 17) dX7_says_17 rfl ?_
    refine e_get (pc := 18) dX7_says_18 fX7_32 rfl rfl ?_
    refine e_iconst (v := 4) (pc := 21) dX7_says_21 (by decide) ?_
    refine e_aloadn (pc := 22) dX7_says_22 rfl ?_
    refine e_get (pc := 23) dX7_says_23 fX7_83 rfl rfl ?_
    refine e_imul (pc := 26) dX7_says_26 ?_
    refine e_iloadn (pc := 27) dX7_says_27 rfl ?_
    refine e_iadd (pc := 28) dX7_says_28 ?_
    refine e_iconst (v := 1) (pc := 29) dX7_says_29 (by decide) ?_
    refine e_iadd (pc := 30) dX7_says_30 ?_
    refine aldv_starts (pc := 31) dX7_says_31 hiE hxE ?_
    refine e_icmp_ge (pc := 32) dX7_says_32 (t := 197) (by decide) (fun _ => ?_) (fun c_32 => absurd (by rw [hke]; exact nI_le (Nat.le_refl _) (by omega)) c_32)
    refine e_aloadn (pc := 197) dX7_says_197 rfl ?_
    refine e_get (pc := 198) dX7_says_198 fX7_56 rfl rfl ?_
    refine e_iconst (v := 0) (pc := 201) dX7_says_201 (by decide) ?_
    refine aldv_ystack (pc := 202) dX7_says_202 hi0 hx0 ?_
    exact e_iret (pc := 203) dX7_says_203 rfl (Nat.le_refl _) (Nat.le_refl _) ⟨rfl, d, hD, h3, rfl⟩
  | cons co r ih =>
    intro st k N d x4 hD h2 h3 hN hst hkr hrr hdp hV
    have hk : k < e := by simp at hkr; omega
    have hc : (b 4).getD (200 * m 5 + nI k).toNatClampNeg 0 = co := by rw [hxC k (by omega)]; simpa using hrr 0 (by simp)
    have hkr2 : k + 1 + r.length = e := by simp at hkr; omega
    have hrr2 : ∀ i, i < r.length → (b 4).getD (200 * t + (k + 1) + i) 0 = r.getD i 0 := fun i hi => by
      have := hrr (i + 1) (by simp; omega)
      rw [show 200 * t + (k + 1) + i = 200 * t + k + (i + 1) by omega, this]
      simp
    have N200 : N ≤ 200 := by
      have := congrArg List.length hst
      rw [List.length_take, List.length_reverse, ← hN, hD.2.1] at this
      omega
    simp only [yev] at hV
    simp only [ydp] at hdp
    have PUSH : (100000 ≤ co ∨ co < 11) → ∀ v, v = (if co < 11 then gt nm co else co - 100000) → mc_E RX7 cX7_says 5 (mc_JM (some .int) false 2 0 0 (fun r' w' => r' = some (.int V) ∧ ∃ d1, yD d1 ∧ d1 3 = d3 ∧ w' = WW s a q u c h m b n d1 z)) 16 [some (.ref 29), some (.int (nI p)), some (.int (nI (N + 1))), some (.int (nI (k + 1))), some (.int co)] [] (WW s a q u c h m b n (mc_up d 1 ((d 1).set (nI N).toNatClampNeg v)) z) 0 0 := by
      intro hco v hv
      rw [if_pos hco] at hdp
      simp only [Bool.and_eq_true, decide_eq_true_eq] at hdp
      rw [nIc (by omega)]
      obtain ⟨g1, g2, g3⟩ := yD_set1 hD N v
      refine ih (v :: st) (k + 1) (N + 1) _ _ g1 (g2.trans h2) (g3.trans h3) (by rw [hN]; rfl) ?_ hkr2 hrr2 hdp.2 ?_
      · show ((d 1).set N v).take (N + 1) = _
        rw [tk_set _ _ _ (by rw [hD.2.1]; exact hdp.1.2), hst, List.reverse_cons]
      · rw [← hV]; unfold ystep; rw [if_pos hco, hv]
    have UN : ¬ (100000 ≤ co ∨ co < 11) → (co = 13 ∨ co = 19) → 1 ≤ N ∧ vp_in (nI N - 1) (d 1).length ∧ ∀ v, v = (if co = 13 then (if (d 1).getD (nI N - 1).toNatClampNeg 0 = 0 then 1 else 0) else -((d 1).getD (nI N - 1).toNatClampNeg 0)) → mc_E RX7 cX7_says 5 (mc_JM (some .int) false 2 0 0 (fun r' w' => r' = some (.int V) ∧ ∃ d1, yD d1 ∧ d1 3 = d3 ∧ w' = WW s a q u c h m b n d1 z)) 16 [some (.ref 29), some (.int (nI p)), some (.int (nI N)), some (.int (nI (k + 1))), some (.int co)] [] (WW s a q u c h m b n (mc_up d 1 ((d 1).set (nI N - 1).toNatClampNeg v)) z) 0 0 := by
      intro hn hco
      rw [if_neg hn, if_pos hco] at hdp
      simp only [Bool.and_eq_true, decide_eq_true_eq] at hdp
      match st, hN, hst, hV with
      | [], hN, _, _ => simp at hN; omega
      | x :: st, hN, hst, hV =>
        obtain ⟨k1, k2, k3⟩ := tk_last hst hN
        have hc2 : (nI N - 1).toNatClampNeg = N - 1 := by rw [nI_sub1 hdp.1, nIc (by omega)]
        refine ⟨hdp.1, by rw [nI_sub1 hdp.1]; exact vp_in_nI k3 (by rw [hD.2.1]; decide), fun v hv => ?_⟩
        rw [hc2, k2] at hv
        rw [hc2]
        obtain ⟨g1, g2, g3⟩ := yD_set1 hD (N - 1) v
        refine ih (v :: st) (k + 1) N _ _ g1 (g2.trans h2) (g3.trans h3) (by rw [hN]; rfl) ?_ hkr2 hrr2 hdp.2 ?_
        · show ((d 1).set (N - 1) v).take N = _
          have := tk_set (d 1) (N - 1) v k3
          rw [show N - 1 + 1 = N by omega] at this
          rw [this, k1, List.reverse_cons]
        · rw [← hV]; unfold ystep; rw [if_neg hn, hv]
          rcases hco with h | h
          · rw [if_pos h, if_pos h]
          · rw [if_neg (by rw [h]; decide), if_pos h, if_neg (by rw [h]; decide)]
    have BI : ¬ (100000 ≤ co ∨ co < 11) → ¬ co = 13 → ¬ co = 19 → 2 ≤ N ∧ vp_in (nI (N - 1) - 1) (d 1).length ∧ vp_in (nI (N - 1)) (d 1).length ∧ ∀ v, v = yy_two co ((d 1).getD (nI (N - 1) - 1).toNatClampNeg 0) ((d 1).getD (nI (N - 1)).toNatClampNeg 0) → mc_E RX7 cX7_says 5 (mc_JM (some .int) false 2 0 0 (fun r' w' => r' = some (.int V) ∧ ∃ d1, yD d1 ∧ d1 3 = d3 ∧ w' = WW s a q u c h m b n d1 z)) 16 [some (.ref 29), some (.int (nI p)), some (.int (nI (N - 1))), some (.int (nI (k + 1))), some (.int co)] [] (WW s a q u c h m b n (mc_up d 1 ((d 1).set (nI (N - 1) - 1).toNatClampNeg v)) z) 0 0 := by
      intro hn hc1 hc2
      rw [if_neg hn, if_neg (by simp [hc1, hc2])] at hdp
      simp only [Bool.and_eq_true, decide_eq_true_eq] at hdp
      match st, hN, hst, hV with
      | [], hN, _, _ => simp at hN; omega
      | [_], hN, _, _ => simp at hN; omega
      | y :: x :: st, hN, hst, hV =>
        obtain ⟨k1, k2, k3⟩ := tk_last hst hN
        obtain ⟨l1, l2, l3⟩ := tk_last k1 (by rw [hN]; rfl)
        have hc3 : (nI (N - 1) - 1).toNatClampNeg = N - 1 - 1 := by rw [nI_sub1 (by omega), nIc (by omega)]
        have hc4 : (nI (N - 1)).toNatClampNeg = N - 1 := nIc (by omega)
        refine ⟨hdp.1, by rw [nI_sub1 (by omega)]; exact vp_in_nI l3 (by rw [hD.2.1]; decide), vp_in_nI k3 (by rw [hD.2.1]; decide), fun v hv => ?_⟩
        rw [hc3, hc4, k2, l2] at hv
        rw [hc3]
        obtain ⟨g1, g2, g3⟩ := yD_set1 hD (N - 1 - 1) v
        refine ih (v :: st) (k + 1) (N - 1) _ _ g1 (g2.trans h2) (g3.trans h3) (by rw [hN]; simp) ?_ hkr2 hrr2 hdp.2 ?_
        · show ((d 1).set (N - 1 - 1) v).take (N - 1) = _
          have := tk_set (d 1) (N - 1 - 1) v l3
          rw [show N - 1 - 1 + 1 = N - 1 by omega] at this
          rw [this, l1, List.reverse_cons]
        · rw [← hV]; unfold ystep; rw [if_neg hn, if_neg hc1, if_neg hc2, hv]
    have hiN : (100000 ≤ co ∨ co < 11) → vp_in (nI N) (d 1).length := fun hco => by
      rw [if_pos hco] at hdp
      simp only [Bool.and_eq_true, decide_eq_true_eq] at hdp
      exact vp_in_nI (by rw [hD.2.1]; exact hdp.1.2) (by rw [hD.2.1]; decide)
    have hiM : co < 11 → vp_in co (d 2).length := fun hco => by
      rw [if_pos (Or.inr hco)] at hdp
      simp only [Bool.and_eq_true, Bool.or_eq_true, decide_eq_true_eq] at hdp
      rw [hD.2.2.1]
      rcases hdp.1.1 with h | h
      · rw [Int32.lt_iff_toInt_lt] at hco
        rw [Int32.le_iff_toInt_le] at h
        have e1 : (11 : Int32).toInt = 11 := rfl
        have e2 : (100000 : Int32).toInt = 100000 := rfl
        omega
      · exact vp_in_w2 h (by decide) (by decide)
    have hn1 : ¬ 100000 ≤ co → 11 ≤ co → ¬ (100000 ≤ co ∨ co < 11) := fun g1 g2 g3 => by
      rcases g3 with g3 | g3
      · exact g1 g3
      · exact absurd g2 (Int32.not_le.mpr g3)
    have hco1 : ¬ 11 ≤ co → co < 11 := fun g => Int32.not_le.mp g
    refine e_iloadn (pc := 16) dX7_says_16 rfl ?_
    refine e_aloadn (pc := 17) dX7_says_17 rfl ?_
    refine e_get (pc := 18) dX7_says_18 fX7_32 rfl rfl ?_
    refine e_iconst (v := 4) (pc := 21) dX7_says_21 (by decide) ?_
    refine e_aloadn (pc := 22) dX7_says_22 rfl ?_
    refine e_get (pc := 23) dX7_says_23 fX7_83 rfl rfl ?_
    refine e_imul (pc := 26) dX7_says_26 ?_
    refine e_iloadn (pc := 27) dX7_says_27 rfl ?_
    refine e_iadd (pc := 28) dX7_says_28 ?_
    refine e_iconst (v := 1) (pc := 29) dX7_says_29 (by decide) ?_
    refine e_iadd (pc := 30) dX7_says_30 ?_
    refine aldv_starts (pc := 31) dX7_says_31 hiE hxE ?_
    refine e_icmp_ge (pc := 32) dX7_says_32 (t := 197) (by decide) (fun c_32 => absurd c_32 (by exact nI_ge (by omega) (by omega))) (fun _ => ?_)
    refine e_aloadn (pc := 35) dX7_says_35 rfl ?_
    refine e_get (pc := 36) dX7_says_36 fX7_29 rfl rfl ?_
    refine e_sipush (v := 200) (pc := 39) dX7_says_39 (by decide) ?_
    refine e_aloadn (pc := 42) dX7_says_42 rfl ?_
    refine e_get (pc := 43) dX7_says_43 fX7_83 rfl rfl ?_
    refine e_imul (pc := 46) dX7_says_46 ?_
    refine e_iloadn (pc := 47) dX7_says_47 rfl ?_
    refine e_iadd (pc := 48) dX7_says_48 ?_
    refine aldv_codes (pc := 49) dX7_says_49 (hiC k (by omega)) hc ?_
    refine e_isw4 (pc := 50) dX7_says_50 (Nat.le_of_ble_eq_true rfl) rfl ?_
    refine e_iload (pc := 52) dX7_says_52 rfl ?_
    refine e_ldc (pc := 54) dX7_says_54 qX7_135 ?_
    refine e_icmp_ge (pc := 56) dX7_says_56 (t := 66) (by decide) (fun c_56 => ?_) (fun c_56 => ?_)
    · skip
      refine e_aloadn (pc := 66) dX7_says_66 rfl ?_
      refine e_get (pc := 67) dX7_says_67 fX7_56 rfl rfl ?_
      refine e_iloadn (pc := 70) dX7_says_70 rfl ?_
      refine e_iload (pc := 71) dX7_says_71 rfl ?_
      refine e_bipush (v := 11) (pc := 73) dX7_says_73 (by decide) ?_
      refine e_icmp_ge (pc := 75) dX7_says_75 (t := 88) (by decide) (fun c_75 => ?_) (fun c_75 => ?_)
      · skip
        refine e_iload (pc := 88) dX7_says_88 rfl ?_
        refine e_ldc (pc := 90) dX7_says_90 qX7_135 ?_
        refine e_isub (pc := 92) dX7_says_92 ?_
        refine ast_ystack (pc := 93) dX7_says_93 (hiN (by first | exact Or.inl c_56 | exact Or.inr (hco1 c_63))) ?_
        refine e_incC2 (pc := 94) dX7_says_94 (nI_1 N) (Nat.le_of_ble_eq_true rfl) rfl ?_
        refine e_goto (pc := 97) dX7_says_97 (t := 191) (by decide) ?_
        refine e_incC3 (pc := 191) dX7_says_191 (nI_1 k) (Nat.le_of_ble_eq_true rfl) rfl ?_
        refine e_goto (pc := 194) dX7_says_194 (t := 16) (by decide) ?_
        exact PUSH (Or.inl c_56) _ (by rw [if_neg (fun q => absurd c_75 (Int32.not_le.mpr q))])
      · skip
        refine e_aloadn (pc := 78) dX7_says_78 rfl ?_
        refine e_get (pc := 79) dX7_says_79 fX7_59 rfl rfl ?_
        refine e_iload (pc := 82) dX7_says_82 rfl ?_
        refine ald_named (pc := 84) dX7_says_84 (hiM (hco1 c_75)) ?_
        refine e_goto (pc := 85) dX7_says_85 (t := 93) (by decide) ?_
        refine ast_ystack (pc := 93) dX7_says_93 (hiN (by first | exact Or.inl c_56 | exact Or.inr (hco1 c_63))) ?_
        refine e_incC2 (pc := 94) dX7_says_94 (nI_1 N) (Nat.le_of_ble_eq_true rfl) rfl ?_
        refine e_goto (pc := 97) dX7_says_97 (t := 191) (by decide) ?_
        refine e_incC3 (pc := 191) dX7_says_191 (nI_1 k) (Nat.le_of_ble_eq_true rfl) rfl ?_
        refine e_goto (pc := 194) dX7_says_194 (t := 16) (by decide) ?_
        exact PUSH (Or.inl c_56) _ (by rw [if_pos (hco1 c_75), ← h2]; rfl)
    · skip
      refine e_iload (pc := 59) dX7_says_59 rfl ?_
      refine e_bipush (v := 11) (pc := 61) dX7_says_61 (by decide) ?_
      refine e_icmp_ge (pc := 63) dX7_says_63 (t := 100) (by decide) (fun c_63 => ?_) (fun c_63 => ?_)
      · skip
        refine e_iload (pc := 100) dX7_says_100 rfl ?_
        refine e_bipush (v := 13) (pc := 102) dX7_says_102 (by decide) ?_
        refine e_icmp_ne (pc := 104) dX7_says_104 (t := 134) (by decide) (fun c_104 => ?_) (fun c_104 => ?_)
        · skip
          refine e_iload (pc := 134) dX7_says_134 rfl ?_
          refine e_bipush (v := 19) (pc := 136) dX7_says_136 (by decide) ?_
          refine e_icmp_ne (pc := 138) dX7_says_138 (t := 161) (by decide) (fun c_138 => ?_) (fun c_138 => ?_)
          · skip
            refine e_incC2 (pc := 161) dX7_says_161 (nI_dec (by have := (BI (hn1 c_56 c_63) c_104 c_138).1; omega)) (Nat.le_of_ble_eq_true rfl) rfl ?_
            refine e_aloadn (pc := 164) dX7_says_164 rfl ?_
            refine e_get (pc := 165) dX7_says_165 fX7_56 rfl rfl ?_
            refine e_iloadn (pc := 168) dX7_says_168 rfl ?_
            refine e_iconst (v := 1) (pc := 169) dX7_says_169 (by decide) ?_
            refine e_isub (pc := 170) dX7_says_170 ?_
            refine e_iload (pc := 171) dX7_says_171 rfl ?_
            refine e_aloadn (pc := 173) dX7_says_173 rfl ?_
            refine e_get (pc := 174) dX7_says_174 fX7_56 rfl rfl ?_
            refine e_iloadn (pc := 177) dX7_says_177 rfl ?_
            refine e_iconst (v := 1) (pc := 178) dX7_says_178 (by decide) ?_
            refine e_isub (pc := 179) dX7_says_179 ?_
            refine ald_ystack (pc := 180) dX7_says_180 (BI (hn1 c_56 c_63) c_104 c_138).2.1 ?_
            refine e_aloadn (pc := 181) dX7_says_181 rfl ?_
            refine e_get (pc := 182) dX7_says_182 fX7_56 rfl rfl ?_
            refine e_iloadn (pc := 185) dX7_says_185 rfl ?_
            refine ald_ystack (pc := 186) dX7_says_186 (BI (hn1 c_56 c_63) c_104 c_138).2.2.1 ?_
            refine e_csD (pc := 187) (sp_y_two) dX7_says_187 kX7_149 rfl rfl (mc_CR_of (Nat.le_of_ble_eq_true rfl) (Nat.le_of_ble_eq_true rfl) (Nat.le_refl _) (Nat.le_refl _)) (Nat.le_of_ble_eq_true rfl) ?_
            refine ast_ystack (pc := 190) dX7_says_190 (BI (hn1 c_56 c_63) c_104 c_138).2.1 ?_
            refine e_incC3 (pc := 191) dX7_says_191 (nI_1 k) (Nat.le_of_ble_eq_true rfl) rfl ?_
            refine e_goto (pc := 194) dX7_says_194 (t := 16) (by decide) ?_
            exact (BI (hn1 c_56 c_63) c_104 c_138).2.2.2 _ rfl
          · skip
            refine e_aloadn (pc := 141) dX7_says_141 rfl ?_
            refine e_get (pc := 142) dX7_says_142 fX7_56 rfl rfl ?_
            refine e_iloadn (pc := 145) dX7_says_145 rfl ?_
            refine e_iconst (v := 1) (pc := 146) dX7_says_146 (by decide) ?_
            refine e_isub (pc := 147) dX7_says_147 ?_
            refine e_aloadn (pc := 148) dX7_says_148 rfl ?_
            refine e_get (pc := 149) dX7_says_149 fX7_56 rfl rfl ?_
            refine e_iloadn (pc := 152) dX7_says_152 rfl ?_
            refine e_iconst (v := 1) (pc := 153) dX7_says_153 (by decide) ?_
            refine e_isub (pc := 154) dX7_says_154 ?_
            refine ald_ystack (pc := 155) dX7_says_155 (UN (hn1 c_56 c_63) (Or.inr (c_138))).2.1 ?_
            refine e_ineg (pc := 156) dX7_says_156 ?_
            refine ast_ystack (pc := 157) dX7_says_157 (UN (hn1 c_56 c_63) (Or.inr (c_138))).2.1 ?_
            refine e_goto (pc := 158) dX7_says_158 (t := 191) (by decide) ?_
            refine e_incC3 (pc := 191) dX7_says_191 (nI_1 k) (Nat.le_of_ble_eq_true rfl) rfl ?_
            refine e_goto (pc := 194) dX7_says_194 (t := 16) (by decide) ?_
            exact (UN (hn1 c_56 c_63) (Or.inr c_138)).2.2 _ (by rw [if_neg c_104])
        · skip
          refine e_aloadn (pc := 107) dX7_says_107 rfl ?_
          refine e_get (pc := 108) dX7_says_108 fX7_56 rfl rfl ?_
          refine e_iloadn (pc := 111) dX7_says_111 rfl ?_
          refine e_iconst (v := 1) (pc := 112) dX7_says_112 (by decide) ?_
          refine e_isub (pc := 113) dX7_says_113 ?_
          refine e_aloadn (pc := 114) dX7_says_114 rfl ?_
          refine e_get (pc := 115) dX7_says_115 fX7_56 rfl rfl ?_
          refine e_iloadn (pc := 118) dX7_says_118 rfl ?_
          refine e_iconst (v := 1) (pc := 119) dX7_says_119 (by decide) ?_
          refine e_isub (pc := 120) dX7_says_120 ?_
          refine ald_ystack (pc := 121) dX7_says_121 (UN (hn1 c_56 c_63) (Or.inl (c_104))).2.1 ?_
          refine e_if_ne (pc := 122) dX7_says_122 (t := 129) (by decide) (fun c_122 => ?_) (fun c_122 => ?_)
          · skip
            refine e_iconst (v := 0) (pc := 129) dX7_says_129 (by decide) ?_
            refine ast_ystack (pc := 130) dX7_says_130 (UN (hn1 c_56 c_63) (Or.inl (c_104))).2.1 ?_
            refine e_goto (pc := 131) dX7_says_131 (t := 191) (by decide) ?_
            refine e_incC3 (pc := 191) dX7_says_191 (nI_1 k) (Nat.le_of_ble_eq_true rfl) rfl ?_
            refine e_goto (pc := 194) dX7_says_194 (t := 16) (by decide) ?_
            exact (UN (hn1 c_56 c_63) (Or.inl c_104)).2.2 _ (by rw [if_pos c_104, if_neg c_122])
          · skip
            refine e_iconst (v := 1) (pc := 125) dX7_says_125 (by decide) ?_
            refine e_goto (pc := 126) dX7_says_126 (t := 130) (by decide) ?_
            refine ast_ystack (pc := 130) dX7_says_130 (UN (hn1 c_56 c_63) (Or.inl (c_104))).2.1 ?_
            refine e_goto (pc := 131) dX7_says_131 (t := 191) (by decide) ?_
            refine e_incC3 (pc := 191) dX7_says_191 (nI_1 k) (Nat.le_of_ble_eq_true rfl) rfl ?_
            refine e_goto (pc := 194) dX7_says_194 (t := 16) (by decide) ?_
            exact (UN (hn1 c_56 c_63) (Or.inl c_104)).2.2 _ (by rw [if_pos c_104, if_pos c_122])
      · skip
        refine e_aloadn (pc := 66) dX7_says_66 rfl ?_
        refine e_get (pc := 67) dX7_says_67 fX7_56 rfl rfl ?_
        refine e_iloadn (pc := 70) dX7_says_70 rfl ?_
        refine e_iload (pc := 71) dX7_says_71 rfl ?_
        refine e_bipush (v := 11) (pc := 73) dX7_says_73 (by decide) ?_
        refine e_icmp_ge (pc := 75) dX7_says_75 (t := 88) (by decide) (fun c_75 => ?_) (fun c_75 => ?_)
        · skip
          refine e_iload (pc := 88) dX7_says_88 rfl ?_
          refine e_ldc (pc := 90) dX7_says_90 qX7_135 ?_
          refine e_isub (pc := 92) dX7_says_92 ?_
          refine ast_ystack (pc := 93) dX7_says_93 (hiN (by first | exact Or.inl c_56 | exact Or.inr (hco1 c_63))) ?_
          refine e_incC2 (pc := 94) dX7_says_94 (nI_1 N) (Nat.le_of_ble_eq_true rfl) rfl ?_
          refine e_goto (pc := 97) dX7_says_97 (t := 191) (by decide) ?_
          refine e_incC3 (pc := 191) dX7_says_191 (nI_1 k) (Nat.le_of_ble_eq_true rfl) rfl ?_
          refine e_goto (pc := 194) dX7_says_194 (t := 16) (by decide) ?_
          exact PUSH (Or.inr (hco1 c_63)) _ (by rw [if_neg (fun q => absurd c_75 (Int32.not_le.mpr q))])
        · skip
          refine e_aloadn (pc := 78) dX7_says_78 rfl ?_
          refine e_get (pc := 79) dX7_says_79 fX7_59 rfl rfl ?_
          refine e_iload (pc := 82) dX7_says_82 rfl ?_
          refine ald_named (pc := 84) dX7_says_84 (hiM (hco1 c_75)) ?_
          refine e_goto (pc := 85) dX7_says_85 (t := 93) (by decide) ?_
          refine ast_ystack (pc := 93) dX7_says_93 (hiN (by first | exact Or.inl c_56 | exact Or.inr (hco1 c_63))) ?_
          refine e_incC2 (pc := 94) dX7_says_94 (nI_1 N) (Nat.le_of_ble_eq_true rfl) rfl ?_
          refine e_goto (pc := 97) dX7_says_97 (t := 191) (by decide) ?_
          refine e_incC3 (pc := 191) dX7_says_191 (nI_1 k) (Nat.le_of_ble_eq_true rfl) rfl ?_
          refine e_goto (pc := 194) dX7_says_194 (t := 16) (by decide) ?_
          exact PUSH (Or.inr (hco1 c_63)) _ (by rw [if_pos (hco1 c_75), ← h2]; rfl)
