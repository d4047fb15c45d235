/-! ===== smuggled, kinds: one answer ===== -/
theorem re64 {x y p q : Int64} : x - y + p - q = x - q + p - y := by
  simp only [Int64.sub_eq_add_neg]
  ac_rfl
theorem mk64 {x : Int32} (h : 0 ≤ x.toInt ∧ x.toInt < 131072) : 0 ≤ x.toInt64.toInt ∧ x.toInt64.toInt < 131072 := by
  rw [Int32.toInt_toInt64]; exact h
theorem eq_smug {s : Nat → Int32} {a : Nat → List Int32} {t3 t4 t5 : List Int32} {k : Nat} {j w : Int32} (hk : k < 4) (hL : xL a) (hS : xS s) (hC : yC s) (hm : ∀ i, i < 5 → 0 ≤ ((a 1).getD i 0).toInt ∧ ((a 1).getD i 0).toInt ≤ 9) :
    ysm (Ms s) (Bs s a t3 t4 t5) (nI k) j w = xsm s a (yseg (Bs s a t3 t4 t5) (tl s)) k j w := by
  unfold ysm xsm
  rw [eq_bw hk hL hS]
  refine (bwy_x (s := s) (a := a) (k := k) (j := j) (f := fun x => x.toInt64) (z5 := -5) rfl).trans ?_
  by_cases h : xbwy s a k j = 0
  · rw [if_neg (show ¬ ¬ xbwy s a k j = 0 from fun q => q h), if_neg (show ¬ ¬ xbwy s a k j = 0 from fun q => q h)]
    obtain ⟨hb, hj⟩ := xbwy_0 h
    have hmj := more_in hC hm hj
    have b1 := mS_in (sg := yseg (Bs s a t3 t4 t5) (tl s)) hk hL hS hb hmj
    have b2 := oS_in hk hL hS hb
    have e : ybest (ysmo (Ms s) (Bs s a t3 t4 t5) (nI k) j) (yrow (Bs s a t3 t4 t5) (nI k)).length 0 (-1) (-1) = ybest (xsmo s a (yseg (Bs s a t3 t4 t5) (tl s)) k j) (xrow s a k).length 0 (-1) (-1) := by
      rw [Bs_row hk hL hS]
      refine ybest_cg _ _ _ _ (fun i _ hi => ?_)
      unfold ysmo xsmo
      rw [eq_hb hk hL hS, eq_ob hk hL hS, Bs_row hk hL hS, eq_mk, eq_mk]
      have m0 : 0 ≤ (xmk s a (yseg (Bs s a t3 t4 t5) (tl s)) j 0).toInt64.toInt ∧ (xmk s a (yseg (Bs s a t3 t4 t5) (tl s)) j 0).toInt64.toInt < 131072 := mk64 (hmk_in (K := gt (a 0) j) (nu := j) (ba := s 0) (ye := s 1) (sg := yseg (Bs s a t3 t4 t5) (tl s)) hmj (v := 0) (by decide))
      have mi : 0 ≤ (xmk s a (yseg (Bs s a t3 t4 t5) (tl s)) j ((xrow s a k).getD i 0)).toInt64.toInt ∧ (xmk s a (yseg (Bs s a t3 t4 t5) (tl s)) j ((xrow s a k).getD i 0)).toInt64.toInt < 131072 := mk64 (hmk_in (K := gt (a 0) j) (nu := j) (ba := s 0) (ye := s 1) (sg := yseg (Bs s a t3 t4 t5) (tl s)) hmj (wi_num (xbw_num hb i (by omega))))
      have e1 : (xmS s a (yseg (Bs s a t3 t4 t5) (tl s)) k j - (xmk s a (yseg (Bs s a t3 t4 t5) (tl s)) j ((xrow s a k).getD i 0)).toInt64).toInt = (xmS s a (yseg (Bs s a t3 t4 t5) (tl s)) k j).toInt - (xmk s a (yseg (Bs s a t3 t4 t5) (tl s)) j ((xrow s a k).getD i 0)).toInt64.toInt := by
        rw [Int64.toInt_sub, Int.bmod_eq_of_le] <;> omega
      have e2 : (xmS s a (yseg (Bs s a t3 t4 t5) (tl s)) k j - (xmk s a (yseg (Bs s a t3 t4 t5) (tl s)) j ((xrow s a k).getD i 0)).toInt64 + (xmk s a (yseg (Bs s a t3 t4 t5) (tl s)) j 0).toInt64).toInt = (xmS s a (yseg (Bs s a t3 t4 t5) (tl s)) k j - (xmk s a (yseg (Bs s a t3 t4 t5) (tl s)) j ((xrow s a k).getD i 0)).toInt64).toInt + (xmk s a (yseg (Bs s a t3 t4 t5) (tl s)) j 0).toInt64.toInt := by
        rw [Int64.toInt_add, Int.bmod_eq_of_le] <;> omega
      rw [re64]
      exact (far_eq (by omega) (by omega)).symm
    rw [e]
  · rw [if_pos (show ¬ xbwy s a k j = 0 from h), if_pos (show ¬ xbwy s a k j = 0 from h)]
theorem unl_gen {m : Nat → Int32} {b : Nat → List Int32} {s0 j : Int32} : yunl m b s0 j = xunl (gt (b 0) j) (gt (b 1) j) j (m 0) (m 1) (yseg b (m 5).toNatClampNeg) (yrow b s0) := by
  unfold yunl xunl
  rw [eq_unf]
  rfl
theorem gt_set {l : List Int32} {j x : Int32} (h : vp_in j l.length) : gt (l.set j.toNatClampNeg x) j = x := by
  unfold gt
  rw [gD_set (vp_clt h), if_pos rfl]
theorem set_same {l : List Int32} {j : Int32} : l.set j.toNatClampNeg (gt l j) = l := by
  refine li_ext (by rw [List.length_set]) (fun i hi => ?_)
  rw [List.length_set] at hi
  by_cases hj : j.toNatClampNeg < l.length
  · rw [gD_set hj]
    by_cases e : i = j.toNatClampNeg
    · rw [if_pos e, e]; rfl
    · rw [if_neg e]
  · rw [List.set_eq_of_length_le (by omega)]
theorem eq_kinds {s : Nat → Int32} {a : Nat → List Int32} {t3 t4 t5 : List Int32} {k : Nat} {j so : Int32} (hk : k < 4) (hL : xL a) (hS : xS s) (hC : yC s) : ykinds (Ms s) (Bs s a t3 t4 t5) (nI k) j so = xkinds s a (yseg (Bs s a t3 t4 t5) (tl s)) k j so := by
  unfold ykinds xkinds
  rw [eq_tw hk hL hS]
  by_cases h : xtw s a k j = 0
  · rw [if_neg (show ¬ ¬ xtw s a k j = 0 from fun q => q h), if_neg (show ¬ ¬ xtw s a k j = 0 from fun q => q h)]
    have hj := (xtw_0 h).2
    have v0 := vp_ck hL.1 hj hC.1 hC.2
    have v1 := vp_ck hL.2.1 hj hC.1 hC.2
    have R := Bs_row (t3 := t3) (t4 := t4) (t5 := t5) hk hL hS
    by_cases w0 : so = 0
    · subst w0
      rw [if_neg (show ¬ mc_wi 0 0 2 = false by decide), if_pos rfl, if_pos rfl, if_neg (show ¬ (0 : Int32) = 2 by decide)]
      refine ybits_cg _ _ _ (fun i _ _ => ?_)
      unfold xk0
      rw [unl_gen, ← R]
      have g0 : gt (ykB (Bs s a t3 t4 t5) j 0 (nI i) 0) j = nI i := gt_set (l := a 0) v0
      have g1 : gt (ykB (Bs s a t3 t4 t5) j 0 (nI i) 1) j = gt (a 1) j := gt_set (l := a 1) v1
      rw [g0, g1]
      rfl
    · by_cases w1 : so = 1
      · subst w1
        rw [if_neg (show ¬ mc_wi 1 0 2 = false by decide), if_neg w0, if_pos rfl, if_neg w0, if_pos rfl, if_neg (show ¬ (1 : Int32) = 2 by decide)]
        refine ybits_cg _ _ _ (fun i _ _ => ?_)
        unfold xk1
        rw [unl_gen, ← R]
        have g0 : gt (ykB (Bs s a t3 t4 t5) j 1 (nI i) 0) j = gt (a 0) j := gt_set (l := a 0) v0
        have g1 : gt (ykB (Bs s a t3 t4 t5) j 1 (nI i) 1) j = nI i := gt_set (l := a 1) v1
        rw [g0, g1]
        rfl
      · by_cases w2 : so = 2
        · subst w2
          rw [if_neg (show ¬ mc_wi 2 0 2 = false by decide), if_neg w0, if_neg w1, if_pos rfl, if_neg w0, if_neg w1, if_pos rfl]
          refine ybits_cg _ _ _ (fun i _ _ => ?_)
          unfold xk2
          rw [unl_gen, ← R]
          have g0 : gt (ykB (Bs s a t3 t4 t5) j 2 (nI i) 0) j = gt (a 0) j := gt_set (l := a 0) v0
          have g1 : gt (ykB (Bs s a t3 t4 t5) j 2 (nI i) 1) j = gt (a 1) j := gt_set (l := a 1) v1
          rw [g0, g1]
          rfl
        · have hw : mc_wi so 0 2 = false := by
            rw [← Bool.not_eq_true, mc_wi_iff, i0, show (2 : Int32).toInt = 2 from rfl]
            intro q
            have n : ∀ v : Int32, ¬ so = v → ¬ so.toInt = v.toInt := fun v g e => g (Int32.toInt_inj.mp e)
            have n0 := n 0 w0
            have n1 := n 1 w1
            have n2 := n 2 w2
            rw [i0] at n0
            rw [i1] at n1
            rw [show (2 : Int32).toInt = 2 from rfl] at n2
            omega
          rw [if_pos hw, if_neg w0, if_neg w1, if_neg w2]
  · rw [if_pos (show ¬ xtw s a k j = 0 from h), if_pos (show ¬ xtw s a k j = 0 from h)]
