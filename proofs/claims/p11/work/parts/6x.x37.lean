/-! ===== answers that are the same ===== -/
theorem eq_mk {s : Nat → Int32} {a : Nat → List Int32} {t3 t4 t5 : List Int32} {k v : Int32} : ymk (Ms s) (Bs s a t3 t4 t5) k v = xmk s a (yseg (Bs s a t3 t4 t5) (tl s)) k v := rfl
theorem eq_wr {s : Nat → Int32} {a : Nat → List Int32} {t3 t4 t5 : List Int32} {k v : Int32} : ywr (Ms s) (Bs s a t3 t4 t5) k v = xwr s a (yseg (Bs s a t3 t4 t5) (tl s)) k v := rfl
theorem eq_pl {s : Nat → Int32} {a : Nat → List Int32} {t3 t4 t5 : List Int32} {k v : Int32} : ypl (Ms s) (Bs s a t3 t4 t5) k v = xplv (gt (a 0) k) (gt (a 1) k) k (s 0) (s 1) (yseg (Bs s a t3 t4 t5) (tl s)) v := rfl
theorem eq_self {s : Nat → Int32} {a : Nat → List Int32} {t3 t4 t5 : List Int32} {k : Int32} {xs : List Int32} : yself (Ms s) (Bs s a t3 t4 t5) k xs = xself (gt (a 0) k) (gt (a 1) k) (s 0) xs := rfl
theorem eq_sure {s : Nat → Int32} {a : Nat → List Int32} {t3 t4 t5 : List Int32} {k v : Int32} : ysure (Ms s) (Bs s a t3 t4 t5) k v = xsure s a (yseg (Bs s a t3 t4 t5) (tl s)) k v := rfl
theorem eq_hb {s : Nat → Int32} {a : Nat → List Int32} {t3 t4 t5 : List Int32} {k : Nat} (hk : k < 4) (hL : xL a) (hS : xS s) {j : Int32} : yhb (Ms s) (Bs s a t3 t4 t5) (nI k) j = xmS s a (yseg (Bs s a t3 t4 t5) (tl s)) k j := by
  unfold yhb xmS; rw [Bs_row hk hL hS]; rfl
theorem eq_ob {s : Nat → Int32} {a : Nat → List Int32} {t3 t4 t5 : List Int32} {k : Nat} (hk : k < 4) (hL : xL a) (hS : xS s) : yob (Bs s a t3 t4 t5) (nI k) = xoS s a k := by
  unfold yob xoS; rw [Bs_row hk hL hS]
theorem eq_sw {s : Nat → Int32} {a : Nat → List Int32} {t3 t4 t5 : List Int32} {k : Nat} (hk : k < 4) (hL : xL a) (hS : xS s) : ysw (Bs s a t3 t4 t5) (nI k) = xsw s a k := by
  unfold ysw xsw
  rw [if_neg (by rw [wi_nk hk]; decide), (Bs_so hk).1, Bs_row hk hL hS]
  by_cases h : s (11 + 2 * k) = -1
  · rw [if_pos h, if_pos (show xmis s k = true by unfold xmis; rw [beq_iff_eq]; exact h)]
  · rw [if_neg h, if_neg (show ¬ xmis s k = true by unfold xmis; rw [beq_iff_eq]; exact h)]
    by_cases e : yevn (xrow s a k) 21 0 = true
    · rw [if_pos e]
      by_cases l : (xrow s a k).length % 2 = 0
      · rw [if_pos l, if_neg (fun q => q l), if_pos e]
      · rw [if_neg l, if_pos l]
    · rw [if_neg e]
      by_cases l : (xrow s a k).length % 2 = 0
      · rw [if_neg (fun q => q l), if_neg e]
      · rw [if_pos l]
theorem eq_tw {s : Nat → Int32} {a : Nat → List Int32} {t3 t4 t5 : List Int32} {k : Nat} (hk : k < 4) (hL : xL a) (hS : xS s) {j : Int32} : ytw (Ms s) (Bs s a t3 t4 t5) (nI k) j = xtw s a k j := by
  unfold ytw xtw; rw [eq_sw hk hL hS]; rfl
theorem eq_bwy {s : Nat → Int32} {a : Nat → List Int32} {t3 t4 t5 : List Int32} {k : Nat} (hk : k < 4) (hL : xL a) (hS : xS s) {j : Int32} : (if ¬ ybw (Bs s a t3 t4 t5) (nI k) = 0 then ybw (Bs s a t3 t4 t5) (nI k) else if mc_wi j 0 (Ms s 2 - 1) = true then 0 else -5) = xbwy s a k j := by
  rw [eq_bw hk hL hS]; rfl
theorem eq_unf {m : Nat → Int32} {b : Nat → List Int32} {j : Int32} {row : List Int32} : ∀ f i, yunf m b j row f i = xunf (ypl m b j) row f i := by
  intro f
  induction f with
  | zero => intro i; rfl
  | succ f ih => intro i; simp only [yunf, xunf]; rw [ih]
theorem eq_unl {s : Nat → Int32} {a : Nat → List Int32} {t3 t4 t5 : List Int32} {k : Nat} (hk : k < 4) (hL : xL a) (hS : xS s) {j : Int32} : yunl (Ms s) (Bs s a t3 t4 t5) (nI k) j = xunl (gt (a 0) j) (gt (a 1) j) j (s 0) (s 1) (yseg (Bs s a t3 t4 t5) (tl s)) (xrow s a k) := by
  unfold yunl xunl
  rw [Bs_row hk hL hS, eq_unf]
  rfl
theorem eq_judge {s : Nat → Int32} {a : Nat → List Int32} {t3 t4 t5 : List Int32} {k : Nat} (hk : k < 4) (hL : xL a) (hS : xS s) {j : Int32} : yjudge (Ms s) (Bs s a t3 t4 t5) (nI k) j = xjudge s a (yseg (Bs s a t3 t4 t5) (tl s)) k j := by
  unfold yjudge xjudge
  rw [eq_tw hk hL hS, eq_unl hk hL hS]
  by_cases h : xtw s a k j = 0
  · rw [if_pos h, if_neg (fun q => q h)]
  · rw [if_neg h, if_pos h]
theorem ybits_cg {f g : Nat → Int32} : ∀ n i acc, (∀ j, i ≤ j → j < i + n → f j = g j) → ybits f n i acc = ybits g n i acc := by
  intro n
  induction n with
  | zero => intro i acc h; rfl
  | succ n ih =>
    intro i acc h
    rw [ybits_s, ybits_s, h i (Nat.le_refl _) (by omega)]
    exact ih _ _ (fun j h1 h2 => h j (by omega) (by omega))
theorem eq_whose {s : Nat → Int32} {a : Nat → List Int32} {t3 t4 t5 : List Int32} {k : Nat} (hk : k < 4) (hL : xL a) (hS : xS s) : ywhose (Ms s) (Bs s a t3 t4 t5) (nI k) = xwhose s a (yseg (Bs s a t3 t4 t5) (tl s)) k := by
  unfold ywhose xwhose
  rw [eq_sw hk hL hS]
  by_cases h : xsw s a k = 0
  · rw [if_neg (fun q => q h), if_neg (fun q => q h)]
    exact ybits_cg _ _ _ (fun j _ _ => eq_unl hk hL hS)
  · rw [if_pos h, if_pos h]
theorem eq_laws {s : Nat → Int32} {a : Nat → List Int32} {t3 t4 t5 : List Int32} {k : Nat} (hk : k < 4) (hL : xL a) (hS : xS s) {T : Nat} {sg : Nat → Nat → List Int32} (hsg : ∀ t, t < T → sg t = yseg (Bs s a t3 t4 t5) t) (h3 : s 3 = nI T) (hT : T ≤ 6) {j : Int32} : ylaws (Ms s) (Bs s a t3 t4 t5) (nI k) j = xlaws s a sg T k j := by
  unfold ylaws xlaws
  rw [eq_tw hk hL hS]
  by_cases h : xtw s a k j = 0
  · rw [if_neg (fun q => q h), if_neg (fun q => q h), show Ms s 4 = nI T from h3, nIc (by omega)]
    refine ybits_cg _ _ _ (fun i _ hi => ?_)
    unfold xlw
    rw [hsg i (by omega)]
    have e := eq_unl (s := mc_up s 4 (nI i)) (a := a) (t3 := t3) (t4 := t4) (t5 := t5) hk hL (fun p hp => by rw [upn (by omega)]; exact hS p hp) (j := j)
    rw [Ms_4, Bs_s (s := s) (fun p hp => upn (by omega)), show tl (mc_up s 4 (nI i)) = i from nIc (by omega)] at e
    rw [e]
    have er : xrow (mc_up s 4 (nI i)) a k = xrow s a k := by unfold xrow; rw [upn (by omega)]
    rw [er]
    rfl
  · rw [if_pos h, if_pos h]
