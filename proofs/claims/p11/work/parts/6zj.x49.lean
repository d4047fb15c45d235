/-! ===== apart, slip, reads, feed ===== -/
theorem off_eq {M : Int32 → Int32} {mo v : Int32} (hv : 0 ≤ v.toInt ∧ v.toInt ≤ 999) (hm : 0 ≤ mo.toInt ∧ mo.toInt ≤ 999) (h1 : 0 ≤ (M v).toInt ∧ (M v).toInt < 131072) (h2 : 0 ≤ (M (v + mo)).toInt ∧ (M (v + mo)).toInt < 131072) :
    yy_far ((M v).toInt64 + (M (v + mo)).toInt64) (2 * v.toInt64 + mo.toInt64) = (xoI M mo v).toInt64 := by
  have e1 : ((M v).toInt64 + (M (v + mo)).toInt64).toInt = (M v).toInt + (M (v + mo)).toInt := by
    rw [Int64.toInt_add, Int32.toInt_toInt64, Int32.toInt_toInt64, Int.bmod_eq_of_le] <;> omega
  have e2 : (2 * v.toInt64).toInt = 2 * v.toInt := by
    rw [Int64.toInt_mul, Int32.toInt_toInt64, show (2 : Int64).toInt = 2 from rfl, Int.bmod_eq_of_le] <;> omega
  have e3 : (2 * v.toInt64 + mo.toInt64).toInt = 2 * v.toInt + mo.toInt := by
    rw [Int64.toInt_add, e2, Int32.toInt_toInt64, Int.bmod_eq_of_le] <;> omega
  have e4 : (M v + M (v + mo)).toInt = (M v).toInt + (M (v + mo)).toInt := i32_add (by omega) (by omega)
  have e5 : (v + mo).toInt = v.toInt + mo.toInt := i32_add (by omega) (by omega)
  have e6 : (v + (v + mo)).toInt = 2 * v.toInt + mo.toInt := by rw [i32_add (by omega) (by omega), e5]; omega
  have e7 : (M v + M (v + mo) - (v + (v + mo))).toInt = (M v).toInt + (M (v + mo)).toInt - (2 * v.toInt + mo.toInt) := by rw [i32_sub (by omega) (by omega), e4, e6]
  unfold yy_far xoI
  generalize M v + M (v + mo) - (v + (v + mo)) = D at e7
  refine Int64.toInt_inj.mp ?_
  rw [Int32.toInt_toInt64]
  by_cases c : 2 * v.toInt64 + mo.toInt64 < (M v).toInt64 + (M (v + mo)).toInt64
  · rw [if_pos c]
    rw [Int64.lt_iff_toInt_lt, e1, e3] at c
    rw [if_pos (by rw [Int32.le_iff_toInt_le, i0, e7]; omega), e7, Int64.toInt_sub, e1, e3, Int.bmod_eq_of_le] <;> omega
  · rw [if_neg c]
    rw [Int64.lt_iff_toInt_lt, e1, e3] at c
    rw [Int64.toInt_sub, e1, e3, Int.bmod_eq_of_le (by omega) (by omega)]
    by_cases d : 0 ≤ D
    · rw [if_pos d]
      rw [Int32.le_iff_toInt_le, i0, e7] at d
      omega
    · rw [if_neg d, Int32.toInt_neg, e7, Int.bmod_eq_of_le] <;> omega
theorem l64_0 {x : Int32} : x.toInt64 = 0 ↔ x = 0 := by
  rw [← Int64.toInt_inj, ← Int32.toInt_inj, Int32.toInt_toInt64]; rfl
theorem eq_apl {s : Nat → Int32} {a : Nat → List Int32} {t3 t4 t5 : List Int32} {k mo w : Int32} (hm : 0 ≤ mo.toInt ∧ mo.toInt ≤ 999) (hk : 0 ≤ (gt (a 1) k).toInt ∧ (gt (a 1) k).toInt ≤ 9) :
    ∀ f v, v + f = 1000 → yapl (Ms s) (Bs s a t3 t4 t5) k mo w f v = xapl (xmk s a (yseg (Bs s a t3 t4 t5) (tl s)) k) mo w f v := by
  intro f
  induction f with
  | zero => intro v hv; rfl
  | succ f ih =>
    intro v hv
    have tv := nI_toInt (n := v) (by omega)
    have e5 : (nI v + mo).toInt = v + mo.toInt := by rw [i32_add (by omega) (by omega), tv]
    have h1 := hmk_in (K := gt (a 0) k) (nu := k) (ba := s 0) (ye := s 1) (sg := yseg (Bs s a t3 t4 t5) (tl s)) (v := nI v) hk (by omega)
    have h2 := hmk_in (K := gt (a 0) k) (nu := k) (ba := s 0) (ye := s 1) (sg := yseg (Bs s a t3 t4 t5) (tl s)) (v := nI v + mo) hk (by omega)
    have e : yoff (Ms s) (Bs s a t3 t4 t5) k mo (nI v) = (xoI (xmk s a (yseg (Bs s a t3 t4 t5) (tl s)) k) mo (nI v)).toInt64 := by
      unfold yoff yadd
      rw [eq_mk, eq_mk]
      exact off_eq (by omega) hm h1 h2
    simp only [yapl, xapl]
    rw [e, ih (v + 1) (by omega), Int32.toInt32_toInt64]
    by_cases c : xoI (xmk s a (yseg (Bs s a t3 t4 t5) (tl s)) k) mo (nI v) = 0
    · rw [if_pos (l64_0.mpr c), if_pos c]
    · rw [if_neg (fun q => c (l64_0.mp q)), if_neg c]
theorem eq_apart {s : Nat → Int32} {a : Nat → List Int32} {t3 t4 t5 : List Int32} {k mo w : Int32} (hC : yC s) (hm : ∀ i, i < 5 → 0 ≤ ((a 1).getD i 0).toInt ∧ ((a 1).getD i 0).toInt ≤ 9) :
    yap (Ms s) (Bs s a t3 t4 t5) k mo w = xap s a (yseg (Bs s a t3 t4 t5) (tl s)) k mo w := by
  unfold yap xap
  show (if mc_wi k 0 (s 2 - 1) = false then (-5 : Int32) else if (mc_wi mo 0 999 && mc_wi w 0 1) = false then -7 else yapl (Ms s) (Bs s a t3 t4 t5) k mo w 1000 0) = _
  by_cases h1 : mc_wi k 0 (s 2 - 1) = false
  · rw [if_pos h1, if_pos h1]
  · rw [if_neg h1, if_neg h1]
    by_cases h2 : (mc_wi mo 0 999 && mc_wi w 0 1) = false
    · rw [if_pos h2, if_pos h2]
    · rw [if_neg h2, if_neg h2]
      rw [Bool.not_eq_false] at h1
      rw [Bool.not_eq_false, Bool.and_eq_true] at h2
      have m := mc_wi_iff.mp h2.1
      rw [i0, show (999 : Int32).toInt = 999 from rfl] at m
      exact eq_apl m (more_in hC hm h1) 1000 0 (by omega)
/-! slip -/
theorem yrs_in {g f : Int32} {v : Int64} (hg : 0 ≤ g.toInt ∧ g.toInt ≤ 100) (hf : 0 ≤ f.toInt ∧ f.toInt ≤ 1000) (hv : 0 ≤ v.toInt ∧ v.toInt ≤ 999999999999) : 0 ≤ (yrs g v f).toInt ∧ (yrs g v f).toInt ≤ 999999999999 := by
  have b : 0 ≤ v.toInt * g.toInt ∧ v.toInt * g.toInt ≤ 99999999999900 := by
    refine ⟨Int.mul_nonneg hv.1 hg.1, ?_⟩
    have := Int.mul_le_mul hv.2 hg.2 hg.1 (by decide)
    omega
  have e1 : (v * g.toInt64).toInt = v.toInt * g.toInt := by
    rw [Int64.toInt_mul, Int32.toInt_toInt64, Int.bmod_eq_of_le] <;> omega
  have e2 : (v * g.toInt64 + f.toInt64).toInt = v.toInt * g.toInt + f.toInt := by
    rw [Int64.toInt_add, e1, Int32.toInt_toInt64, Int.bmod_eq_of_le] <;> omega
  unfold yrs
  by_cases c : (999999999999 : Int64) < v * g.toInt64 + f.toInt64
  · rw [if_pos c]; decide
  · rw [if_neg c]
    rw [Int64.lt_iff_toInt_lt, e2, show (999999999999 : Int64).toInt = 999999999999 from rfl] at c
    rw [e2]; omega
theorem yrd_in {g : Int32} (hg : 0 ≤ g.toInt ∧ g.toInt ≤ 100) {ds : List Int32} (hd : ∀ x, x ∈ ds → 0 ≤ x.toInt ∧ x.toInt ≤ 1000) : 0 ≤ (yrd g ds).toInt ∧ (yrd g ds).toInt ≤ 999999999999 := by
  unfold yrd
  have : ∀ (l : List Int32) (v : Int64), (∀ x, x ∈ l → 0 ≤ x.toInt ∧ x.toInt ≤ 1000) → (0 ≤ v.toInt ∧ v.toInt ≤ 999999999999) → 0 ≤ (l.foldl (yrs g) v).toInt ∧ (l.foldl (yrs g) v).toInt ≤ 999999999999 := by
    intro l
    induction l with
    | nil => intro v _ h; exact h
    | cons x r ih =>
      intro v h1 h2
      rw [List.foldl_cons]
      exact ih _ (fun y hy => h1 y (List.mem_cons_of_mem _ hy)) (yrs_in hg (h1 x List.mem_cons_self) h2)
  exact this ds 0 hd (by decide)
theorem ydg_ge (g : Nat) : ∀ f l d, d ∈ ydg g f l → 1 ≤ d := by
  intro f
  induction f with
  | zero => intro l d h; cases h
  | succ f ih =>
    intro l d h
    simp only [ydg] at h
    by_cases l0 : l = 0
    · rw [if_pos l0] at h; cases h
    · rw [if_neg l0, List.mem_cons] at h
      rcases h with h | h
      · omega
      · exact ih _ d h
theorem hwr_in {K mo nu ba ye : Int32} {sg : Nat → List Int32} {v x : Int32} (hm : 0 ≤ mo.toInt ∧ mo.toInt ≤ 9) (hb : 2 ≤ ba.toInt ∧ ba.toInt ≤ 12) (h : x ∈ hwr K mo nu ba ye sg v) : 1 ≤ x.toInt ∧ x.toInt ≤ 12 := by
  have f12 := hfg_in (K := K) hm hb
  have le := hwr_mem h
  rw [Int32.le_iff_toInt_le] at le
  have h2 : x ∈ hfull K mo nu ba ye sg v := by
    unfold hwr at h
    split at h
    · exact h
    · exact List.mem_reverse.mp h
  unfold hfull at h2
  obtain ⟨d, hd, e⟩ := List.mem_map.mp h2
  have g2 := fg_2 K mo ba
  have t := tnc (x := yy_fg K mo ba) (by omega)
  have le2 := ydg_le _ (by omega) _ _ d hd
  have ge := ydg_ge _ _ _ d hd
  have td := nI_toInt (n := d) (by omega)
  rw [e] at td
  omega
theorem self_in {K mo ba : Int32} {xs : List Int32} (hm : 0 ≤ mo.toInt ∧ mo.toInt ≤ 9) (hb : 2 ≤ ba.toInt ∧ ba.toInt ≤ 12) (h : ∀ x, x ∈ xs → 0 ≤ x.toInt ∧ x.toInt ≤ 1000) : 0 ≤ (xself K mo ba xs).toInt ∧ (xself K mo ba xs).toInt ≤ 999999999999 := by
  have f12 := hfg_in (K := K) hm hb
  unfold xself
  refine yrd_in (by omega) (fun x hx => ?_)
  split at hx
  · exact h x (List.mem_reverse.mp hx)
  · exact h x hx
theorem ymost_cg {f g : Nat → Int64} : ∀ n i be le, (∀ j, i ≤ j → j < i + n → f j = g j) → ymost f n i be le = ymost g n i be le := by
  intro n
  induction n with
  | zero => intro i be le h; rfl
  | succ n ih =>
    intro i be le h
    simp only [ymost]
    rw [h i (Nat.le_refl _) (by omega), ih _ _ _ (fun j h1 h2 => h j (by omega) (by omega)), ih _ _ _ (fun j h1 h2 => h j (by omega) (by omega))]
theorem eq_slip {s : Nat → Int32} {a : Nat → List Int32} {t3 t4 t5 : List Int32} {k v w : Int32} (hC : yC s) (hb : 2 ≤ (s 0).toInt ∧ (s 0).toInt ≤ 12) (hm : ∀ i, i < 5 → 0 ≤ ((a 1).getD i 0).toInt ∧ ((a 1).getD i 0).toInt ≤ 9) :
    yslip (Ms s) (Bs s a t3 t4 t5) k v w = xslip s a (yseg (Bs s a t3 t4 t5) (tl s)) k v w := by
  unfold yslip xslip
  rw [eq_wr]
  by_cases h1 : mc_wi k 0 (s 2 - 1) = false
  · rw [if_pos (show mc_wi k 0 (Ms s 2 - 1) = false from h1), if_pos h1]
  · rw [if_neg (show ¬ mc_wi k 0 (Ms s 2 - 1) = false from h1), if_neg h1]
    rw [Bool.not_eq_false] at h1
    have hmk := more_in hC hm h1
    have e : ∀ i, i < (xwr s a (yseg (Bs s a t3 t4 t5) (tl s)) k v).length → yslo (Ms s) (Bs s a t3 t4 t5) k (xwr s a (yseg (Bs s a t3 t4 t5) (tl s)) k v) i = xslo (gt (a 0) k) (gt (a 1) k) (s 0) (xwr s a (yseg (Bs s a t3 t4 t5) (tl s)) k v) i := by
      intro i hi
      have hin : ∀ x, x ∈ xwr s a (yseg (Bs s a t3 t4 t5) (tl s)) k v → 1 ≤ x.toInt ∧ x.toInt ≤ 12 := fun x hx => hwr_in hmk hb hx
      have dg : (xwr s a (yseg (Bs s a t3 t4 t5) (tl s)) k v).getD i 0 ≤ yy_fg (gt (a 0) k) (gt (a 1) k) (s 0) := hwr_dg (K := gt (a 0) k) (mo := gt (a 1) k) (nu := k) (ba := s 0) (ye := s 1) (sg := yseg (Bs s a t3 t4 t5) (tl s)) (v := v) i hi
      unfold yslo xslo
      rw [eq_self, eq_self, show yfg (Ms s) (Bs s a t3 t4 t5) k = yy_fg (gt (a 0) k) (gt (a 1) k) (s 0) from rfl, ← xsd_eq dg]
      have gi : (xwr s a (yseg (Bs s a t3 t4 t5) (tl s)) k v).getD i 0 ∈ xwr s a (yseg (Bs s a t3 t4 t5) (tl s)) k v := by
        rw [List.getD_eq_getElem?_getD, List.getElem?_eq_getElem hi]; exact List.getElem_mem hi
      have di := hin _ gi
      generalize xwr s a (yseg (Bs s a t3 t4 t5) (tl s)) k v = xs at hi hin di
      have ds : 0 ≤ (xsd (yy_fg (gt (a 0) k) (gt (a 1) k) (s 0)) (xs.getD i 0)).toInt ∧ (xsd (yy_fg (gt (a 0) k) (gt (a 1) k) (s 0)) (xs.getD i 0)).toInt ≤ 1000 := by
        unfold xsd
        split
        · rw [i32_add (by omega) (by decide), i1]; omega
        · rw [i32_sub (by omega) (by decide), i1]; omega
      have b1 := self_in (K := gt (a 0) k) (xs := xs.set i (xsd (yy_fg (gt (a 0) k) (gt (a 1) k) (s 0)) (xs.getD i 0))) hmk hb (fun x hx => by
        rcases List.mem_or_eq_of_mem_set hx with hx | hx
        · have := hin x hx; omega
        · rw [hx]; exact ds)
      have b2 := self_in (K := gt (a 0) k) (xs := xs) hmk hb (fun x hx => by have := hin x hx; omega)
      rw [far_eq (by omega) (by omega)]
    have e2 := ymost_cg (f := yslo (Ms s) (Bs s a t3 t4 t5) k (xwr s a (yseg (Bs s a t3 t4 t5) (tl s)) k v)) (g := xslo (gt (a 0) k) (gt (a 1) k) (s 0) (xwr s a (yseg (Bs s a t3 t4 t5) (tl s)) k v)) (xwr s a (yseg (Bs s a t3 t4 t5) (tl s)) k v).length 0 (-1) 0 (fun j _ h2 => e j (by omega))
    rw [e2]
/-! reads -/
theorem eq_reads {s : Nat → Int32} {a : Nat → List Int32} {t3 t4 t5 : List Int32} {w v : Int32} : yreads (Ms s) (Bs s a t3 t4 t5) w v = xreads s a (yseg (Bs s a t3 t4 t5) (tl s)) w v := by
  unfold yreads xreads
  by_cases h : 0 ≤ w
  · rw [show yrdr w = w / 100 from if_pos h, show ywrt w = w - w / 100 * 100 from if_pos h]
    rfl
  · rw [show yrdr w = -1 from if_neg h, show ywrt w = -1 from if_neg h]
    have e1 : mc_wi (-1) 0 (Ms s 2 - 1) = false := mc_wi_iffF.mpr (Or.inl (by decide))
    have e2 : (mc_wi (w / 100) 0 (s 2 - 1) && mc_wi (w - w / 100 * 100) 0 (s 2 - 1)) = false := by
      rw [← Bool.not_eq_true, Bool.and_eq_true, mc_wi_iff, mc_wi_iff, i0]
      rintro ⟨q1, q2⟩
      have := rem_neg (Int32.not_le.mp h) (Or.inr rfl) q1.1
      omega
    rw [if_pos (by rw [e1]; rfl), if_pos e2]
/-! feed -/
theorem agree_set {l r : List Int32} {N : Nat} {x : Int32} (h : ∀ i, i < N → l.getD i 0 = r.getD i 0) (hl : N < l.length) (hr : N < r.length) : ∀ i, i < N + 1 → (l.set N x).getD i 0 = (r.set N x).getD i 0 := by
  intro i hi
  rw [gDs hl, gDs hr]
  by_cases e : i = N
  · rw [if_pos e, if_pos e]
  · rw [if_neg e, if_neg e]; exact h i (by omega)
