/-! ===== slips, on both sides ===== -/
/-- figures of base g -/
def xdg (g : Int32) (xs : List Int32) : Prop := ∀ i, i < xs.length → xs.getD i 0 ≤ g
theorem xsd_eq {g f : Int32} (h : f ≤ g) : xsd g f = ysd g f := by
  unfold xsd ysd
  by_cases e : f = g
  · rw [if_pos e, if_neg (by rw [e]; exact Int32.lt_irrefl)]
  · rw [if_neg e, if_pos]
    rw [Int32.lt_iff_toInt_lt]
    rw [Int32.le_iff_toInt_le] at h
    have : ¬ f.toInt = g.toInt := fun q => e (Int32.toInt_inj.mp q)
    omega
theorem set_gD2 {xs : List Int32} {i : Nat} : xs.set i (xs.getD i 0) = xs := by
  refine li_ext (by rw [List.length_set]) (fun j hj => ?_)
  rw [List.length_set] at hj
  by_cases hi : i < xs.length
  · rw [gD_set hi]
    by_cases e : j = i
    · rw [if_pos e, e]
    · rw [if_neg e]
  · rw [List.set_eq_of_length_le (by omega)]
/-- the figures from i on are of base g -/
theorem xsl_eq {m : Nat → Int32} {b : Nat → List Int32} {k x g : Int32} (hg : yfg m b k = g) : ∀ f i lot xs, i + f = xs.length → (∀ j, i ≤ j → j < xs.length → xs.getD j 0 ≤ g) → ysl m b k x f i lot xs = xsl g x f i lot xs := by
  intro f
  induction f with
  | zero => intro i lot xs _ _; rfl
  | succ f ih =>
    intro i lot xs hi hd
    simp only [ysl, xsl]
    rw [set_gD2, hg, ← xsd_eq (hd i (Nat.le_refl _) (by omega))]
    have k1 := ih (i + 1) (lot * 48271 - lot * 48271 / 2147483647 * 2147483647) (xs.set i (xsd g (xs.getD i 0))) (by rw [List.length_set]; omega) (fun j h1 h2 => by
      rw [List.length_set] at h2
      rw [gD_set (by omega), if_neg (by omega)]
      exact hd j (by omega) h2)
    have k2 := ih (i + 1) (lot * 48271 - lot * 48271 / 2147483647 * 2147483647) xs (by omega) (fun j h1 h2 => hd j (by omega) h2)
    rw [k1, k2]
theorem ydg_le (g : Nat) (hg : 1 ≤ g) : ∀ f l d, d ∈ ydg g f l → d ≤ g := by
  intro f
  induction f with
  | zero => intro l d h; cases h
  | succ f ih =>
    intro l d h
    simp only [ydg] at h
    by_cases l0 : l = 0
    · rw [if_pos l0] at h; cases h
    · rw [if_neg l0, List.mem_cons] at h
      rcases h with h | h
      · rw [h]; have := Nat.mod_lt (l - 1) (show g > 0 by omega); omega
      · exact ih _ d h
theorem fg_2 (K mo ba : Int32) : 2 ≤ (yy_fg K mo ba).toInt := by
  unfold yy_fg yy_x2
  generalize (if K = 3 then ba - mo / 3 else if K = 5 then ba - 1 else ba) = y
  by_cases h : y < 2
  · rw [if_pos h]; decide
  · rw [if_neg h]; rw [Int32.lt_iff_toInt_lt, show (2 : Int32).toInt = 2 from rfl] at h; omega
theorem hwr_mem {K mo nu ba ye : Int32} {sg : Nat → List Int32} {v x : Int32} (h : x ∈ hwr K mo nu ba ye sg v) : x ≤ yy_fg K mo ba := by
  have h2 : x ∈ hfull K mo nu ba ye sg v := by
    unfold hwr at h
    split at h
    · exact h
    · exact List.mem_reverse.mp h
  unfold hfull at h2
  obtain ⟨d, hd, e⟩ := List.mem_map.mp h2
  have g2 := fg_2 K mo ba
  have t := tnc (x := yy_fg K mo ba) (by omega)
  have le := ydg_le _ (by omega) _ _ d hd
  have lt := Int32.toInt_lt (yy_fg K mo ba)
  rw [← e]
  have q := nI_le (a := d) (b := (yy_fg K mo ba).toNatClampNeg) le (by omega)
  rw [← nI_back (x := yy_fg K mo ba) (by omega)] at q
  exact q
theorem hwr_dg {K mo nu ba ye : Int32} {sg : Nat → List Int32} {v : Int32} : ∀ i, i < (hwr K mo nu ba ye sg v).length → (hwr K mo nu ba ye sg v).getD i 0 ≤ yy_fg K mo ba := by
  intro i hi
  rw [List.getD_eq_getElem?_getD, List.getElem?_eq_getElem hi]
  exact hwr_mem (List.getElem_mem hi)
theorem eq_sb {s : Nat → Int32} {a : Nat → List Int32} {t3 t4 t5 : List Int32} {sd k v : Int32} : ysb (Ms s) (Bs s a t3 t4 t5) sd k v = xsb s a (yseg (Bs s a t3 t4 t5) (tl s)) sd k v := by
  unfold ysb xsb
  have e := xsl_eq (m := Ms s) (b := (Bs s a t3 t4 t5)) (k := k) (x := yask (Ms s) (Bs s a t3 t4 t5) 1 k v 0) (g := xfg s a k) rfl (ywr (Ms s) (Bs s a t3 t4 t5) k v).length 0 (sd.toInt64 + 1) (ywr (Ms s) (Bs s a t3 t4 t5) k v) (by omega) (fun j _ h2 => hwr_dg (K := gt (a 0) k) (mo := gt (a 1) k) (nu := k) (ba := s 0) (ye := s 1) (sg := yseg (Bs s a t3 t4 t5) (tl s)) (v := v) j h2)
  rw [e]
  rfl
theorem eq_drawn {s : Nat → Int32} {a : Nat → List Int32} {t3 t4 t5 : List Int32} {sd k v : Int32} : ydrawn (Ms s) (Bs s a t3 t4 t5) sd k v = xdrawn s a (yseg (Bs s a t3 t4 t5) (tl s)) sd k v := by
  unfold ydrawn xdrawn
  rw [eq_sb]
  rfl
theorem eq_odds {s : Nat → Int32} {a : Nat → List Int32} {t3 t4 t5 : List Int32} {sd sn k v p : Int32} : yodds (Ms s) (Bs s a t3 t4 t5) sd sn k v p = xodds s a (yseg (Bs s a t3 t4 t5) (tl s)) sd sn k v p := by
  unfold yodds xodds
  have e : yodc (Ms s) (Bs s a t3 t4 t5) sd sn k v = xodc s a (yseg (Bs s a t3 t4 t5) (tl s)) sd sn k v := by
    unfold yodc xodc
    simp only [eq_sb]
    rfl
  rw [e]
  have c : (mc_wi sd 0 99999 && mc_wi sn 1 60 && mc_wi k 0 (Ms s 2 - 1) && mc_wi v 0 99999 && mc_wi p 0 1) = (mc_wi sd 0 99999 && mc_wi sn 1 60 && mc_wi v 0 99999 && mc_wi p 0 1 && mc_wi k 0 (s 2 - 1)) := by
    show (mc_wi sd 0 99999 && mc_wi sn 1 60 && mc_wi k 0 (s 2 - 1) && mc_wi v 0 99999 && mc_wi p 0 1) = _
    cases mc_wi sd 0 99999 <;> cases mc_wi sn 1 60 <;> cases mc_wi k 0 (s 2 - 1) <;> cases mc_wi v 0 99999 <;> cases mc_wi p 0 1 <;> rfl
  rw [c]
