/-! ===== sheets: row k of four, its object at 21 + 2 k, its numbers at 22 + 2 k ===== -/
section Sheets
variable {own : String} {cc : ByteArray} {nL : Nat} {J : mc_J} {pc : Nat} {L : List (Option Value)} {st : List Value} {kc ks i : Nat}
variable {s u m n : Nat → Int32} {a c b d : Nat → List Int32} {q : List (Option Nat)} {h : Nat} {z : mc_W} {v x j : Int32} {k : Nat}
theorem WW_sh (hk : k < 4) : (WW s a q u c h m b n d z)[21 + 2 * k]? = some (.inl (3, [.ref (22 + 2 * k), .int (s (11 + 2 * k)), .int (s (12 + 2 * k))])) := by
  rcases (show k = 0 ∨ k = 1 ∨ k = 2 ∨ k = 3 by omega) with rfl | rfl | rfl | rfl <;> rfl
theorem WW_num (hk : k < 4) : (WW s a q u c h m b n d z)[22 + 2 * k]? = some (.inr (.inl (a (5 + k)))) := by
  rcases (show k = 0 ∨ k = 1 ∨ k = 2 ∨ k = 3 by omega) with rfl | rfl | rfl | rfl <;> rfl
theorem WW_numset {l : List Int32} (hk : k < 4) : (WW s a q u c h m b n d z).set (22 + 2 * k) (.inr (.inl l)) = WW s (mc_up a (5 + k) l) q u c h m b n d z := by
  rcases (show k = 0 ∨ k = 1 ∨ k = 2 ∨ k = 3 by omega) with rfl | rfl | rfl | rfl <;> rfl
theorem put_shk_sort (hd : decode cc pc = .ok (.putfield i, 3)) (hf : mc_FP own i 3 1 .int false) (kk : mc_E own cc nL J (pc + 3) L st (WW (mc_up s (11 + 2 * k) v) a q u c h m b n d z) kc ks) (hk : k < 4 := by assumption) : mc_E own cc nL J pc L (.int v :: .ref (21 + 2 * k) :: st) (WW s a q u c h m b n d z) kc ks := by
  rcases (show k = 0 ∨ k = 1 ∨ k = 2 ∨ k = 3 by omega) with rfl | rfl | rfl | rfl
  · exact put_sh0_sort hd hf kk
  · exact put_sh1_sort hd hf kk
  · exact put_sh2_sort hd hf kk
  · exact put_sh3_sort hd hf kk
theorem put_shk_size (hd : decode cc pc = .ok (.putfield i, 3)) (hf : mc_FP own i 3 2 .int false) (kk : mc_E own cc nL J (pc + 3) L st (WW (mc_up s (12 + 2 * k) v) a q u c h m b n d z) kc ks) (hk : k < 4 := by assumption) : mc_E own cc nL J pc L (.int v :: .ref (21 + 2 * k) :: st) (WW s a q u c h m b n d z) kc ks := by
  rcases (show k = 0 ∨ k = 1 ∨ k = 2 ∨ k = 3 by omega) with rfl | rfl | rfl | rfl
  · exact put_sh0_size hd hf kk
  · exact put_sh1_size hd hf kk
  · exact put_sh2_size hd hf kk
  · exact put_sh3_size hd hf kk
theorem ast_numk (hd : decode cc pc = .ok (.iastore, 1)) (hi : vp_in j (a (5 + k)).length) (kk : mc_E own cc nL J (pc + 1) L st (WW s (mc_up a (5 + k) ((a (5 + k)).set j.toNatClampNeg x)) q u c h m b n d z) kc ks) (hk : k < 4 := by assumption) : mc_E own cc nL J pc L (.int x :: .int j :: .ref (22 + 2 * k) :: st) (WW s a q u c h m b n d z) kc ks :=
  e_iast hd (WW_num hk) hi (by rw [WW_numset hk]; exact kk)
theorem ald_numk (hd : decode cc pc = .ok (.iaload, 1)) (hi : vp_in j (a (5 + k)).length) (kk : mc_E own cc nL J (pc + 1) L (.int ((a (5 + k)).getD j.toNatClampNeg 0) :: st) (WW s a q u c h m b n d z) kc ks) (hk : k < 4 := by assumption) : mc_E own cc nL J pc L (.int j :: .ref (22 + 2 * k) :: st) (WW s a q u c h m b n d z) kc ks := e_iald hd (WW_num hk) hi rfl kk
end Sheets
/-- how long the rows of the class are -/
def xL (a : Nat → List Int32) : Prop := (a 0).length = 5 ∧ (a 1).length = 5 ∧ (a 2).length = 160 ∧ (a 3).length = 36 ∧ (a 4).length = 36 ∧ ∀ k, k < 4 → (a (5 + k)).length = 40
/-- whether place i lies in a sheet of so many -/
def xhas (i N : Int32) : Bool := decide (0 ≤ i) && (decide (i < N) && decide (i < 40))
def xrun (f k N : Int32) : Bool := decide (0 ≤ f) && (decide (0 ≤ k) && (decide (k ≤ N) && decide (f ≤ N - k)))
theorem xhas_in {i N : Int32} {l : List Int32} (h : xhas i N = true) (hl : l.length = 40) : vp_in i l.length := by
  unfold xhas at h
  simp only [Bool.and_eq_true, decide_eq_true_eq, Int32.le_iff_toInt_le, Int32.lt_iff_toInt_lt, i0, show (40 : Int32).toInt = 40 from rfl] at h
  rw [vp_in_iff, hl]; omega
theorem clt {x y : Int32} : ¬ x ≤ y ↔ y < x := Int32.not_le
theorem cle {x y : Int32} : ¬ x < y ↔ y ≤ x := Int32.not_lt
theorem sp_x_missing {s u m n : Nat → Int32} {a c b d : Nat → List Int32} {q : List (Option Nat)} {h : Nat} {z : mc_W} {k : Nat} (hk : k < 4) : mc_D yX3_isMissing cX3_isMissing 1 (some .boolean) 1 [.ref (21 + 2 * k)] (WW s a q u c h m b n d z) (some (.int (mc_b (s (11 + 2 * k) == -1)))) (WW s a q u c h m b n d z) := by
  refine mc_start (own := RX3) (ini := false) rfl (by decide +kernel) (fun h => by cases h) (Nat.le_of_ble_eq_true rfl) ?_
  show mc_E _ _ _ _ _ [some (.ref (21 + 2 * k))] [] _ _ _
  refine e_aloadn (pc := 0) dX3_isMissing_0 rfl ?_
  refine e_get (pc := 1) dX3_isMissing_1 fX3_15 (WW_sh (by assumption)) rfl ?_
  refine e_iconst (v := -1) (pc := 4) dX3_isMissing_4 (by decide) ?_
  refine e_icmp_ne (pc := 5) dX3_isMissing_5 (t := 12) (by decide) (fun c_5 => ?_) (fun c_5 => ?_)
  · skip
    refine e_iconst (v := 0) (pc := 12) dX3_isMissing_12 (by decide) ?_
    exact e_zret (pc := 13) dX3_isMissing_13 rfl (by rfl) (Nat.le_refl _) (Nat.le_refl _) ⟨by simp_all [mc_b], rfl⟩
  · skip
    refine e_iconst (v := 1) (pc := 8) dX3_isMissing_8 (by decide) ?_
    refine e_goto (pc := 9) dX3_isMissing_9 (t := 13) (by decide) ?_
    exact e_zret (pc := 13) dX3_isMissing_13 rfl (by rfl) (Nat.le_refl _) (Nat.le_refl _) ⟨by simp_all [mc_b], rfl⟩
theorem sp_x_sort {s u m n : Nat → Int32} {a c b d : Nat → List Int32} {q : List (Option Nat)} {h : Nat} {z : mc_W} {k : Nat} (hk : k < 4) : mc_D yX3_sort cX3_sort 1 (some .int) 1 [.ref (21 + 2 * k)] (WW s a q u c h m b n d z) (some (.int (s (11 + 2 * k)))) (WW s a q u c h m b n d z) := by
  refine mc_start (own := RX3) (ini := false) rfl (by decide +kernel) (fun h => by cases h) (Nat.le_of_ble_eq_true rfl) ?_
  show mc_E _ _ _ _ _ [some (.ref (21 + 2 * k))] [] _ _ _
  refine e_aloadn (pc := 0) dX3_sort_0 rfl ?_
  refine e_get (pc := 1) dX3_sort_1 fX3_15 (WW_sh (by assumption)) rfl ?_
  exact e_iret (pc := 4) dX3_sort_4 rfl (Nat.le_refl _) (Nat.le_refl _) ⟨rfl, rfl⟩
theorem sp_x_size {s u m n : Nat → Int32} {a c b d : Nat → List Int32} {q : List (Option Nat)} {h : Nat} {z : mc_W} {k : Nat} (hk : k < 4) : mc_D yX3_size cX3_size 1 (some .int) 1 [.ref (21 + 2 * k)] (WW s a q u c h m b n d z) (some (.int (s (12 + 2 * k)))) (WW s a q u c h m b n d z) := by
  refine mc_start (own := RX3) (ini := false) rfl (by decide +kernel) (fun h => by cases h) (Nat.le_of_ble_eq_true rfl) ?_
  show mc_E _ _ _ _ _ [some (.ref (21 + 2 * k))] [] _ _ _
  refine e_aloadn (pc := 0) dX3_size_0 rfl ?_
  refine e_get (pc := 1) dX3_size_1 fX3_28 (WW_sh (by assumption)) rfl ?_
  exact e_iret (pc := 4) dX3_size_4 rfl (Nat.le_refl _) (Nat.le_refl _) ⟨rfl, rfl⟩
theorem sp_x_has {s u m n : Nat → Int32} {a c b d : Nat → List Int32} {q : List (Option Nat)} {h : Nat} {z : mc_W} {k : Nat} (hk : k < 4) {i : Int32} (hL : xL a) : mc_D yX3_has cX3_has 2 (some .boolean) 1 [.ref (21 + 2 * k), .int i] (WW s a q u c h m b n d z) (some (.int (mc_b (xhas i (s (12 + 2 * k)))))) (WW s a q u c h m b n d z) := by
  refine mc_start (own := RX3) (ini := false) rfl (by decide +kernel) (fun h => by cases h) (Nat.le_of_ble_eq_true rfl) ?_
  show mc_E _ _ _ _ _ [some (.ref (21 + 2 * k)), some (.int i)] [] _ _ _
  refine e_iloadn (pc := 0) dX3_has_0 rfl ?_
  refine e_if_lt (pc := 1) dX3_has_1 (t := 25) (by decide) (fun c_1 => ?_) (fun c_1 => ?_)
  · skip
    refine e_iconst (v := 0) (pc := 25) dX3_has_25 (by decide) ?_
    exact e_zret (pc := 26) dX3_has_26 rfl (by rfl) (Nat.le_refl _) (Nat.le_refl _) ⟨(by first | (rw [show xhas i (s (12 + 2 * k)) = true from by simp only [xhas, Bool.and_eq_true, Bool.or_eq_true, decide_eq_true_eq, Int32.le_iff_toInt_le, Int32.lt_iff_toInt_lt, show (0 : Int32).toInt = 0 from rfl, show (40 : Int32).toInt = 40 from rfl] at *; omega]; rfl) | (rw [show xhas i (s (12 + 2 * k)) = false from by rw [← Bool.not_eq_true]; simp only [xhas, Bool.and_eq_true, Bool.or_eq_true, decide_eq_true_eq, Int32.le_iff_toInt_le, Int32.lt_iff_toInt_lt, show (0 : Int32).toInt = 0 from rfl, show (40 : Int32).toInt = 40 from rfl] at *; omega]; rfl)), rfl⟩
  · skip
    refine e_iloadn (pc := 4) dX3_has_4 rfl ?_
    refine e_aloadn (pc := 5) dX3_has_5 rfl ?_
    refine e_get (pc := 6) dX3_has_6 fX3_28 (WW_sh (by assumption)) rfl ?_
    refine e_icmp_ge (pc := 9) dX3_has_9 (t := 25) (by decide) (fun c_9 => ?_) (fun c_9 => ?_)
    · skip
      refine e_iconst (v := 0) (pc := 25) dX3_has_25 (by decide) ?_
      exact e_zret (pc := 26) dX3_has_26 rfl (by rfl) (Nat.le_refl _) (Nat.le_refl _) ⟨(by first | (rw [show xhas i (s (12 + 2 * k)) = true from by simp only [xhas, Bool.and_eq_true, Bool.or_eq_true, decide_eq_true_eq, Int32.le_iff_toInt_le, Int32.lt_iff_toInt_lt, show (0 : Int32).toInt = 0 from rfl, show (40 : Int32).toInt = 40 from rfl] at *; omega]; rfl) | (rw [show xhas i (s (12 + 2 * k)) = false from by rw [← Bool.not_eq_true]; simp only [xhas, Bool.and_eq_true, Bool.or_eq_true, decide_eq_true_eq, Int32.le_iff_toInt_le, Int32.lt_iff_toInt_lt, show (0 : Int32).toInt = 0 from rfl, show (40 : Int32).toInt = 40 from rfl] at *; omega]; rfl)), rfl⟩
    · skip
      refine e_iloadn (pc := 12) dX3_has_12 rfl ?_
      refine e_aloadn (pc := 13) dX3_has_13 rfl ?_
      refine e_get (pc := 14) dX3_has_14 fX3_9 (WW_sh (by assumption)) rfl ?_
      refine e_alen (pc := 17) dX3_has_17 (WW_num (by assumption)) (show Int32.ofNat (a (5 + k)).length = 40 by rw [hL.2.2.2.2.2 k hk]; rfl) ?_
      refine e_icmp_ge (pc := 18) dX3_has_18 (t := 25) (by decide) (fun c_18 => ?_) (fun c_18 => ?_)
      · skip
        refine e_iconst (v := 0) (pc := 25) dX3_has_25 (by decide) ?_
        exact e_zret (pc := 26) dX3_has_26 rfl (by rfl) (Nat.le_refl _) (Nat.le_refl _) ⟨(by first | (rw [show xhas i (s (12 + 2 * k)) = true from by simp only [xhas, Bool.and_eq_true, Bool.or_eq_true, decide_eq_true_eq, Int32.le_iff_toInt_le, Int32.lt_iff_toInt_lt, show (0 : Int32).toInt = 0 from rfl, show (40 : Int32).toInt = 40 from rfl] at *; omega]; rfl) | (rw [show xhas i (s (12 + 2 * k)) = false from by rw [← Bool.not_eq_true]; simp only [xhas, Bool.and_eq_true, Bool.or_eq_true, decide_eq_true_eq, Int32.le_iff_toInt_le, Int32.lt_iff_toInt_lt, show (0 : Int32).toInt = 0 from rfl, show (40 : Int32).toInt = 40 from rfl] at *; omega]; rfl)), rfl⟩
      · skip
        refine e_iconst (v := 1) (pc := 21) dX3_has_21 (by decide) ?_
        refine e_goto (pc := 22) dX3_has_22 (t := 26) (by decide) ?_
        exact e_zret (pc := 26) dX3_has_26 rfl (by rfl) (Nat.le_refl _) (Nat.le_refl _) ⟨(by first | (rw [show xhas i (s (12 + 2 * k)) = true from by simp only [xhas, Bool.and_eq_true, Bool.or_eq_true, decide_eq_true_eq, Int32.le_iff_toInt_le, Int32.lt_iff_toInt_lt, show (0 : Int32).toInt = 0 from rfl, show (40 : Int32).toInt = 40 from rfl] at *; omega]; rfl) | (rw [show xhas i (s (12 + 2 * k)) = false from by rw [← Bool.not_eq_true]; simp only [xhas, Bool.and_eq_true, Bool.or_eq_true, decide_eq_true_eq, Int32.le_iff_toInt_le, Int32.lt_iff_toInt_lt, show (0 : Int32).toInt = 0 from rfl, show (40 : Int32).toInt = 40 from rfl] at *; omega]; rfl)), rfl⟩
theorem sp_x_hasRun {s u m n : Nat → Int32} {a c b d : Nat → List Int32} {q : List (Option Nat)} {h : Nat} {z : mc_W} {k : Nat} (hk : k < 4) {f g : Int32} : mc_D yX3_hasRun cX3_hasRun 3 (some .boolean) 1 [.ref (21 + 2 * k), .int f, .int g] (WW s a q u c h m b n d z) (some (.int (mc_b (xrun f g (s (12 + 2 * k)))))) (WW s a q u c h m b n d z) := by
  refine mc_start (own := RX3) (ini := false) rfl (by decide +kernel) (fun h => by cases h) (Nat.le_of_ble_eq_true rfl) ?_
  show mc_E _ _ _ _ _ [some (.ref (21 + 2 * k)), some (.int f), some (.int g)] [] _ _ _
  refine e_iloadn (pc := 0) dX3_hasRun_0 rfl ?_
  refine e_if_lt (pc := 1) dX3_hasRun_1 (t := 30) (by decide) (fun c_1 => ?_) (fun c_1 => ?_)
  · skip
    refine e_iconst (v := 0) (pc := 30) dX3_hasRun_30 (by decide) ?_
    exact e_zret (pc := 31) dX3_hasRun_31 rfl (by rfl) (Nat.le_refl _) (Nat.le_refl _) ⟨(by first | (rw [show xrun f g (s (12 + 2 * k)) = true from by simp only [xrun, Bool.and_eq_true, Bool.or_eq_true, decide_eq_true_eq, Int32.le_iff_toInt_le, Int32.lt_iff_toInt_lt, show (0 : Int32).toInt = 0 from rfl] at *; omega]; rfl) | (rw [show xrun f g (s (12 + 2 * k)) = false from by rw [← Bool.not_eq_true]; simp only [xrun, Bool.and_eq_true, Bool.or_eq_true, decide_eq_true_eq, Int32.le_iff_toInt_le, Int32.lt_iff_toInt_lt, show (0 : Int32).toInt = 0 from rfl] at *; omega]; rfl)), rfl⟩
  · skip
    refine e_iloadn (pc := 4) dX3_hasRun_4 rfl ?_
    refine e_if_lt (pc := 5) dX3_hasRun_5 (t := 30) (by decide) (fun c_5 => ?_) (fun c_5 => ?_)
    · skip
      refine e_iconst (v := 0) (pc := 30) dX3_hasRun_30 (by decide) ?_
      exact e_zret (pc := 31) dX3_hasRun_31 rfl (by rfl) (Nat.le_refl _) (Nat.le_refl _) ⟨(by first | (rw [show xrun f g (s (12 + 2 * k)) = true from by simp only [xrun, Bool.and_eq_true, Bool.or_eq_true, decide_eq_true_eq, Int32.le_iff_toInt_le, Int32.lt_iff_toInt_lt, show (0 : Int32).toInt = 0 from rfl] at *; omega]; rfl) | (rw [show xrun f g (s (12 + 2 * k)) = false from by rw [← Bool.not_eq_true]; simp only [xrun, Bool.and_eq_true, Bool.or_eq_true, decide_eq_true_eq, Int32.le_iff_toInt_le, Int32.lt_iff_toInt_lt, show (0 : Int32).toInt = 0 from rfl] at *; omega]; rfl)), rfl⟩
    · skip
      refine e_iloadn (pc := 8) dX3_hasRun_8 rfl ?_
      refine e_aloadn (pc := 9) dX3_hasRun_9 rfl ?_
      refine e_get (pc := 10) dX3_hasRun_10 fX3_28 (WW_sh (by assumption)) rfl ?_
      refine e_icmp_gt (pc := 13) dX3_hasRun_13 (t := 30) (by decide) (fun c_13 => ?_) (fun c_13 => ?_)
      · skip
        refine e_iconst (v := 0) (pc := 30) dX3_hasRun_30 (by decide) ?_
        exact e_zret (pc := 31) dX3_hasRun_31 rfl (by rfl) (Nat.le_refl _) (Nat.le_refl _) ⟨(by first | (rw [show xrun f g (s (12 + 2 * k)) = true from by simp only [xrun, Bool.and_eq_true, Bool.or_eq_true, decide_eq_true_eq, Int32.le_iff_toInt_le, Int32.lt_iff_toInt_lt, show (0 : Int32).toInt = 0 from rfl] at *; omega]; rfl) | (rw [show xrun f g (s (12 + 2 * k)) = false from by rw [← Bool.not_eq_true]; simp only [xrun, Bool.and_eq_true, Bool.or_eq_true, decide_eq_true_eq, Int32.le_iff_toInt_le, Int32.lt_iff_toInt_lt, show (0 : Int32).toInt = 0 from rfl] at *; omega]; rfl)), rfl⟩
      · skip
        refine e_iloadn (pc := 16) dX3_hasRun_16 rfl ?_
        refine e_aloadn (pc := 17) dX3_hasRun_17 rfl ?_
        refine e_get (pc := 18) dX3_hasRun_18 fX3_28 (WW_sh (by assumption)) rfl ?_
        refine e_iloadn (pc := 21) dX3_hasRun_21 rfl ?_
        refine e_isub (pc := 22) dX3_hasRun_22 ?_
        refine e_icmp_gt (pc := 23) dX3_hasRun_23 (t := 30) (by decide) (fun c_23 => ?_) (fun c_23 => ?_)
        · skip
          refine e_iconst (v := 0) (pc := 30) dX3_hasRun_30 (by decide) ?_
          exact e_zret (pc := 31) dX3_hasRun_31 rfl (by rfl) (Nat.le_refl _) (Nat.le_refl _) ⟨(by first | (rw [show xrun f g (s (12 + 2 * k)) = true from by simp only [xrun, Bool.and_eq_true, Bool.or_eq_true, decide_eq_true_eq, Int32.le_iff_toInt_le, Int32.lt_iff_toInt_lt, show (0 : Int32).toInt = 0 from rfl] at *; omega]; rfl) | (rw [show xrun f g (s (12 + 2 * k)) = false from by rw [← Bool.not_eq_true]; simp only [xrun, Bool.and_eq_true, Bool.or_eq_true, decide_eq_true_eq, Int32.le_iff_toInt_le, Int32.lt_iff_toInt_lt, show (0 : Int32).toInt = 0 from rfl] at *; omega]; rfl)), rfl⟩
        · skip
          refine e_iconst (v := 1) (pc := 26) dX3_hasRun_26 (by decide) ?_
          refine e_goto (pc := 27) dX3_hasRun_27 (t := 31) (by decide) ?_
          exact e_zret (pc := 31) dX3_hasRun_31 rfl (by rfl) (Nat.le_refl _) (Nat.le_refl _) ⟨(by first | (rw [show xrun f g (s (12 + 2 * k)) = true from by simp only [xrun, Bool.and_eq_true, Bool.or_eq_true, decide_eq_true_eq, Int32.le_iff_toInt_le, Int32.lt_iff_toInt_lt, show (0 : Int32).toInt = 0 from rfl] at *; omega]; rfl) | (rw [show xrun f g (s (12 + 2 * k)) = false from by rw [← Bool.not_eq_true]; simp only [xrun, Bool.and_eq_true, Bool.or_eq_true, decide_eq_true_eq, Int32.le_iff_toInt_le, Int32.lt_iff_toInt_lt, show (0 : Int32).toInt = 0 from rfl] at *; omega]; rfl)), rfl⟩
def xat (a : Nat → List Int32) (s : Nat → Int32) (k : Nat) (i : Int32) : Int32 := if xhas i (s (12 + 2 * k)) = true then (a (5 + k)).getD i.toNatClampNeg 0 else 0
theorem sp_x_at {s u m n : Nat → Int32} {a c b d : Nat → List Int32} {q : List (Option Nat)} {h : Nat} {z : mc_W} {k : Nat} (hk : k < 4) {i : Int32} (hL : xL a) : mc_D yX3_at cX3_at 2 (some .int) 2 [.ref (21 + 2 * k), .int i] (WW s a q u c h m b n d z) (some (.int (xat a s k i))) (WW s a q u c h m b n d z) := by
  refine mc_start (own := RX3) (ini := false) rfl (by decide +kernel) (fun h => by cases h) (Nat.le_of_ble_eq_true rfl) ?_
  show mc_E _ _ _ _ _ [some (.ref (21 + 2 * k)), some (.int i)] [] _ _ _
  refine e_aloadn (pc := 0) dX3_at_0 rfl ?_
  refine e_iloadn (pc := 1) dX3_at_1 rfl ?_
  refine e_cvD (pc := 2) (sp_x_has hk hL) dX3_at_2 kX3_37 (WW_sh hk) rfl rfl rfl rfl (mc_CR_of (Nat.le_of_ble_eq_true rfl) (Nat.le_of_ble_eq_true rfl) (Nat.le_refl _) (Nat.le_refl _)) (Nat.le_of_ble_eq_true rfl) ?_
  refine e_if_eq (pc := 5) dX3_at_5 (t := 17) (by decide) (fun c_5 => ?_) (fun c_5 => ?_)
  · skip
    refine e_iconst (v := 0) (pc := 17) dX3_at_17 (by decide) ?_
    exact e_iret (pc := 18) dX3_at_18 rfl (Nat.le_refl _) (Nat.le_refl _) ⟨by simp_all [xat, mc_b0, mc_b1], rfl⟩
  · skip
    refine e_aloadn (pc := 8) dX3_at_8 rfl ?_
    refine e_get (pc := 9) dX3_at_9 fX3_9 (WW_sh (by assumption)) rfl ?_
    refine e_iloadn (pc := 12) dX3_at_12 rfl ?_
    refine ald_numk (pc := 13) dX3_at_13 (xhas_in (mc_b1.mp c_5) (hL.2.2.2.2.2 k hk)) ?_
    refine e_goto (pc := 14) dX3_at_14 (t := 18) (by decide) ?_
    exact e_iret (pc := 18) dX3_at_18 rfl (Nat.le_refl _) (Nat.le_refl _) ⟨by simp_all [xat, mc_b0, mc_b1], rfl⟩
/-- what a sheet of a sort keeps of v -/
def xnar (so v : Int32) : Int32 := if so = 0 then v.toInt8.toInt32 else if so = 1 then v.toInt16.toInt32 else v
def xsto (a : Nat → List Int32) (s : Nat → Int32) (k : Nat) (i v : Int32) : Nat → List Int32 := if xhas i (s (12 + 2 * k)) = true then mc_up a (5 + k) ((a (5 + k)).set i.toNatClampNeg (xnar (s (11 + 2 * k)) v)) else a
theorem sp_x_store {s u m n : Nat → Int32} {a c b d : Nat → List Int32} {q : List (Option Nat)} {h : Nat} {z : mc_W} {k : Nat} (hk : k < 4) {i v : Int32} (hL : xL a) : mc_D yX3_store cX3_store 3 none 2 [.ref (21 + 2 * k), .int i, .int v] (WW s a q u c h m b n d z) none (WW s (xsto a s k i v) q u c h m b n d z) := by
  refine mc_start (own := RX3) (ini := false) rfl (by decide +kernel) (fun h => by cases h) (Nat.le_of_ble_eq_true rfl) ?_
  show mc_E _ _ _ _ _ [some (.ref (21 + 2 * k)), some (.int i), some (.int v)] [] _ _ _
  refine e_aloadn (pc := 0) dX3_store_0 rfl ?_
  refine e_iloadn (pc := 1) dX3_store_1 rfl ?_
  refine e_cvD (pc := 2) (sp_x_has hk hL) dX3_store_2 kX3_37 (WW_sh hk) rfl rfl rfl rfl (mc_CR_of (Nat.le_of_ble_eq_true rfl) (Nat.le_of_ble_eq_true rfl) (Nat.le_refl _) (Nat.le_refl _)) (Nat.le_of_ble_eq_true rfl) ?_
  refine e_if_eq (pc := 5) dX3_store_5 (t := 40) (by decide) (fun c_5 => ?_) (fun c_5 => ?_)
  · skip
    exact e_vret (pc := 40) dX3_store_40 rfl (Nat.le_refl _) (Nat.le_refl _) ⟨rfl, by simp_all [xsto, xnar, mc_b0, mc_b1]⟩
  · skip
    refine e_aloadn (pc := 8) dX3_store_8 rfl ?_
    refine e_get (pc := 9) dX3_store_9 fX3_9 (WW_sh (by assumption)) rfl ?_
    refine e_iloadn (pc := 12) dX3_store_12 rfl ?_
    refine e_aloadn (pc := 13) dX3_store_13 rfl ?_
    refine e_get (pc := 14) dX3_store_14 fX3_15 (WW_sh (by assumption)) rfl ?_
    refine e_if_ne (pc := 17) dX3_store_17 (t := 25) (by decide) (fun c_17 => ?_) (fun c_17 => ?_)
    · skip
      refine e_aloadn (pc := 25) dX3_store_25 rfl ?_
      refine e_get (pc := 26) dX3_store_26 fX3_15 (WW_sh (by assumption)) rfl ?_
      refine e_iconst (v := 1) (pc := 29) dX3_store_29 (by decide) ?_
      refine e_icmp_ne (pc := 30) dX3_store_30 (t := 38) (by decide) (fun c_30 => ?_) (fun c_30 => ?_)
      · skip
        refine e_iloadn (pc := 38) dX3_store_38 rfl ?_
        refine ast_numk (pc := 39) dX3_store_39 (xhas_in (mc_b1.mp c_5) (hL.2.2.2.2.2 k hk)) ?_
        exact e_vret (pc := 40) dX3_store_40 rfl (Nat.le_refl _) (Nat.le_refl _) ⟨rfl, by simp_all [xsto, xnar, mc_b0, mc_b1]⟩
      · skip
        refine e_iloadn (pc := 33) dX3_store_33 rfl ?_
        refine e_i2s (pc := 34) dX3_store_34 ?_
        refine e_goto (pc := 35) dX3_store_35 (t := 39) (by decide) ?_
        refine ast_numk (pc := 39) dX3_store_39 (xhas_in (mc_b1.mp c_5) (hL.2.2.2.2.2 k hk)) ?_
        exact e_vret (pc := 40) dX3_store_40 rfl (Nat.le_refl _) (Nat.le_refl _) ⟨rfl, by simp_all [xsto, xnar, mc_b0, mc_b1]⟩
    · skip
      refine e_iloadn (pc := 20) dX3_store_20 rfl ?_
      refine e_i2b (pc := 21) dX3_store_21 ?_
      refine e_goto (pc := 22) dX3_store_22 (t := 39) (by decide) ?_
      refine ast_numk (pc := 39) dX3_store_39 (xhas_in (mc_b1.mp c_5) (hL.2.2.2.2.2 k hk)) ?_
      exact e_vret (pc := 40) dX3_store_40 rfl (Nat.le_refl _) (Nat.le_refl _) ⟨rfl, by simp_all [xsto, xnar, mc_b0, mc_b1]⟩
def xfil (l : List Int32) (x : Int32) : Nat → Nat → List Int32
  | 0, _ => l
  | g + 1, i => xfil (l.set i x) x g (i + 1)
theorem xfil_len {x : Int32} : ∀ g i l, (xfil l x g i).length = l.length := by
  intro g; induction g with
  | zero => intro i l; rfl
  | succ g ih => intro i l; show (xfil (l.set i x) x g (i + 1)).length = _; rw [ih]; simp
theorem xfil_get {x : Int32} : ∀ g i l j, i + g = l.length → (xfil l x g i).getD j 0 = if i ≤ j ∧ j < l.length then x else l.getD j 0 := by
  intro g; induction g with
  | zero => intro i l j h; show l.getD j 0 = _; rw [if_neg (by omega)]
  | succ g ih =>
    intro i l j h
    show (xfil (l.set i x) x g (i + 1)).getD j 0 = _
    rw [ih (i + 1) (l.set i x) j (by rw [List.length_set]; omega), List.length_set, gD_set (by omega)]
    by_cases h1 : j = i
    · subst h1; rw [if_neg (by omega), if_pos rfl, if_pos ⟨Nat.le_refl _, by omega⟩]
    · by_cases h2 : i + 1 ≤ j ∧ j < l.length
      · rw [if_pos h2, if_pos (by omega)]
      · rw [if_neg h2, if_neg h1, if_neg (by omega)]
theorem xfil_all {x : Int32} {l : List Int32} : xfil l x l.length 0 = List.replicate l.length x := by
  apply List.ext_getElem?
  intro j
  have h := xfil_get (x := x) l.length 0 l j (by omega)
  by_cases hj : j < l.length
  · rw [if_pos ⟨Nat.zero_le _, hj⟩, List.getD_eq_getElem?_getD] at h
    rw [List.getElem?_replicate, if_pos hj]
    have h2 : j < (xfil l x l.length 0).length := by rw [xfil_len]; exact hj
    rw [List.getElem?_eq_getElem h2] at h ⊢
    simpa using h
  · rw [List.getElem?_eq_none (by rw [xfil_len]; omega), List.getElem?_eq_none (by simp; omega)]
theorem lp_x_fill {s u m n : Nat → Int32} {a c b d : Nat → List Int32} {q : List (Option Nat)} {h : Nat} {z : mc_W} {Post : Option Value → mc_W → Prop} {k : Nat} {x : Int32} {V : List Int32} (hk : k < 4)
    (hK : mc_E RJ7 cJ7_fill_53178 4 (mc_JM none false 1 0 0 Post) 20 [some (.ref (22 + 2 * k)), some (.int x), some (.int (nI 40)), some (.int (nI 40))] [] (WW s (mc_up a (5 + k) V) q u c h m b n d z) 0 0) :
    ∀ (g i : Nat) (l : List Int32), l.length = 40 → i + g = 40 → xfil l x g i = V →
      mc_E RJ7 cJ7_fill_53178 4 (mc_JM none false 1 0 0 Post) 5 [some (.ref (22 + 2 * k)), some (.int x), some (.int (nI i)), some (.int (nI 40))] [] (WW s (mc_up a (5 + k) l) q u c h m b n d z) 0 0 := by
  intro g
  induction g with
  | zero =>
    intro i l hl hi hV
    have e : i = 40 := by omega
    subst e
    simp only [xfil] at hV
    subst hV
    refine e_iloadn (pc := 5) dJ7_fill_53178_5 rfl ?_
    refine e_iloadn (pc := 6) dJ7_fill_53178_6 rfl ?_
    refine e_icmp_ge (pc := 7) dJ7_fill_53178_7 (t := 20) (by decide) (fun _ => ?_) (fun c_7 => absurd (by decide) c_7)
    exact hK
  | succ g ih =>
    intro i l hl hi hV
    simp only [xfil] at hV
    have hi1 : i < 40 := by omega
    refine e_iloadn (pc := 5) dJ7_fill_53178_5 rfl ?_
    refine e_iloadn (pc := 6) dJ7_fill_53178_6 rfl ?_
    refine e_icmp_ge (pc := 7) dJ7_fill_53178_7 (t := 20) (by decide) (fun c_7 => absurd c_7 (nI_ge (by omega : i < 40) (by decide))) (fun _ => ?_)
    refine e_aloadn (pc := 10) dJ7_fill_53178_10 rfl ?_
    refine e_iloadn (pc := 11) dJ7_fill_53178_11 rfl ?_
    refine e_iloadn (pc := 12) dJ7_fill_53178_12 rfl ?_
    refine ast_numk (pc := 13) dJ7_fill_53178_13 (by rw [up_at, hl]; exact vp_in_nI hi1 (by decide)) ?_
    rw [up_up, up_at, nIc (by omega)]
    refine e_incC2 (pc := 14) dJ7_fill_53178_14 (nI_1 i) (Nat.le_of_ble_eq_true rfl) rfl ?_
    refine e_goto (pc := 17) dJ7_fill_53178_17 (t := 5) (by decide) ?_
    exact ih (i + 1) _ (by rw [List.length_set]; exact hl) (by omega) hV
theorem sp_x_fill {s u m n : Nat → Int32} {a c b d : Nat → List Int32} {q : List (Option Nat)} {h : Nat} {z : mc_W} {k : Nat} (hk : k < 4) {x : Int32} (hL : xL a) : mc_D yJ7_fill_53178 cJ7_fill_53178 4 none 1 [.ref (22 + 2 * k), .int x] (WW s a q u c h m b n d z) none (WW s (mc_up a (5 + k) (List.replicate 40 x)) q u c h m b n d z) := by
  refine mc_start (own := RJ7) (ini := false) rfl (by decide +kernel) (fun h => by cases h) (Nat.le_of_ble_eq_true rfl) ?_
  show mc_E _ _ _ _ _ [some (.ref (22 + 2 * k)), some (.int x), none, none] [] _ _ _
  refine e_iconst (v := 0) (pc := 0) dJ7_fill_53178_0 (by decide) ?_
  refine e_isn2 (pc := 1) dJ7_fill_53178_1 (Nat.le_of_ble_eq_true rfl) rfl ?_
  refine e_aloadn (pc := 2) dJ7_fill_53178_2 rfl ?_
  refine e_alen (pc := 3) dJ7_fill_53178_3 (WW_num (by assumption)) (show Int32.ofNat (a (5 + k)).length = nI 40 by rw [hL.2.2.2.2.2 k hk]; rfl) ?_
  refine e_isn3 (pc := 4) dJ7_fill_53178_4 (Nat.le_of_ble_eq_true rfl) rfl ?_
  refine e_w (w2 := (WW s (mc_up a (5 + k) (a (5 + k))) q u c h m b n d z)) (by rw [mc_up_self]) ?_
  refine lp_x_fill (V := List.replicate 40 x) hk ?_ 40 0 (a (5 + k)) (hL.2.2.2.2.2 k hk) (by omega) (by have := xfil_all (x := x) (l := a (5 + k)); rw [hL.2.2.2.2.2 k hk] at this; exact this)
  exact e_vret (pc := 20) dJ7_fill_53178_20 rfl (Nat.le_refl _) (Nat.le_refl _) ⟨rfl, rfl⟩
def xcl (v : Int32) : Int32 := if 0 < (if 40 < v then 40 else v) then (if 40 < v then 40 else v) else 0
theorem xcl_in {v : Int32} (h0 : 0 ≤ v.toInt) (h1 : v.toInt ≤ 40) : xcl v = v := by
  unfold xcl
  have e : ¬ (40 : Int32) < v := by rw [Int32.lt_iff_toInt_lt, show (40 : Int32).toInt = 40 from rfl]; omega
  rw [if_neg e]
  by_cases h : 0 < v
  · rw [if_pos h]
  · rw [if_neg h]
    apply Int32.toInt_inj.mp
    rw [Int32.lt_iff_toInt_lt, i0] at h
    rw [i0]; omega
/-- a sheet becomes another -/
def xbs (s : Nat → Int32) (k : Nat) (so N : Int32) : Nat → Int32 := mc_up (mc_up s (11 + 2 * k) so) (12 + 2 * k) (xcl N)
def xba (a : Nat → List Int32) (k : Nat) : Nat → List Int32 := mc_up a (5 + k) (List.replicate 40 0)
theorem sp_x_sbecome {s u m n : Nat → Int32} {a c b d : Nat → List Int32} {q : List (Option Nat)} {h : Nat} {z : mc_W} {k : Nat} (hk : k < 4) {so N : Int32} (hL : xL a) : mc_D yX3_become cX3_become 3 none 2 [.ref (21 + 2 * k), .int so, .int N] (WW s a q u c h m b n d z) none (WW (xbs s k so N) (xba a k) q u c h m b n d z) := by
  refine mc_start (own := RX3) (ini := false) rfl (by decide +kernel) (fun h => by cases h) (Nat.le_of_ble_eq_true rfl) ?_
  show mc_E _ _ _ _ _ [some (.ref (21 + 2 * k)), some (.int so), some (.int N)] [] _ _ _
  refine e_aloadn (pc := 0) dX3_become_0 rfl ?_
  refine e_iloadn (pc := 1) dX3_become_1 rfl ?_
  refine put_shk_sort (pc := 2) dX3_become_2 pX3_15 ?_
  refine e_aloadn (pc := 5) dX3_become_5 rfl ?_
  refine e_iconst (v := 0) (pc := 6) dX3_become_6 (by decide) ?_
  refine e_iloadn (pc := 7) dX3_become_7 rfl ?_
  refine e_bipush (v := 40) (pc := 8) dX3_become_8 (by decide) ?_
  refine e_min (pc := 10) dX3_become_10 mX3_19 (mc_JR_of (Nat.le_of_ble_eq_true rfl) (Nat.le_refl _) (Nat.le_refl _) (Nat.le_of_ble_eq_true rfl)) ?_
  refine e_max (pc := 13) dX3_become_13 mX3_25 (mc_JR_of (Nat.le_of_ble_eq_true rfl) (Nat.le_refl _) (Nat.le_refl _) (Nat.le_of_ble_eq_true rfl)) ?_
  refine put_shk_size (pc := 16) dX3_become_16 pX3_28 ?_
  refine e_aloadn (pc := 19) dX3_become_19 rfl ?_
  refine e_get (pc := 20) dX3_become_20 fX3_9 (WW_sh (by assumption)) rfl ?_
  refine e_iconst (v := 0) (pc := 23) dX3_become_23 (by decide) ?_
  refine e_csU (pc := 24) (sp_x_fill hk hL) dX3_become_24 kX3_31 rfl rfl (mc_CR_of (Nat.le_of_ble_eq_true rfl) (Nat.le_of_ble_eq_true rfl) (Nat.le_refl _) (Nat.le_refl _)) (Nat.le_of_ble_eq_true rfl) ?_
  exact e_vret (pc := 27) dX3_become_27 rfl (Nat.le_refl _) (Nat.le_refl _) ⟨rfl, rfl⟩
theorem wi_k {v : Int32} (h : mc_wi v 0 3 = true) : ∃ k, k < 4 ∧ v = nI k := by
  rw [mc_wi_iff, i0, show (3 : Int32).toInt = 3 from rfl] at h
  exact ⟨v.toNatClampNeg, by have := tnc h.1; omega, nI_back h.1⟩
theorem wi_nk {k : Nat} (hk : k < 4) : mc_wi (nI k) 0 3 = true := by
  rw [mc_wi_iff, nI_toInt (by omega), i0, show (3 : Int32).toInt = 3 from rfl]; omega
theorem shs_get {k : Nat} (hk : k < 4) : ([some 21, some 23, some 25, some 27] : List (Option Nat)).getD (nI k).toNatClampNeg none = some (21 + 2 * k) := by
  rw [nIc (by omega)]
  rcases (show k = 0 ∨ k = 1 ∨ k = 2 ∨ k = 3 by omega) with rfl | rfl | rfl | rfl <;> rfl
theorem sp_x_sheetAt {s u m n : Nat → Int32} {a c b d : Nat → List Int32} {q : List (Option Nat)} {h : Nat} {z : mc_W} {k : Nat} (hk : k < 4) : mc_D yX6_sheetAt cX6_sheetAt 2 (some (.object "NoZeroWithin$Sheet")) 3 [.ref 0, .int (nI k)] (WW s a q u c h m b n d z) (some (.ref (21 + 2 * k))) (WW s a q u c h m b n d z) := by
  refine mc_start (own := RX6) (ini := false) rfl (by decide +kernel) (fun h => by cases h) (Nat.le_of_ble_eq_true rfl) ?_
  show mc_E _ _ _ _ _ [some (.ref 0), some (.int (nI k))] [] _ _ _
  refine e_aloadn (pc := 0) dX6_sheetAt_0 rfl ?_
  refine e_get (pc := 1) dX6_sheetAt_1 fX6_48 rfl rfl ?_
  refine e_iloadn (pc := 4) dX6_sheetAt_4 rfl ?_
  refine e_csD (pc := 5) (sp_isSheet) dX6_sheetAt_5 kX6_289 rfl rfl (mc_CR_of (Nat.le_of_ble_eq_true rfl) (Nat.le_of_ble_eq_true rfl) (Nat.le_refl _) (Nat.le_refl _)) (Nat.le_of_ble_eq_true rfl) ?_
  refine e_if_eq (pc := 8) dX6_sheetAt_8 (t := 15) (by decide) (fun c_8 => absurd c_8 (mc_b1.mpr (wi_nk hk))) (fun _ => ?_)
  refine e_iloadn (pc := 11) dX6_sheetAt_11 rfl ?_
  refine e_goto (pc := 12) dX6_sheetAt_12 (t := 16) (by decide) ?_
  refine e_aldq (pc := 16) dX6_sheetAt_16 rfl (Or.inr rfl) (vp_in_nI (by omega : k < 4) (by decide)) (shs_get hk) ?_
  exact e_aret (pc := 17) dX6_sheetAt_17 rfl (Or.inl ⟨_, rfl⟩) (Nat.le_refl _) (Nat.le_refl _) ⟨rfl, rfl⟩
def xmis (s : Nat → Int32) (k : Nat) : Bool := s (11 + 2 * k) == -1
theorem sp_x_refSheet {s u m n : Nat → Int32} {a c b d : Nat → List Int32} {q : List (Option Nat)} {h : Nat} {z : mc_W} {k : Nat} (hk : k < 4) : mc_D yX6_refusalOfSheet cX6_refusalOfSheet 2 (some .int) 4 [.ref 0, .int (nI k)] (WW s a q u c h m b n d z) (some (.int (if xmis s k = true then -11 else 0))) (WW s a q u c h m b n d z) := by
  refine mc_start (own := RX6) (ini := false) rfl (by decide +kernel) (fun h => by cases h) (Nat.le_of_ble_eq_true rfl) ?_
  show mc_E _ _ _ _ _ [some (.ref 0), some (.int (nI k))] [] _ _ _
  refine e_iloadn (pc := 0) dX6_refusalOfSheet_0 rfl ?_
  refine e_csD (pc := 1) (sp_isSheet) dX6_refusalOfSheet_1 kX6_289 rfl rfl (mc_CR_of (Nat.le_of_ble_eq_true rfl) (Nat.le_of_ble_eq_true rfl) (Nat.le_refl _) (Nat.le_refl _)) (Nat.le_of_ble_eq_true rfl) ?_
  refine e_if_ne (pc := 4) dX6_refusalOfSheet_4 (t := 10) (by decide) (fun _ => ?_) (fun c_4 => absurd c_4 (mc_b1.mpr (wi_nk hk)))
  refine e_aloadn (pc := 10) dX6_refusalOfSheet_10 rfl ?_
  refine e_iloadn (pc := 11) dX6_refusalOfSheet_11 rfl ?_
  refine e_cvD (pc := 12) (sp_x_sheetAt hk) dX6_refusalOfSheet_12 kX6_171 rfl rfl rfl rfl rfl (mc_CR_of (Nat.le_of_ble_eq_true rfl) (Nat.le_of_ble_eq_true rfl) (Nat.le_refl _) (Nat.le_refl _)) (Nat.le_of_ble_eq_true rfl) ?_
  refine e_cvD (pc := 15) (sp_x_missing hk) dX6_refusalOfSheet_15 kX6_332 (WW_sh hk) rfl rfl rfl rfl (mc_CR_of (Nat.le_of_ble_eq_true rfl) (Nat.le_of_ble_eq_true rfl) (Nat.le_refl _) (Nat.le_refl _)) (Nat.le_of_ble_eq_true rfl) ?_
  refine e_if_eq (pc := 18) dX6_refusalOfSheet_18 (t := 26) (by decide) (fun c_18 => ?_) (fun c_18 => ?_)
  · skip
    refine e_iconst (v := 0) (pc := 26) dX6_refusalOfSheet_26 (by decide) ?_
    exact e_iret (pc := 27) dX6_refusalOfSheet_27 rfl (Nat.le_refl _) (Nat.le_refl _) ⟨by simp_all [xmis, mc_b0, mc_b1], rfl⟩
  · skip
    refine e_bipush (v := -11) (pc := 21) dX6_refusalOfSheet_21 (by decide) ?_
    refine e_goto (pc := 23) dX6_refusalOfSheet_23 (t := 27) (by decide) ?_
    exact e_iret (pc := 27) dX6_refusalOfSheet_27 rfl (Nat.le_refl _) (Nat.le_refl _) ⟨by simp_all [xmis, mc_b0, mc_b1], rfl⟩
theorem sp_x_refSheet0 {s u m n : Nat → Int32} {a c b d : Nat → List Int32} {q : List (Option Nat)} {h : Nat} {z : mc_W} {v : Int32} (hv : mc_wi v 0 3 = false) : mc_D yX6_refusalOfSheet cX6_refusalOfSheet 2 (some .int) 4 [.ref 0, .int v] (WW s a q u c h m b n d z) (some (.int (-2))) (WW s a q u c h m b n d z) := by
  refine mc_start (own := RX6) (ini := false) rfl (by decide +kernel) (fun h => by cases h) (Nat.le_of_ble_eq_true rfl) ?_
  show mc_E _ _ _ _ _ [some (.ref 0), some (.int v)] [] _ _ _
  refine e_iloadn (pc := 0) dX6_refusalOfSheet_0 rfl ?_
  refine e_csD (pc := 1) (sp_isSheet) dX6_refusalOfSheet_1 kX6_289 rfl rfl (mc_CR_of (Nat.le_of_ble_eq_true rfl) (Nat.le_of_ble_eq_true rfl) (Nat.le_refl _) (Nat.le_refl _)) (Nat.le_of_ble_eq_true rfl) ?_
  refine e_if_ne (pc := 4) dX6_refusalOfSheet_4 (t := 10) (by decide) (fun c_4 => absurd c_4 (by rw [mc_b0.mpr hv]; decide)) (fun _ => ?_)
  refine e_bipush (v := -2) (pc := 7) dX6_refusalOfSheet_7 (by decide) ?_
  exact e_iret (pc := 9) dX6_refusalOfSheet_9 rfl (Nat.le_refl _) (Nat.le_refl _) ⟨rfl, rfl⟩
