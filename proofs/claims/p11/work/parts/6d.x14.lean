/-! ===== books ===== -/
/-- the sizes of the sheets -/
def xS (s : Nat → Int32) : Prop := ∀ k, k < 4 → 0 ≤ (s (12 + 2 * k)).toInt ∧ (s (12 + 2 * k)).toInt ≤ 40
/-- the numbers of sheet k -/
def xrow (s : Nat → Int32) (a : Nat → List Int32) (k : Nat) : List Int32 := (a (5 + k)).take (s (12 + 2 * k)).toNatClampNeg
theorem xrow_len {s : Nat → Int32} {a : Nat → List Int32} {k : Nat} (hk : k < 4) (hL : xL a) (hS : xS s) : s (12 + 2 * k) = nI (xrow s a k).length ∧ (xrow s a k).length ≤ 40 := by
  have h := hS k hk
  have t := tnc h.1
  unfold xrow
  rw [List.length_take, hL.2.2.2.2.2 k hk]
  refine ⟨?_, by omega⟩
  rw [show min (s (12 + 2 * k)).toNatClampNeg 40 = (s (12 + 2 * k)).toNatClampNeg by omega]
  exact nI_back h.1
theorem xrow_get {s : Nat → Int32} {a : Nat → List Int32} {k i : Nat} (hk : k < 4) (hL : xL a) (hS : xS s) (hi : i < (xrow s a k).length) : xat a s k (nI i) = (xrow s a k).getD i 0 := by
  have h := xrow_len hk hL hS
  have ti := nI_toInt (n := i) (by omega)
  have e : xhas (nI i) (s (12 + 2 * k)) = true := by
    rw [h.1]
    unfold xhas
    simp only [Bool.and_eq_true, decide_eq_true_eq, Int32.le_iff_toInt_le, Int32.lt_iff_toInt_lt, i0, show (40 : Int32).toInt = 40 from rfl, ti, nI_toInt (n := (xrow s a k).length) (by omega)]
    omega
  unfold xat
  rw [if_pos e, nIc (by omega)]
  unfold xrow at hi ⊢
  rw [List.getD_eq_getElem?_getD, List.getD_eq_getElem?_getD, List.getElem?_take, if_pos (by rw [List.length_take] at hi; omega)]
theorem drop_g {l : List Int32} {i : Nat} (h : i < l.length) : l.drop i = l.getD i 0 :: l.drop (i + 1) := by
  rw [List.drop_eq_getElem_cons h, List.getD_eq_getElem?_getD, List.getElem?_eq_getElem h]; rfl
theorem drop_e {l : List Int32} : l.drop l.length = [] := List.drop_eq_nil_of_le (Nat.le_refl _)
theorem sp_x_sizeR {s u m n : Nat → Int32} {a c b d : Nat → List Int32} {q : List (Option Nat)} {h : Nat} {z : mc_W} {k : Nat} (hk : k < 4) (hL : xL a) (hS : xS s) : mc_D yX3_size cX3_size 1 (some .int) 1 [.ref (21 + 2 * k)] (WW s a q u c h m b n d z) (some (.int (nI (xrow s a k).length))) (WW s a q u c h m b n d z) := by
  rw [← (xrow_len hk hL hS).1]
  exact sp_x_size hk
theorem sp_x_atR {s u m n : Nat → Int32} {a c b d : Nat → List Int32} {q : List (Option Nat)} {h : Nat} {z : mc_W} {k : Nat} (hk : k < 4) (hL : xL a) (hS : xS s) {i : Nat} (hi : i < (xrow s a k).length) : mc_D yX3_at cX3_at 2 (some .int) 2 [.ref (21 + 2 * k), .int (nI i)] (WW s a q u c h m b n d z) (some (.int ((xrow s a k).getD i 0))) (WW s a q u c h m b n d z) := by
  rw [← xrow_get hk hL hS hi]
  exact sp_x_at hk hL
def xbw (s : Nat → Int32) (a : Nat → List Int32) (k : Nat) : Int32 := if xmis s k = true then -11 else if (xrow s a k).all ynum = true then 0 else -2
theorem lp_x_refBook {s u m n : Nat → Int32} {a c b d : Nat → List Int32} {q : List (Option Nat)} {h : Nat} {z : mc_W} {k : Nat} (hk : k < 4) (hL : xL a) (hS : xS s) :
    ∀ (f i : Nat), i + f = (xrow s a k).length →
      mc_E RX6 cX6_refusalOfBook 5 (mc_JM (some .int) false 5 0 0 (fun r' w' => r' = some (.int (if ((xrow s a k).drop i).all ynum = true then 0 else -2)) ∧ w' = (WW s a q u c h m b n d z))) 21 [some (.ref 0), some (.int (nI k)), some (.int 0), some (.ref (21 + 2 * k)), some (.int (nI i))] [] (WW s a q u c h m b n d z) 0 0 := by
  have hl40 := (xrow_len hk hL hS).2
  intro f
  induction f with
  | zero =>
    intro i hi
    have e : i = (xrow s a k).length := by omega
    subst e
    rw [drop_e]
    refine e_iload (pc := 21) dX6_refusalOfBook_21 rfl ?_
    refine e_aloadn (pc := 23) dX6_refusalOfBook_23 rfl ?_
    refine e_cvD (pc := 24) (sp_x_sizeR hk hL hS) dX6_refusalOfBook_24 kX6_198 (WW_sh hk) rfl rfl rfl rfl (mc_CR_of (Nat.le_of_ble_eq_true rfl) (Nat.le_of_ble_eq_true rfl) (Nat.le_refl _) (Nat.le_refl _)) (Nat.le_of_ble_eq_true rfl) ?_
    refine e_icmp_ge (pc := 27) dX6_refusalOfBook_27 (t := 51) (by decide) (fun _ => ?_) (fun c_27 => absurd (nI_le (Nat.le_refl _) (by omega)) c_27)
    refine e_iconst (v := 0) (pc := 51) dX6_refusalOfBook_51 (by decide) ?_
    exact e_iret (pc := 52) dX6_refusalOfBook_52 rfl (Nat.le_refl _) (Nat.le_refl _) ⟨rfl, rfl⟩
  | succ f ih =>
    intro i hi
    have hi2 : i < (xrow s a k).length := by omega
    rw [drop_g hi2, List.all_cons]
    refine e_iload (pc := 21) dX6_refusalOfBook_21 rfl ?_
    refine e_aloadn (pc := 23) dX6_refusalOfBook_23 rfl ?_
    refine e_cvD (pc := 24) (sp_x_sizeR hk hL hS) dX6_refusalOfBook_24 kX6_198 (WW_sh hk) rfl rfl rfl rfl (mc_CR_of (Nat.le_of_ble_eq_true rfl) (Nat.le_of_ble_eq_true rfl) (Nat.le_refl _) (Nat.le_refl _)) (Nat.le_of_ble_eq_true rfl) ?_
    refine e_icmp_ge (pc := 27) dX6_refusalOfBook_27 (t := 51) (by decide) (fun c_27 => absurd c_27 (nI_ge hi2 (by omega))) (fun _ => ?_)
    refine e_aloadn (pc := 30) dX6_refusalOfBook_30 rfl ?_
    refine e_iload (pc := 31) dX6_refusalOfBook_31 rfl ?_
    refine e_cvD (pc := 33) (sp_x_atR hk hL hS hi2) dX6_refusalOfBook_33 kX6_199 (WW_sh hk) rfl rfl rfl rfl (mc_CR_of (Nat.le_of_ble_eq_true rfl) (Nat.le_of_ble_eq_true rfl) (Nat.le_refl _) (Nat.le_refl _)) (Nat.le_of_ble_eq_true rfl) ?_
    refine e_csD (pc := 36) (sp_isNumber) dX6_refusalOfBook_36 kX6_118 rfl rfl (mc_CR_of (Nat.le_of_ble_eq_true rfl) (Nat.le_of_ble_eq_true rfl) (Nat.le_refl _) (Nat.le_refl _)) (Nat.le_of_ble_eq_true rfl) ?_
    refine e_if_ne (pc := 39) dX6_refusalOfBook_39 (t := 45) (by decide) (fun c_39 => ?_) (fun c_39 => ?_)
    · skip
      refine e_incC4 (pc := 45) dX6_refusalOfBook_45 (nI_1 i) (Nat.le_of_ble_eq_true rfl) rfl ?_
      refine e_goto (pc := 48) dX6_refusalOfBook_48 (t := 21) (by decide) ?_
      rw [show ynum ((xrow s a k).getD i 0) = true from mc_b1.mp c_39, Bool.true_and]
      exact ih (i + 1) (by omega)
    · skip
      refine e_bipush (v := -2) (pc := 42) dX6_refusalOfBook_42 (by decide) ?_
      exact e_iret (pc := 44) dX6_refusalOfBook_44 rfl (Nat.le_refl _) (Nat.le_refl _) ⟨by rw [show ynum ((xrow s a k).getD i 0) = false from mc_b0.mp c_39]; rfl, rfl⟩
theorem sp_x_refBook {s u m n : Nat → Int32} {a c b d : Nat → List Int32} {q : List (Option Nat)} {h : Nat} {z : mc_W} {k : Nat} (hk : k < 4) (hL : xL a) (hS : xS s) : mc_D yX6_refusalOfBook cX6_refusalOfBook 5 (some .int) 5 [.ref 0, .int (nI k)] (WW s a q u c h m b n d z) (some (.int (xbw s a k))) (WW s a q u c h m b n d z) := by
  refine mc_start (own := RX6) (ini := false) rfl (by decide +kernel) (fun h => by cases h) (Nat.le_of_ble_eq_true rfl) ?_
  show mc_E _ _ _ _ _ [some (.ref 0), some (.int (nI k)), none, none, none] [] _ _ _
  refine e_aloadn (pc := 0) dX6_refusalOfBook_0 rfl ?_
  refine e_iloadn (pc := 1) dX6_refusalOfBook_1 rfl ?_
  refine e_cvD (pc := 2) (sp_x_refSheet hk) dX6_refusalOfBook_2 kX6_228 rfl rfl rfl rfl rfl (mc_CR_of (Nat.le_of_ble_eq_true rfl) (Nat.le_of_ble_eq_true rfl) (Nat.le_refl _) (Nat.le_refl _)) (Nat.le_of_ble_eq_true rfl) ?_
  refine e_isn2 (pc := 5) dX6_refusalOfBook_5 (Nat.le_of_ble_eq_true rfl) rfl ?_
  refine e_iloadn (pc := 6) dX6_refusalOfBook_6 rfl ?_
  refine e_if_eq (pc := 7) dX6_refusalOfBook_7 (t := 12) (by decide) (fun c_7 => ?_) (fun c_7 => ?_)
  · skip
    refine e_aloadn (pc := 12) dX6_refusalOfBook_12 rfl ?_
    refine e_iloadn (pc := 13) dX6_refusalOfBook_13 rfl ?_
    refine e_cvD (pc := 14) (sp_x_sheetAt hk) dX6_refusalOfBook_14 kX6_171 rfl rfl rfl rfl rfl (mc_CR_of (Nat.le_of_ble_eq_true rfl) (Nat.le_of_ble_eq_true rfl) (Nat.le_refl _) (Nat.le_refl _)) (Nat.le_of_ble_eq_true rfl) ?_
    refine e_asn3 (pc := 17) dX6_refusalOfBook_17 (Nat.le_of_ble_eq_true rfl) rfl ?_
    refine e_iconst (v := 0) (pc := 18) dX6_refusalOfBook_18 (by decide) ?_
    refine e_isw4 (pc := 19) dX6_refusalOfBook_19 (Nat.le_of_ble_eq_true rfl) rfl ?_
    have hm : ¬ xmis s k = true := fun q => by rw [if_pos q] at c_7; exact absurd c_7 (by decide)
    have eb : xbw s a k = if ((xrow s a k).drop 0).all ynum = true then 0 else -2 := if_neg hm
    rw [eb, if_neg hm]
    exact lp_x_refBook hk hL hS (xrow s a k).length 0 (by omega)
  · skip
    refine e_iloadn (pc := 10) dX6_refusalOfBook_10 rfl ?_
    exact e_iret (pc := 11) dX6_refusalOfBook_11 rfl (Nat.le_refl _) (Nat.le_refl _) ⟨by unfold xbw; by_cases hm : xmis s k = true <;> simp_all, rfl⟩
theorem sp_x_refBook0 {s u m n : Nat → Int32} {a c b d : Nat → List Int32} {q : List (Option Nat)} {h : Nat} {z : mc_W} {v : Int32} (hv : mc_wi v 0 3 = false) : mc_D yX6_refusalOfBook cX6_refusalOfBook 5 (some .int) 5 [.ref 0, .int v] (WW s a q u c h m b n d z) (some (.int (-2))) (WW s a q u c h m b n d z) := by
  refine mc_start (own := RX6) (ini := false) rfl (by decide +kernel) (fun h => by cases h) (Nat.le_of_ble_eq_true rfl) ?_
  show mc_E _ _ _ _ _ [some (.ref 0), some (.int v), none, none, none] [] _ _ _
  refine e_aloadn (pc := 0) dX6_refusalOfBook_0 rfl ?_
  refine e_iloadn (pc := 1) dX6_refusalOfBook_1 rfl ?_
  refine e_cvD (pc := 2) (sp_x_refSheet0 hv) dX6_refusalOfBook_2 kX6_228 rfl rfl rfl rfl rfl (mc_CR_of (Nat.le_of_ble_eq_true rfl) (Nat.le_of_ble_eq_true rfl) (Nat.le_refl _) (Nat.le_refl _)) (Nat.le_of_ble_eq_true rfl) ?_
  refine e_isn2 (pc := 5) dX6_refusalOfBook_5 (Nat.le_of_ble_eq_true rfl) rfl ?_
  refine e_iloadn (pc := 6) dX6_refusalOfBook_6 rfl ?_
  refine e_if_eq (pc := 7) dX6_refusalOfBook_7 (t := 12) (by decide) (fun c_7 => absurd c_7 (by decide)) (fun _ => ?_)
  refine e_iloadn (pc := 10) dX6_refusalOfBook_10 rfl ?_
  exact e_iret (pc := 11) dX6_refusalOfBook_11 rfl (Nat.le_refl _) (Nat.le_refl _) ⟨rfl, rfl⟩
def xbwy (s : Nat → Int32) (a : Nat → List Int32) (k : Nat) (j : Int32) : Int32 := if ¬ xbw s a k = 0 then xbw s a k else if mc_wi j 0 (s 2 - 1) = true then 0 else -5
theorem sp_x_refBookBy {s u m n : Nat → Int32} {a c b d : Nat → List Int32} {q : List (Option Nat)} {h : Nat} {z : mc_W} {k : Nat} (hk : k < 4) (hL : xL a) (hS : xS s) {j : Int32} (hC : yC s) : mc_D yX6_refusalOfBookBy cX6_refusalOfBookBy 4 (some .int) 6 [.ref 0, .int (nI k), .int j] (WW s a q u c h m b n d z) (some (.int (xbwy s a k j))) (WW s a q u c h m b n d z) := by
  refine mc_start (own := RX6) (ini := false) rfl (by decide +kernel) (fun h => by cases h) (Nat.le_of_ble_eq_true rfl) ?_
  show mc_E _ _ _ _ _ [some (.ref 0), some (.int (nI k)), some (.int j), none] [] _ _ _
  refine e_aloadn (pc := 0) dX6_refusalOfBookBy_0 rfl ?_
  refine e_iloadn (pc := 1) dX6_refusalOfBookBy_1 rfl ?_
  refine e_cvD (pc := 2) (sp_x_refBook hk hL hS) dX6_refusalOfBookBy_2 kX6_168 rfl rfl rfl rfl rfl (mc_CR_of (Nat.le_of_ble_eq_true rfl) (Nat.le_of_ble_eq_true rfl) (Nat.le_refl _) (Nat.le_refl _)) (Nat.le_of_ble_eq_true rfl) ?_
  refine e_isn3 (pc := 5) dX6_refusalOfBookBy_5 (Nat.le_of_ble_eq_true rfl) rfl ?_
  refine e_iloadn (pc := 6) dX6_refusalOfBookBy_6 rfl ?_
  refine e_if_eq (pc := 7) dX6_refusalOfBookBy_7 (t := 12) (by decide) (fun c_7 => ?_) (fun c_7 => ?_)
  · skip
    refine e_aloadn (pc := 12) dX6_refusalOfBookBy_12 rfl ?_
    refine e_iloadn (pc := 13) dX6_refusalOfBookBy_13 rfl ?_
    refine e_cvD (pc := 14) (sp_x_isClerk hC) dX6_refusalOfBookBy_14 kX6_115 rfl rfl rfl rfl rfl (mc_CR_of (Nat.le_of_ble_eq_true rfl) (Nat.le_of_ble_eq_true rfl) (Nat.le_refl _) (Nat.le_refl _)) (Nat.le_of_ble_eq_true rfl) ?_
    refine e_if_eq (pc := 17) dX6_refusalOfBookBy_17 (t := 24) (by decide) (fun c_17 => ?_) (fun c_17 => ?_)
    · skip
      refine e_bipush (v := -5) (pc := 24) dX6_refusalOfBookBy_24 (by decide) ?_
      exact e_iret (pc := 26) dX6_refusalOfBookBy_26 rfl (Nat.le_refl _) (Nat.le_refl _) ⟨by simp_all [xbwy, mc_b0, mc_b1], rfl⟩
    · skip
      refine e_iconst (v := 0) (pc := 20) dX6_refusalOfBookBy_20 (by decide) ?_
      refine e_goto (pc := 21) dX6_refusalOfBookBy_21 (t := 26) (by decide) ?_
      exact e_iret (pc := 26) dX6_refusalOfBookBy_26 rfl (Nat.le_refl _) (Nat.le_refl _) ⟨by simp_all [xbwy, mc_b0, mc_b1], rfl⟩
  · skip
    refine e_iloadn (pc := 10) dX6_refusalOfBookBy_10 rfl ?_
    exact e_iret (pc := 11) dX6_refusalOfBookBy_11 rfl (Nat.le_refl _) (Nat.le_refl _) ⟨by simp_all [xbwy, mc_b0, mc_b1], rfl⟩
theorem sp_x_refBookBy0 {s u m n : Nat → Int32} {a c b d : Nat → List Int32} {q : List (Option Nat)} {h : Nat} {z : mc_W} {v j : Int32} (hv : mc_wi v 0 3 = false) : mc_D yX6_refusalOfBookBy cX6_refusalOfBookBy 4 (some .int) 6 [.ref 0, .int v, .int j] (WW s a q u c h m b n d z) (some (.int (-2))) (WW s a q u c h m b n d z) := by
  refine mc_start (own := RX6) (ini := false) rfl (by decide +kernel) (fun h => by cases h) (Nat.le_of_ble_eq_true rfl) ?_
  show mc_E _ _ _ _ _ [some (.ref 0), some (.int v), some (.int j), none] [] _ _ _
  refine e_aloadn (pc := 0) dX6_refusalOfBookBy_0 rfl ?_
  refine e_iloadn (pc := 1) dX6_refusalOfBookBy_1 rfl ?_
  refine e_cvD (pc := 2) (sp_x_refBook0 hv) dX6_refusalOfBookBy_2 kX6_168 rfl rfl rfl rfl rfl (mc_CR_of (Nat.le_of_ble_eq_true rfl) (Nat.le_of_ble_eq_true rfl) (Nat.le_refl _) (Nat.le_refl _)) (Nat.le_of_ble_eq_true rfl) ?_
  refine e_isn3 (pc := 5) dX6_refusalOfBookBy_5 (Nat.le_of_ble_eq_true rfl) rfl ?_
  refine e_iloadn (pc := 6) dX6_refusalOfBookBy_6 rfl ?_
  refine e_if_eq (pc := 7) dX6_refusalOfBookBy_7 (t := 12) (by decide) (fun c_7 => absurd c_7 (by decide)) (fun _ => ?_)
  refine e_iloadn (pc := 10) dX6_refusalOfBookBy_10 rfl ?_
  exact e_iret (pc := 11) dX6_refusalOfBookBy_11 rfl (Nat.le_refl _) (Nat.le_refl _) ⟨rfl, rfl⟩
theorem xbw_num {s : Nat → Int32} {a : Nat → List Int32} {k : Nat} (h : xbw s a k = 0) : ∀ i, i < (xrow s a k).length → mc_wi ((xrow s a k).getD i 0) 0 99999 = true := by
  intro i hi
  unfold xbw at h
  by_cases hm : xmis s k = true
  · rw [if_pos hm] at h; exact absurd h (by decide)
  · rw [if_neg hm] at h
    by_cases ha : (xrow s a k).all ynum = true
    · rw [List.getD_eq_getElem?_getD, List.getElem?_eq_getElem hi]
      exact List.all_eq_true.mp ha _ (List.getElem_mem hi)
    · rw [if_neg ha] at h; exact absurd h (by decide)
theorem xbwy_0 {s : Nat → Int32} {a : Nat → List Int32} {k : Nat} {j : Int32} (h : xbwy s a k j = 0) : xbw s a k = 0 ∧ mc_wi j 0 (s 2 - 1) = true := by
  unfold xbwy at h
  by_cases h0 : xbw s a k = 0
  · rw [if_neg (fun q => q h0)] at h
    refine ⟨h0, ?_⟩
    by_cases hc : mc_wi j 0 (s 2 - 1) = true
    · exact hc
    · rw [if_neg hc] at h; exact absurd h (by decide)
  · rw [if_pos h0] at h; exact absurd h h0
theorem lp_x_made {s u m n : Nat → Int32} {a b d : Nat → List Int32} {q : List (Option Nat)} {h : Nat} {z : mc_W} {c0 : Nat → List Int32} {K mo nu ba ye : Int32} {sg : Nat → List Int32} {k : Nat} (hk : k < 4) (hL : xL a) (hS : xS s) {V : Int64} :
    ∀ (f i : Nat) (S : Int64) (c : Nat → List Int32), xHd q z h u c K mo nu ba ye sg → xKc c0 c → i + f = (xrow s a k).length → ((xrow s a k).drop i).foldl (fun S v => S + (hmk K mo nu ba ye sg v).toInt64) S = V →
      mc_E RX6 cX6_madeOf 5 (mc_JM (some .long) false 6 0 0 (fun r' w' => r' = some (.long V) ∧ ∃ c1, xHd q z h u c1 K mo nu ba ye sg ∧ xKc c0 c1 ∧ w' = (WW s a q u c1 h m b n d z))) 5 [some (.ref (21 + 2 * k)), some (.ref 17), some (.long S), none, some (.int (nI i))] [] (WW s a q u c h m b n d z) 0 0 := by
  have hl40 := (xrow_len hk hL hS).2
  intro f
  induction f with
  | zero =>
    intro i S c hH hk0 hi hV
    have e : i = (xrow s a k).length := by omega
    subst e
    rw [drop_e] at hV
    subst hV
    refine e_iload (pc := 5) dX6_madeOf_5 rfl ?_
    refine e_aloadn (pc := 7) dX6_madeOf_7 rfl ?_
    refine e_cvD (pc := 8) (sp_x_sizeR hk hL hS) dX6_madeOf_8 kX6_198 (WW_sh hk) rfl rfl rfl rfl (mc_CR_of (Nat.le_of_ble_eq_true rfl) (Nat.le_of_ble_eq_true rfl) (Nat.le_refl _) (Nat.le_refl _)) (Nat.le_of_ble_eq_true rfl) ?_
    refine e_icmp_ge (pc := 11) dX6_madeOf_11 (t := 34) (by decide) (fun _ => ?_) (fun c_11 => absurd (nI_le (Nat.le_refl _) (by omega)) c_11)
    refine e_lloadn (pc := 34) dX6_madeOf_34 rfl ?_
    exact e_lret (pc := 35) dX6_madeOf_35 rfl (Nat.le_refl _) (Nat.le_refl _) ⟨rfl, c, hH, hk0, rfl⟩
  | succ f ih =>
    intro i S c hH hk0 hi hV
    have hi2 : i < (xrow s a k).length := by omega
    rw [drop_g hi2, List.foldl_cons] at hV
    refine e_iload (pc := 5) dX6_madeOf_5 rfl ?_
    refine e_aloadn (pc := 7) dX6_madeOf_7 rfl ?_
    refine e_cvD (pc := 8) (sp_x_sizeR hk hL hS) dX6_madeOf_8 kX6_198 (WW_sh hk) rfl rfl rfl rfl (mc_CR_of (Nat.le_of_ble_eq_true rfl) (Nat.le_of_ble_eq_true rfl) (Nat.le_refl _) (Nat.le_refl _)) (Nat.le_of_ble_eq_true rfl) ?_
    refine e_icmp_ge (pc := 11) dX6_madeOf_11 (t := 34) (by decide) (fun c_11 => absurd c_11 (nI_ge hi2 (by omega))) (fun _ => ?_)
    refine e_lloadn (pc := 14) dX6_madeOf_14 rfl ?_
    refine e_aloadn (pc := 15) dX6_madeOf_15 rfl ?_
    refine e_aloadn (pc := 16) dX6_madeOf_16 rfl ?_
    refine e_iload (pc := 17) dX6_madeOf_17 rfl ?_
    refine e_cvD (pc := 19) (sp_x_atR hk hL hS hi2) dX6_madeOf_19 kX6_199 (WW_sh hk) rfl rfl rfl rfl (mc_CR_of (Nat.le_of_ble_eq_true rfl) (Nat.le_of_ble_eq_true rfl) (Nat.le_refl _) (Nat.le_refl _)) (Nat.le_of_ble_eq_true rfl) ?_
    refine e_cvX (pc := 22) (sp_x_makes hH) dX6_madeOf_22 kX6_157 rfl rfl rfl rfl rfl (mc_CR_of (Nat.le_of_ble_eq_true rfl) (Nat.le_of_ble_eq_true rfl) (Nat.le_refl _) (Nat.le_refl _)) (Nat.le_of_ble_eq_true rfl) (fun w1 hw1 => ?_)
    obtain ⟨c1, hH1, hk1, -, rfl⟩ := hw1
    refine e_i2l (pc := 25) dX6_madeOf_25 ?_
    refine e_ladd (pc := 26) dX6_madeOf_26 ?_
    refine e_lsn2 (pc := 27) dX6_madeOf_27 (Nat.le_of_ble_eq_true rfl) rfl ?_
    refine e_incC4 (pc := 28) dX6_madeOf_28 (nI_1 i) (Nat.le_of_ble_eq_true rfl) rfl ?_
    refine e_goto (pc := 31) dX6_madeOf_31 (t := 5) (by decide) ?_
    exact ih (i + 1) _ c1 hH1 (hk0.trans hk1) (by omega) hV
theorem sp_x_made {s u m n : Nat → Int32} {a c b d : Nat → List Int32} {q : List (Option Nat)} {h : Nat} {z : mc_W} {K mo nu ba ye : Int32} {sg : Nat → List Int32} (hH : xHd q z h u c K mo nu ba ye sg) {k : Nat} (hk : k < 4) (hL : xL a) (hS : xS s) : mc_T yX6_madeOf cX6_madeOf 5 (some .long) 6 [.ref (21 + 2 * k), .ref 17] (WW s a q u c h m b n d z) (some (.long ((xrow s a k).foldl (fun S v => S + (hmk K mo nu ba ye sg v).toInt64) 0))) (fun w1 => ∃ c1, xHd q z h u c1 K mo nu ba ye sg ∧ xKc c c1 ∧ w1 = (WW s a q u c1 h m b n d z)) := by
  refine mc_start (own := RX6) (ini := false) rfl (by decide +kernel) (fun h => by cases h) (Nat.le_of_ble_eq_true rfl) ?_
  show mc_E _ _ _ _ _ [some (.ref (21 + 2 * k)), some (.ref 17), none, none, none] [] _ _ _
  refine e_lconst (v := 0) (pc := 0) dX6_madeOf_0 (by decide) ?_
  refine e_lsn2 (pc := 1) dX6_madeOf_1 (Nat.le_of_ble_eq_true rfl) rfl ?_
  refine e_iconst (v := 0) (pc := 2) dX6_madeOf_2 (by decide) ?_
  refine e_isw4 (pc := 3) dX6_madeOf_3 (Nat.le_of_ble_eq_true rfl) rfl ?_
  exact lp_x_made hk hL hS (xrow s a k).length 0 0 c hH (xKc_refl c) (by omega) rfl
theorem lp_x_ours {s u m n : Nat → Int32} {a c b d : Nat → List Int32} {q : List (Option Nat)} {h : Nat} {z : mc_W} {k : Nat} (hk : k < 4) (hL : xL a) (hS : xS s) {V : Int64} :
    ∀ (f i : Nat) (S : Int64), i + f = (xrow s a k).length → ((xrow s a k).drop i).foldl (fun S v => S + v.toInt64) S = V →
      mc_E RX6 cX6_oursOf 4 (mc_JM (some .long) false 3 0 0 (fun r' w' => r' = some (.long V) ∧ w' = (WW s a q u c h m b n d z))) 4 [some (.ref (21 + 2 * k)), some (.long S), none, some (.int (nI i))] [] (WW s a q u c h m b n d z) 0 0 := by
  have hl40 := (xrow_len hk hL hS).2
  intro f
  induction f with
  | zero =>
    intro i S hi hV
    have e : i = (xrow s a k).length := by omega
    subst e
    rw [drop_e] at hV
    subst hV
    refine e_iloadn (pc := 4) dX6_oursOf_4 rfl ?_
    refine e_aloadn (pc := 5) dX6_oursOf_5 rfl ?_
    refine e_cvD (pc := 6) (sp_x_sizeR hk hL hS) dX6_oursOf_6 kX6_198 (WW_sh hk) rfl rfl rfl rfl (mc_CR_of (Nat.le_of_ble_eq_true rfl) (Nat.le_of_ble_eq_true rfl) (Nat.le_refl _) (Nat.le_refl _)) (Nat.le_of_ble_eq_true rfl) ?_
    refine e_icmp_ge (pc := 9) dX6_oursOf_9 (t := 27) (by decide) (fun _ => ?_) (fun c_9 => absurd (nI_le (Nat.le_refl _) (by omega)) c_9)
    refine e_lloadn (pc := 27) dX6_oursOf_27 rfl ?_
    exact e_lret (pc := 28) dX6_oursOf_28 rfl (Nat.le_refl _) (Nat.le_refl _) ⟨rfl, rfl⟩
  | succ f ih =>
    intro i S hi hV
    have hi2 : i < (xrow s a k).length := by omega
    rw [drop_g hi2, List.foldl_cons] at hV
    refine e_iloadn (pc := 4) dX6_oursOf_4 rfl ?_
    refine e_aloadn (pc := 5) dX6_oursOf_5 rfl ?_
    refine e_cvD (pc := 6) (sp_x_sizeR hk hL hS) dX6_oursOf_6 kX6_198 (WW_sh hk) rfl rfl rfl rfl (mc_CR_of (Nat.le_of_ble_eq_true rfl) (Nat.le_of_ble_eq_true rfl) (Nat.le_refl _) (Nat.le_refl _)) (Nat.le_of_ble_eq_true rfl) ?_
    refine e_icmp_ge (pc := 9) dX6_oursOf_9 (t := 27) (by decide) (fun c_9 => absurd c_9 (nI_ge hi2 (by omega))) (fun _ => ?_)
    refine e_lloadn (pc := 12) dX6_oursOf_12 rfl ?_
    refine e_aloadn (pc := 13) dX6_oursOf_13 rfl ?_
    refine e_iloadn (pc := 14) dX6_oursOf_14 rfl ?_
    refine e_cvD (pc := 15) (sp_x_atR hk hL hS hi2) dX6_oursOf_15 kX6_199 (WW_sh hk) rfl rfl rfl rfl (mc_CR_of (Nat.le_of_ble_eq_true rfl) (Nat.le_of_ble_eq_true rfl) (Nat.le_refl _) (Nat.le_refl _)) (Nat.le_of_ble_eq_true rfl) ?_
    refine e_i2l (pc := 18) dX6_oursOf_18 ?_
    refine e_ladd (pc := 19) dX6_oursOf_19 ?_
    refine e_lsn1 (pc := 20) dX6_oursOf_20 (Nat.le_of_ble_eq_true rfl) rfl ?_
    refine e_incC3 (pc := 21) dX6_oursOf_21 (nI_1 i) (Nat.le_of_ble_eq_true rfl) rfl ?_
    refine e_goto (pc := 24) dX6_oursOf_24 (t := 4) (by decide) ?_
    exact ih (i + 1) _ (by omega) hV
theorem sp_x_ours {s u m n : Nat → Int32} {a c b d : Nat → List Int32} {q : List (Option Nat)} {h : Nat} {z : mc_W} {k : Nat} (hk : k < 4) (hL : xL a) (hS : xS s) : mc_D yX6_oursOf cX6_oursOf 4 (some .long) 3 [.ref (21 + 2 * k)] (WW s a q u c h m b n d z) (some (.long ((xrow s a k).foldl (fun S v => S + v.toInt64) 0))) (WW s a q u c h m b n d z) := by
  refine mc_start (own := RX6) (ini := false) rfl (by decide +kernel) (fun h => by cases h) (Nat.le_of_ble_eq_true rfl) ?_
  show mc_E _ _ _ _ _ [some (.ref (21 + 2 * k)), none, none, none] [] _ _ _
  refine e_lconst (v := 0) (pc := 0) dX6_oursOf_0 (by decide) ?_
  refine e_lsn1 (pc := 1) dX6_oursOf_1 (Nat.le_of_ble_eq_true rfl) rfl ?_
  refine e_iconst (v := 0) (pc := 2) dX6_oursOf_2 (by decide) ?_
  refine e_isn3 (pc := 3) dX6_oursOf_3 (Nat.le_of_ble_eq_true rfl) rfl ?_
  exact lp_x_ours hk hL hS (xrow s a k).length 0 0 (by omega) rfl
theorem lp_x_ffor {s m n : Nat → Int32} {a b d : Nat → List Int32} {q : List (Option Nat)} {h : Nat} {z : mc_W} {c0 : Nat → List Int32} {K mo nu ba ye : Int32} {sg : Nat → List Int32} {k : Nat} (hk : k < 4) (hL : xL a) (hS : xS s) {V : Int32} (hN : ∀ i, i < (xrow s a k).length → mc_wi ((xrow s a k).getD i 0) 0 99999 = true) :
    ∀ (f i : Nat) (S : Int32) (u : Nat → Int32) (c : Nat → List Int32), xHd q z h u c K mo nu ba ye sg → xKc c0 c → i + f = (xrow s a k).length → ((xrow s a k).drop i).foldl (fun S v => S + nI (hwr K mo nu ba ye sg v).length) S = V →
      mc_E RX6 cX6_figuresFor 4 (mc_JM (some .int) false 7 0 0 (fun r' w' => r' = some (.int V) ∧ ∃ u1 c1, xHd q z h u1 c1 K mo nu ba ye sg ∧ xKc c0 c1 ∧ w' = (WW s a q u1 c1 h m b n d z))) 4 [some (.ref (21 + 2 * k)), some (.ref 17), some (.int S), some (.int (nI i))] [] (WW s a q u c h m b n d z) 0 0 := by
  have hl40 := (xrow_len hk hL hS).2
  intro f
  induction f with
  | zero =>
    intro i S u c hH hk0 hi hV
    have e : i = (xrow s a k).length := by omega
    subst e
    rw [drop_e] at hV
    subst hV
    refine e_iloadn (pc := 4) dX6_figuresFor_4 rfl ?_
    refine e_aloadn (pc := 5) dX6_figuresFor_5 rfl ?_
    refine e_cvD (pc := 6) (sp_x_sizeR hk hL hS) dX6_figuresFor_6 kX6_198 (WW_sh hk) rfl rfl rfl rfl (mc_CR_of (Nat.le_of_ble_eq_true rfl) (Nat.le_of_ble_eq_true rfl) (Nat.le_refl _) (Nat.le_refl _)) (Nat.le_of_ble_eq_true rfl) ?_
    refine e_icmp_ge (pc := 9) dX6_figuresFor_9 (t := 34) (by decide) (fun _ => ?_) (fun c_9 => absurd (nI_le (Nat.le_refl _) (by omega)) c_9)
    refine e_iloadn (pc := 34) dX6_figuresFor_34 rfl ?_
    exact e_iret (pc := 35) dX6_figuresFor_35 rfl (Nat.le_refl _) (Nat.le_refl _) ⟨rfl, u, c, hH, hk0, rfl⟩
  | succ f ih =>
    intro i S u c hH hk0 hi hV
    have hi2 : i < (xrow s a k).length := by omega
    rw [drop_g hi2, List.foldl_cons] at hV
    refine e_iloadn (pc := 4) dX6_figuresFor_4 rfl ?_
    refine e_aloadn (pc := 5) dX6_figuresFor_5 rfl ?_
    refine e_cvD (pc := 6) (sp_x_sizeR hk hL hS) dX6_figuresFor_6 kX6_198 (WW_sh hk) rfl rfl rfl rfl (mc_CR_of (Nat.le_of_ble_eq_true rfl) (Nat.le_of_ble_eq_true rfl) (Nat.le_refl _) (Nat.le_refl _)) (Nat.le_of_ble_eq_true rfl) ?_
    refine e_icmp_ge (pc := 9) dX6_figuresFor_9 (t := 34) (by decide) (fun c_9 => absurd c_9 (nI_ge hi2 (by omega))) (fun _ => ?_)
    refine e_aloadn (pc := 12) dX6_figuresFor_12 rfl ?_
    refine e_aloadn (pc := 13) dX6_figuresFor_13 rfl ?_
    refine e_iloadn (pc := 14) dX6_figuresFor_14 rfl ?_
    refine e_cvD (pc := 15) (sp_x_atR hk hL hS hi2) dX6_figuresFor_15 kX6_199 (WW_sh hk) rfl rfl rfl rfl (mc_CR_of (Nat.le_of_ble_eq_true rfl) (Nat.le_of_ble_eq_true rfl) (Nat.le_refl _) (Nat.le_refl _)) (Nat.le_of_ble_eq_true rfl) ?_
    refine e_cvY (pc := 18) (sp_x_write hH (hH.mk (wi_num (hN i hi2)))) dX6_figuresFor_18 kX6_135 rfl rfl rfl rfl rfl (mc_CR_of (Nat.le_of_ble_eq_true rfl) (Nat.le_of_ble_eq_true rfl) (Nat.le_refl _) (Nat.le_refl _)) (Nat.le_of_ble_eq_true rfl) (fun w1 hw1 => ?_)
    obtain ⟨u1, c1, hH1, hk1, hF1, rfl⟩ := hw1
    refine e_iloadn (pc := 21) dX6_figuresFor_21 rfl ?_
    refine e_aloadn (pc := 22) dX6_figuresFor_22 rfl ?_
    refine e_cvD (pc := 23) (sp_x_many) dX6_figuresFor_23 kX6_138 rfl rfl rfl rfl rfl (mc_CR_of (Nat.le_of_ble_eq_true rfl) (Nat.le_of_ble_eq_true rfl) (Nat.le_refl _) (Nat.le_refl _)) (Nat.le_of_ble_eq_true rfl) ?_
    rw [hF1.1]
    refine e_iadd (pc := 26) dX6_figuresFor_26 ?_
    refine e_isn2 (pc := 27) dX6_figuresFor_27 (Nat.le_of_ble_eq_true rfl) rfl ?_
    refine e_incC3 (pc := 28) dX6_figuresFor_28 (nI_1 i) (Nat.le_of_ble_eq_true rfl) rfl ?_
    refine e_goto (pc := 31) dX6_figuresFor_31 (t := 4) (by decide) ?_
    exact ih (i + 1) _ u1 c1 hH1 (hk0.trans hk1) (by omega) hV
theorem sp_x_ffor {s u m n : Nat → Int32} {a c b d : Nat → List Int32} {q : List (Option Nat)} {h : Nat} {z : mc_W} {K mo nu ba ye : Int32} {sg : Nat → List Int32} (hH : xHd q z h u c K mo nu ba ye sg) {k : Nat} (hk : k < 4) (hL : xL a) (hS : xS s) (hN : ∀ i, i < (xrow s a k).length → mc_wi ((xrow s a k).getD i 0) 0 99999 = true) : mc_T yX6_figuresFor cX6_figuresFor 4 (some .int) 7 [.ref (21 + 2 * k), .ref 17] (WW s a q u c h m b n d z) (some (.int ((xrow s a k).foldl (fun S v => S + nI (hwr K mo nu ba ye sg v).length) 0))) (fun w1 => ∃ u1 c1, xHd q z h u1 c1 K mo nu ba ye sg ∧ xKc c c1 ∧ w1 = (WW s a q u1 c1 h m b n d z)) := by
  refine mc_start (own := RX6) (ini := false) rfl (by decide +kernel) (fun h => by cases h) (Nat.le_of_ble_eq_true rfl) ?_
  show mc_E _ _ _ _ _ [some (.ref (21 + 2 * k)), some (.ref 17), none, none] [] _ _ _
  refine e_iconst (v := 0) (pc := 0) dX6_figuresFor_0 (by decide) ?_
  refine e_isn2 (pc := 1) dX6_figuresFor_1 (Nat.le_of_ble_eq_true rfl) rfl ?_
  refine e_iconst (v := 0) (pc := 2) dX6_figuresFor_2 (by decide) ?_
  refine e_isn3 (pc := 3) dX6_figuresFor_3 (Nat.le_of_ble_eq_true rfl) rfl ?_
  exact lp_x_ffor hk hL hS hN (xrow s a k).length 0 0 u c hH (xKc_refl c) (by omega) rfl
