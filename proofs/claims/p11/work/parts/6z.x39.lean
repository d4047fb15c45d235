/-! ===== cells and clerks by a sheet ===== -/
theorem xhas_iff {i N : Int32} (hN : 0 ≤ N.toInt ∧ N.toInt ≤ 40) : xhas i N = true ↔ 0 ≤ i.toInt ∧ i.toInt < N.toInt := by
  unfold xhas
  simp only [Bool.and_eq_true, decide_eq_true_eq, Int32.le_iff_toInt_le, Int32.lt_iff_toInt_lt, i0, show (40 : Int32).toInt = 40 from rfl]
  omega
theorem has_wi {i N : Int32} (hN : 0 ≤ N.toInt ∧ N.toInt ≤ 40) : mc_wi i 0 (N - 1) = xhas i N := by
  have e : (N - 1).toInt = N.toInt - 1 := i32_sub (by omega) (by decide)
  rw [Bool.eq_iff_iff, mc_wi_iff, xhas_iff hN, e, i0]
  omega
theorem eq_cell {s : Nat → Int32} {a : Nat → List Int32} {t3 t4 t5 : List Int32} {k : Nat} {i v : Int32} (hk : k < 4) (hL : xL a) (hS : xS s) : ycl1 (Bs s a t3 t4 t5) (nI k) i = xcl1 s k i ∧ yclb (Bs s a t3 t4 t5) (nI k) i v = Bs s (xcla s a k i v) t3 t4 t5 := by
  have e1 : ycl1 (Bs s a t3 t4 t5) (nI k) i = xcl1 s k i := by
    unfold ycl1 xcl1
    rw [if_neg (by rw [wi_nk hk]; decide), (Bs_so hk).1, (Bs_so hk).2, has_wi (hS k hk)]
    by_cases h : s (11 + 2 * k) = -1
    · rw [if_pos h, if_pos (show xmis s k = true by unfold xmis; rw [beq_iff_eq]; exact h)]
    · rw [if_neg h, if_neg (show ¬ xmis s k = true by unfold xmis; rw [beq_iff_eq]; exact h)]
  refine ⟨e1, ?_⟩
  unfold yclb xcla
  rw [e1]
  by_cases h : xcl1 s k i = 1
  · rw [if_pos h, if_pos h]
    have hh : xhas i (s (12 + 2 * k)) = true := by
      unfold xcl1 at h
      by_cases m : xmis s k = true
      · rw [if_pos m] at h; exact absurd h (by decide)
      · rw [if_neg m] at h
        by_cases q : xhas i (s (12 + 2 * k)) = false
        · rw [if_pos q] at h; exact absurd h (by decide)
        · rwa [Bool.not_eq_false] at q
    have hr := (xhas_iff (hS k hk)).mp hh
    have h40 := (hS k hk).2
    unfold xsto
    rw [if_pos hh, Bs_9 hk]
    have ti := tnc hr.1
    obtain ⟨n, hn⟩ : ∃ n, i.toNatClampNeg = n := ⟨_, rfl⟩
    have ei : i = nI n := by rw [← hn]; exact nI_back hr.1
    have hn40 : n < 40 := by omega
    subst ei
    rw [show (40 : Int32) * nI k + nI n = nI (40 * k + n) by rw [show (40 : Int32) * nI k = nI (40 * k) from pk_mul 40 k, nI_add], nIc (by omega), nIc (by omega)]
    have ev : yclv (Bs s a t3 t4 t5) (nI k) v = xnar (s (11 + 2 * k)) v := by
      unfold yclv xnar; rw [(Bs_so hk).1]
    rw [ev, Bs_c9, cells_set hk hL hn40]
  · rw [if_neg h, if_neg h]
theorem cb_cond {fr N : Int32} {i : Nat} (hN : 0 ≤ N.toInt ∧ N.toInt ≤ 40) (hi : i < 6) (hf : 0 ≤ fr.toInt ∨ i = 0) : (fr < 0 ∨ fr + 2 * nI i < fr ∨ N - 2 < fr + 2 * nI i) ↔ (xhas (fr + 2 * nI i) N = false ∨ xhas (fr + 2 * nI i + 1) N = false) := by
  have e2 : (N - 2).toInt = N.toInt - 2 := by rw [i32_sub (by omega) (by decide)]; rfl
  rw [show (2 : Int32) * nI i = nI (2 * i) from pk_mul 2 i]
  have ti := nI_toInt (n := 2 * i) (by omega)
  have lo := Int32.le_toInt fr
  have hi31 := Int32.toInt_lt fr
  have ea : (fr + nI (2 * i)).toInt = (fr.toInt + (2 * i : Nat)).bmod 4294967296 := by rw [Int32.toInt_add, ti]
  rw [← Bool.not_eq_true, ← Bool.not_eq_true, xhas_iff hN, xhas_iff hN, Int32.lt_iff_toInt_lt, Int32.lt_iff_toInt_lt, Int32.lt_iff_toInt_lt, i0, e2]
  by_cases ov : fr.toInt + (2 * i : Nat) < 2147483648
  · have e3 : (fr + nI (2 * i)).toInt = fr.toInt + (2 * i : Nat) := by rw [ea, Int.bmod_eq_of_le] <;> omega
    by_cases o2 : fr.toInt + (2 * i : Nat) < 2147483647
    · have e4 : (fr + nI (2 * i) + 1).toInt = fr.toInt + (2 * i : Nat) + 1 := by
        rw [Int32.toInt_add, e3, i1]
        show (fr.toInt + (2 * i : Nat) + 1).bmod 4294967296 = _
        rw [Int.bmod_eq_of_le] <;> omega
      rw [e3, e4]
      omega
    · rw [e3]; omega
  · have e3 : (fr + nI (2 * i)).toInt = fr.toInt + (2 * i : Nat) - 4294967296 := by
      rw [ea, Int.bmod_def, if_neg (by omega)]; omega
    rw [e3]; omega
theorem xat_cells {s : Nat → Int32} {a : Nat → List Int32} {t3 t4 t5 : List Int32} {k : Nat} {i : Int32} (hk : k < 4) (hL : xL a) (hS : xS s) (h : xhas i (s (12 + 2 * k)) = true) : gt (Bs s a t3 t4 t5 9) (40 * nI k + i) = xat a s k i := by
  have hr := (xhas_iff (hS k hk)).mp h
  have h40 := (hS k hk).2
  have ti := tnc hr.1
  unfold xat
  rw [if_pos h]
  obtain ⟨n, hn⟩ : ∃ n, i.toNatClampNeg = n := ⟨_, rfl⟩
  have ei : i = nI n := by rw [← hn]; exact nI_back hr.1
  subst ei
  have hn40 : n < 40 := by omega
  show (Bs s a t3 t4 t5 9).getD (40 * nI k + nI n).toNatClampNeg 0 = _
  rw [show (40 : Int32) * nI k + nI n = nI (40 * k + n) by rw [show (40 : Int32) * nI k = nI (40 * k) from pk_mul 40 k, nI_add], nIc (by omega), nIc (by omega)]
  exact cells_get hk hL hn40
theorem eq_cb {t3 t4 t5 : List Int32} {k : Nat} {fr : Int32} (hk : k < 4) : ∀ g i S (s : Nat → Int32) (a : Nat → List Int32), i + g ≤ 5 → xL a → xS s → (0 ≤ fr.toInt ∨ i = 0) →
    ycb (nI k) fr g i S (Ms s) (Bs s a t3 t4 t5) = ((xcb k fr g i S s a).1, Ms (xcb k fr g i S s a).2.1, Bs (xcb k fr g i S s a).2.1 (xcb k fr g i S s a).2.2 t3 t4 t5) := by
  intro g
  induction g with
  | zero => intro i S s a hi hL hS hf; rfl
  | succ g ih =>
    intro i S s a hi hL hS hf
    simp only [ycb, xcb]
    have cc := cb_cond (fr := fr) (i := i) (hS k hk) (by omega) hf
    rw [(Bs_so hk).2]
    by_cases c : fr < 0 ∨ fr + 2 * nI i < fr ∨ s (12 + 2 * k) - 2 < fr + 2 * nI i
    · rw [if_pos c, if_pos (cc.mp c)]
    · have c2 := fun q => c (cc.mpr q)
      rw [if_neg c, if_neg c2]
      have h1 : xhas (fr + 2 * nI i) (s (12 + 2 * k)) = true := by rw [← Bool.not_eq_false]; exact fun q => c2 (Or.inl q)
      have h2 : xhas (fr + 2 * nI i + 1) (s (12 + 2 * k)) = true := by rw [← Bool.not_eq_false]; exact fun q => c2 (Or.inr q)
      rw [Int32.add_assoc (40 * nI k), xat_cells hk hL hS h1, xat_cells hk hL hS h2]
      generalize xat a s k (fr + 2 * nI i) = x
      generalize xat a s k (fr + 2 * nI i + 1) = y
      have ec := eq_clerk (s := s) (a := a) (t3 := t3) (t4 := t4) (t5 := t5) (k := x) (mo := y)
      rw [← ec.2.2, ← ec.1, ← ec.2.1]
      exact ih (i + 1) _ _ _ (by omega) (ckb_len hL) (fun p hp => by rw [ckm_o (by omega)]; exact hS p hp) (Or.inl (by
        have q : ¬ fr < 0 := fun q => c (Or.inl q)
        rw [Int32.lt_iff_toInt_lt, i0] at q
        omega))
theorem eq_cby {s : Nat → Int32} {a : Nat → List Int32} {t3 t4 t5 : List Int32} {k : Nat} {so fr n : Int32} (hk : k < 4) (hL : xL a) (hS : xS s) :
    ycby (Ms s) (Bs s a t3 t4 t5) (nI k) so fr n = ((xcby s a k so fr n).1, Ms (xcby s a k so fr n).2.1, Bs (xcby s a k so fr n).2.1 (xcby s a k so fr n).2.2 t3 t4 t5) := by
  unfold ycby xcby
  rw [wi_nk hk, Bool.true_and, (Bs_so hk).1]
  by_cases h : (mc_wi so 0 2 && mc_wi n 0 5) = false
  · rw [if_pos h, if_pos h]
  · rw [if_neg h, if_neg h]
    by_cases m : s (11 + 2 * k) = -1
    · rw [if_pos m, if_pos (show xmis s k = true by unfold xmis; rw [beq_iff_eq]; exact m)]
    · rw [if_neg m, if_neg (show ¬ xmis s k = true by unfold xmis; rw [beq_iff_eq]; exact m)]
      by_cases e : s (11 + 2 * k) = so
      · rw [if_neg (fun q => q e), if_neg (fun q => q e)]
        rw [Bool.not_eq_false, Bool.and_eq_true] at h
        have hn := mc_wi_iff.mp h.2
        rw [i0, show (5 : Int32).toInt = 5 from rfl] at hn
        have t := tnc hn.1
        exact eq_cb hk _ _ _ _ _ (by omega) hL hS (Or.inr rfl)
      · rw [if_pos e, if_pos e]
