/-! ===== film, on both sides ===== -/
theorem fok_eq {s : Nat → Int32} {k : Nat} {j fr sm : Int32} (hk : k < 4) : yfmc (Ms s) (nI k) j fr sm = xfok s j fr sm := by
  unfold yfmc xfok
  rw [wi_nk hk, Bool.true_and]
  show (mc_wi j 0 (s 2 - 1) && mc_wi fr 0 999 && mc_wi sm 0 9920 && decide (sm - sm / 100 * 100 ≤ 20)) = _
  rw [Bool.and_assoc, Bool.and_assoc]
  congr 1
  congr 1
  by_cases h0 : 0 ≤ sm.toInt
  · obtain ⟨P, hP, rfl⟩ : ∃ P : Nat, P < 2 ^ 31 ∧ sm = nI P := ⟨sm.toNatClampNeg, by have := tnc h0; have := Int32.toInt_lt sm; omega, nI_back h0⟩
    have eS : nI P / 100 = nI (P / 100) := pk_div (a := P) (d := 100) (by omega) (by decide) (by decide)
    have eR : nI P - nI P / 100 * 100 = nI (P % 100) := pk_rem (a := P) (d := 100) (by omega) (by decide) (by decide)
    rw [eR, eS, Bool.eq_iff_iff, Bool.and_eq_true, Bool.and_eq_true, Bool.and_eq_true, mc_wi_iff, decide_eq_true_eq, decide_eq_true_eq, decide_eq_true_eq, Int32.le_iff_toInt_le, Int32.le_iff_toInt_le, Int32.le_iff_toInt_le, nI_toInt (by omega), nI_toInt (by omega), nI_toInt (by omega), i0, show (9920 : Int32).toInt = 9920 from rfl, show (20 : Int32).toInt = 20 from rfl, show (99 : Int32).toInt = 99 from rfl]
    omega
  · rw [show mc_wi sm 0 9920 = false by rw [← Bool.not_eq_true, mc_wi_iff, i0]; omega, show decide (0 ≤ sm) = false from decide_eq_false (by rw [Int32.le_iff_toInt_le, i0]; exact h0)]
    rfl
theorem eq_film {s : Nat → Int32} {a : Nat → List Int32} {t3 t4 t5 : List Int32} {k : Nat} {j fr sm : Int32} (hk : k < 4) (hL : xL a) :
    yfm1 (Ms s) (nI k) j fr sm = xf1 s j fr sm ∧ Ms (xfs s k j fr sm) = Ms s ∧ yfmb (Ms s) (Bs s a t3 t4 t5) (nI k) j fr sm = Bs (xfs s k j fr sm) (xfa s a (yseg (Bs s a t3 t4 t5) (tl s)) k j fr sm) t3 t4 t5 := by
  have ok := fok_eq (s := s) (j := j) (fr := fr) (sm := sm) hk
  refine ⟨?_, ?_, ?_⟩
  · unfold yfm1 xf1
    rw [if_neg (by rw [wi_nk hk]; decide)]
    show (if mc_wi j 0 (s 2 - 1) = false then (-5 : Int32) else _) = _
    by_cases h : mc_wi j 0 (s 2 - 1) = false
    · rw [if_pos h, if_pos h]
    · rw [if_neg h, if_neg h, ← ok]
      rw [Bool.not_eq_false] at h
      unfold yfmc
      by_cases c : mc_wi fr 0 999 = false ∨ mc_wi sm 0 9920 = false ∨ 20 < sm - sm / 100 * 100
      · rw [if_pos c, if_neg]
        intro q
        simp only [Bool.and_eq_true, decide_eq_true_eq] at q
        rcases c with c | c | c
        · rw [c] at q; exact absurd q.1.1.2 (by decide)
        · rw [c] at q; exact absurd q.1.2 (by decide)
        · exact absurd c (Int32.not_lt.mpr q.2)
      · rw [if_neg c, if_pos]
        have c1 : mc_wi fr 0 999 = true := by rw [← Bool.not_eq_false]; exact fun q => c (Or.inl q)
        have c2 : mc_wi sm 0 9920 = true := by rw [← Bool.not_eq_false]; exact fun q => c (Or.inr (Or.inl q))
        have c3 : sm - sm / 100 * 100 ≤ 20 := Int32.not_lt.mp (fun q => c (Or.inr (Or.inr q)))
        rw [wi_nk hk, c1, c2, decide_eq_true c3]
        show (true && mc_wi j 0 (s 2 - 1) && true && true && true) = true
        rw [h]; rfl
  · unfold xfs
    split
    · exact Ms_hi (fun p hp => by unfold xbs; rw [upn (by omega), upn (by omega)])
    · rfl
  · unfold yfmb xfs xfa
    rw [ok]
    by_cases h : xfok s j fr sm = true
    · rw [if_pos h, if_pos h, if_pos h]
      rw [← ok] at h
      unfold yfmc at h
      simp only [Bool.and_eq_true, decide_eq_true_eq] at h
      have hg := mc_wi_iff.mp h.1.2
      rw [i0, show (9920 : Int32).toInt = 9920 from rfl] at hg
      have c20 := h.2
      obtain ⟨P, hP, rfl⟩ : ∃ P : Nat, P ≤ 9920 ∧ sm = nI P := ⟨sm.toNatClampNeg, by have := tnc hg.1; omega, nI_back hg.1⟩
      have eS : nI P / 100 = nI (P / 100) := pk_div (a := P) (d := 100) (by omega) (by decide) (by decide)
      have eR : nI P - nI P / 100 * 100 = nI (P % 100) := pk_rem (a := P) (d := 100) (by omega) (by decide) (by decide)
      have hR : P % 100 ≤ 20 := by
        rw [eR, Int32.le_iff_toInt_le, nI_toInt (by omega), show (20 : Int32).toInt = 20 from rfl] at c20
        omega
      have l5 := hL.2.2.2.2.2 k hk
      unfold yfmx xbs
      rw [eR, eS, (xh2' (L := P % 100) (by omega)).2.2.1, xcl_in (by rw [nI_toInt (by omega)]; omega) (by rw [nI_toInt (by omega)]; omega), nIc (n := k) (by omega), nIc (n := P / 100) (by omega), nIc (n := P % 100) (by omega)]
      have f := yzr_fil hk 40 0 a hL (by omega)
      have f2 := xfil_all (x := 0) (l := a (5 + k))
      rw [l5] at f2
      rw [f2] at f
      have g := yflm_fl (m := Ms s) (b := Bs s a t3 t4 t5) (j := j) (k := k) (F := fr.toNatClampNeg) (S := P / 100) hk (P % 100) 0 (mc_up a (5 + k) (List.replicate 40 0)) (hL.up (List.length_replicate)) (by omega)
      rw [up_up, up_at] at g
      rw [Bs_c9, f, g, Bs_9 hk, Bs_78 hk]
      rfl
    · rw [if_neg h, if_neg h, if_neg h]
