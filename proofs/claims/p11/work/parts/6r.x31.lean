/-! ===== the two readings go together ===== -/
/-- what cannot stand next behind a reader of rank r -/
def xFo (r : Int32) (R : xR) (S O : List Int32) (P : Int32) : Prop :=
  (r ≤ 6 → xtk1 R ≠ -18) ∧ (r ≤ 5 → xtk1 R ≠ -16 ∧ xtk1 R ≠ -17) ∧ (r ≤ 4 → (xtk1 R = -14 → (ybt 14 S O P).1 = false) ∧ (xtk1 R = -15 → (ybt 15 S O P).1 = false)) ∧ (r ≤ 2 → xtk1 R ≠ -12) ∧ (r ≤ 1 → xtk1 R ≠ -11)
/-- from X, what the class says and what the other side comes to -/
def xgo (T : Nat → Int32) (N A : Nat) (r : Int32) (Q : List Int32 → List Int32 × List Int32 × Int32) (X : Bool × Nat × Nat × List Int32 × List Int32 × Int32) (res : Bool × xR × List Int32) : Prop :=
  (res.1 = true → ∃ f A1 my S O P oy, X = yer T N f A1 false my S O P ∧ res.2.1 = ynx T N A1 ∧ A ≤ A1 ∧ A1 ≤ N ∧ N + 1 ≤ f + A1 ∧ yuw r S O P = Q oy ∧ res.2.2 = oy.map cm ∧ xFo r res.2.1 S O P) ∧
  (res.1 = false → X.1 = false ∧ X.2.2.1 = res.2.1.1)
def xsim (T : Nat → Int32) (N : Nat) (r top : Int32) (nt : Bool) (op : Int32) (p : xP) : Prop :=
  ∀ f A my st oy, A ≤ N → N + 1 ≤ f + A → yst top st → (nt = true → my = true) → (nt = false → my = true → xtk1 (ynx T N A) ≠ -13) → oy.length + 1 ≤ (ynx T N A).1 →
    xgo T N A r (fun o => yuw r st o op) (yer T N f A true my st oy op) (p (ynx T N A) (oy.map cm))
theorem yst_le {r r2 : Int32} {st : List Int32} (h : yst r st) (hr : r ≤ r2) : yst r2 st := fun x l e => by
  have := h x l e
  rw [Int32.lt_iff_toInt_lt] at this ⊢
  rw [Int32.le_iff_toInt_le] at hr
  omega
theorem ynx_end {T : Nat → Int32} {N A : Nat} (h : A ≤ N) (h2 : N ≤ (ynx T N A).1) : xtk1 (ynx T N A) = -26 := by
  have b := ynx_b T N A h
  have l := ynx_lt T N A h
  by_cases t0 : (ynx T N A).2.2.1 = 0
  · unfold xtk1 xtm; rw [if_pos t0]
  · have := b.2.2 t0
    omega
/-- the step of the other side at a sign -/
theorem yer_sg {T : Nat → Int32} {N f A : Nat} {my : Bool} {S O : List Int32} {P sg : Int32} (h59 : (ynx T N A).2.2.1 ≠ 59) (h41 : (ynx T N A).2.2.1 ≠ 41) (hs : ysg (ynx T N A).2.2.1 = sg) (h1 : sg ≠ -1) (hb : (ybt sg S O P).1 = true) :
    yer T N (f + 1) A false my S O P = yer T N f (ynx T N A).2.1 true (decide (sg ≤ 12)) (ybt sg S O P).2.1 (ybt sg S O P).2.2.1 (ybt sg S O P).2.2.2 := by
  subst hs
  simp only [yer]
  rw [if_neg h59, if_neg h41, if_neg h1, if_neg (show ¬ (ybt (ysg (ynx T N A).2.2.1) S O P).1 = false by rw [hb]; decide)]
theorem ybt_ok {sg : Int32} {S O st oy : List Int32} {P op r : Int32} (hr : yy_rk sg = r) (h4 : r ≠ 4) (h : yuw r S O P = (st, oy, op)) : ybt sg S O P = (true, sg :: st, oy, op) := by
  subst hr
  unfold ybt
  rw [if_neg h4, h]
  cases st with
  | nil => rfl
  | cons x l =>
    show ybt2 sg oy op (x :: l) = _
    simp only [ybt2]
    rw [if_neg (fun q => h4 q.1)]
theorem xlp_go {T : Nat → Int32} {N : Nat} {r rp tp op : Int32} {nt : Bool} {p : xP} {M : Int32 → Bool} (hN : N ≤ 160) (hp : xsim T N rp tp nt op p) (hg : xgd T N p) (h4 : r ≠ 4) (hrp : r < rp) (htp : r < tp) (hM26 : M (-26) = false)
    (hM : ∀ R, xok R → M (xtk1 R) = true → ∃ sg, ysg R.2.2.1 = sg ∧ sg ≠ -1 ∧ R.2.2.1 ≠ 59 ∧ R.2.2.1 ≠ 41 ∧ R.2.2.1 ≠ 0 ∧ yy_rk sg = r ∧ cm sg = xtk1 R ∧ ¬ (sg = 13 ∨ sg = 19) ∧ (nt = true → sg ≤ 12) ∧ (nt = false → ¬ sg ≤ 12))
    (hF : ∀ R S O P, xFo rp R S O P → M (xtk1 R) = false → xFo r R S O P) {st : List Int32} (hst : yst r st) :
    ∀ i f A my S O P oy, A ≤ N → N + 1 ≤ f + A → yuw r S O P = (st, oy, op) → xFo rp (ynx T N A) S O P → oy.length + 1 ≤ (ynx T N A).1 → 160 ≤ i + (ynx T N A).1 →
      xgo T N A r (fun o => (st, o, op)) (yer T N f A false my S O P) (xlp T N p M i (ynx T N A) (oy.map cm)) := by
  intro i
  induction i with
  | zero =>
    intro f A my S O P oy hA hf hy hFo hl hi
    have e := ynx_end (T := T) hA (by omega)
    refine ⟨fun _ => ⟨f, A, my, S, O, P, oy, rfl, rfl, Nat.le_refl _, hA, hf, hy, rfl, hF _ _ _ _ hFo (by show M (xtk1 (ynx T N A)) = false; rw [e]; exact hM26)⟩, fun q => by cases (show true = false from q)⟩
  | succ i ih =>
    intro f A my S O P oy hA hf hy hFo hl hi
    simp only [xlp]
    by_cases hm : M (xtk1 (ynx T N A)) = true
    · rw [if_pos hm]
      obtain ⟨sg, s1, s2, s3, s4, s0, s5, s6, s7, s8, s9⟩ := hM _ (ynx_ok T N A) hm
      have nl := ynx_lt T N A hA
      have nb := ynx_b T N A hA
      have n0 := nl.2.2 s0
      have b0 := nb.2.2 s0
      obtain ⟨f0, rfl⟩ : ∃ f0, f = f0 + 1 := ⟨f - 1, by omega⟩
      have eb := ybt_ok s5 h4 hy
      have ey := yer_sg (f := f0) (my := my) s3 s4 s1 s2 (by rw [eb])
      rw [eb] at ey
      dsimp only at ey
      have nb2 := ynx_b T N _ nl.2.1
      have hs := hp f0 (ynx T N A).2.1 (decide (sg ≤ 12)) (sg :: st) oy nl.2.1 (by omega) (fun x l e => by cases e; rw [s5]; exact htp) (fun q => decide_eq_true (s8 q)) (fun q q2 => absurd (of_decide_eq_true q2) (s9 q)) (by omega)
      have gg := hg (ynx T N (ynx T N A).2.1) (oy.map cm) 2 ⟨_, nl.2.1, rfl⟩ (by rw [List.length_map]; omega)
      rw [← ey] at hs
      generalize p (ynx T N (ynx T N A).2.1) (oy.map cm) = res at hs gg ⊢
      by_cases h2 : res.1 = true
      · rw [if_pos h2]
        obtain ⟨f2, A2, my2, S2, O2, P2, oy2, e1, e2, e3, e4, e5, e6, e7, e8⟩ := hs.1 h2
        have e6 : yuw rp S2 O2 P2 = (sg :: st, oy2, op) := e6.trans (yuw_st (fun x l e => by cases e; rw [s5]; exact hrp))
        have er : yuw r S2 O2 P2 = (st, oy2 ++ [sg], op) := by
          rw [← yuw_two (le := r) (r := rp) (by rw [Int32.le_iff_toInt_le]; rw [Int32.lt_iff_toInt_lt] at hrp; omega) S2 O2 P2, e6]
          show yuw r (sg :: st) oy2 op = _
          simp only [yuw]
          rw [if_neg (show ¬ yy_rk sg < r by rw [s5]; exact Int32.lt_irrefl), if_neg s7, Int32.sub_zero]
          exact yuw_st hst
        have gl := gg.2
        rw [e7, e2, List.length_map] at gl
        have nb3 := ynx_b T N A2 e4
        have ep : xput res.2.2 (xtk1 (ynx T N A)) = (oy2 ++ [sg]).map cm := by
          unfold xput
          rw [e7, if_pos (by rw [List.length_map]; omega), List.map_append, ← s6]
          rfl
        rw [ep, e2, e1]
        rw [e2] at e8
        have K := ih f2 A2 my2 S2 O2 P2 (oy2 ++ [sg]) e4 e5 er e8 (by rw [List.length_append]; show oy2.length + 1 + 1 ≤ _; omega) (by omega)
        refine ⟨fun q => ?_, K.2⟩
        obtain ⟨f3, A3, my3, S3, O3, P3, oy3, k1, k2, k3, k4⟩ := K.1 q
        exact ⟨f3, A3, my3, S3, O3, P3, oy3, k1, k2, by omega, k4⟩
      · rw [if_neg h2]
        have h2f : res.1 = false := by rwa [Bool.not_eq_true] at h2
        exact ⟨(fun q => by cases (show false = true from q)), fun _ => hs.2 h2f⟩
    · rw [if_neg hm]
      rw [Bool.not_eq_true] at hm
      exact ⟨fun _ => ⟨f, A, my, S, O, P, oy, rfl, rfl, Nat.le_refl _, hA, hf, hy, rfl, hF _ _ _ _ hFo hm⟩, fun q => by cases (show true = false from q)⟩
theorem xrow_go {T : Nat → Int32} {N : Nat} {r rp tp op : Int32} {nt : Bool} {p : xP} {M : Int32 → Bool} (hN : N ≤ 160) (hp : xsim T N rp tp nt op p) (hg : xgd T N p) (h4 : r ≠ 4) (hrp : r < rp) (htp : r < tp) (hM26 : M (-26) = false)
    (hM : ∀ R, xok R → M (xtk1 R) = true → ∃ sg, ysg R.2.2.1 = sg ∧ sg ≠ -1 ∧ R.2.2.1 ≠ 59 ∧ R.2.2.1 ≠ 41 ∧ R.2.2.1 ≠ 0 ∧ yy_rk sg = r ∧ cm sg = xtk1 R ∧ ¬ (sg = 13 ∨ sg = 19) ∧ (nt = true → sg ≤ 12) ∧ (nt = false → ¬ sg ≤ 12))
    (hF : ∀ R S O P, xFo rp R S O P → M (xtk1 R) = false → xFo r R S O P) : xsim T N r r nt op (xrow1 T N p M) := by
  intro f A my st oy hA hf hst hmy hmn hl
  have le1 : r ≤ rp := by rw [Int32.le_iff_toInt_le]; rw [Int32.lt_iff_toInt_lt] at hrp; omega
  have le2 : r ≤ tp := by rw [Int32.le_iff_toInt_le]; rw [Int32.lt_iff_toInt_lt] at htp; omega
  have hs := hp f A my st oy hA hf (yst_le hst le2) hmy hmn hl
  have gg := hg (ynx T N A) (oy.map cm) 1 ⟨A, hA, rfl⟩ (by rw [List.length_map]; omega)
  unfold xrow1
  generalize p (ynx T N A) (oy.map cm) = res at hs gg ⊢
  by_cases h2 : res.1 = true
  · rw [if_pos h2]
    obtain ⟨f2, A2, my2, S2, O2, P2, oy2, e1, e2, e3, e4, e5, e6, e7, e8⟩ := hs.1 h2
    have e6 : yuw rp S2 O2 P2 = (st, oy2, op) := e6.trans (yuw_st (yst_le hst le1))
    have er : yuw r S2 O2 P2 = (st, oy2, op) := by
      rw [← yuw_two (le := r) (r := rp) le1 S2 O2 P2, e6]
      exact yuw_st hst
    have gl := gg.2
    rw [e7, e2, List.length_map] at gl
    have nb3 := ynx_b T N A2 e4
    rw [e7, e2, e1]
    rw [e2] at e8
    have K := xlp_go (my := my2) hN hp hg h4 hrp htp hM26 hM hF hst 160 f2 A2 S2 O2 P2 oy2 e4 e5 er e8 gl (by omega)
    refine ⟨fun q => ?_, K.2⟩
    obtain ⟨f3, A3, my3, S3, O3, P3, oy3, k1, k2, k3, k4, k5, k6, k7⟩ := K.1 q
    exact ⟨f3, A3, my3, S3, O3, P3, oy3, k1, k2, by omega, k4, k5, k6.trans (yuw_st hst).symm, k7⟩
  · rw [if_neg h2]
    have h2f : res.1 = false := by rwa [Bool.not_eq_true] at h2
    exact ⟨(fun q => by cases (show false = true from q)), fun _ => hs.2 h2f⟩
