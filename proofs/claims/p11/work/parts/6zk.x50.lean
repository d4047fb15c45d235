/-! ===== what a reader puts has the right heights ===== -/
def zq (B : Nat) : List Int32 → Nat → Option Nat
  | [], n => some n
  | x :: r, n => if -6 ≤ x then (if n < B then zq B r (n + 1) else none) else if x = -13 ∨ x = -19 then (if 1 ≤ n then zq B r n else none) else if 2 ≤ n then zq B r (n - 1) else none
theorem zq_app {B : Nat} {m : Nat} {r : List Int32} : ∀ (l : List Int32) (n : Nat), zq B l n = some m → zq B (l ++ r) n = zq B r m := by
  intro l
  induction l with
  | nil => intro n h; cases h; rfl
  | cons x l ih =>
    intro n h
    rw [List.cons_append]
    simp only [zq] at h ⊢
    by_cases c : -6 ≤ x
    · rw [if_pos c] at h ⊢
      by_cases d : n < B
      · rw [if_pos d] at h ⊢; exact ih _ h
      · rw [if_neg d] at h; cases h
    · rw [if_neg c] at h ⊢
      by_cases d : x = -13 ∨ x = -19
      · rw [if_pos d] at h ⊢
        by_cases e : 1 ≤ n
        · rw [if_pos e] at h ⊢; exact ih _ h
        · rw [if_neg e] at h; cases h
      · rw [if_neg d] at h ⊢
        by_cases e : 2 ≤ n
        · rw [if_pos e] at h ⊢; exact ih _ h
        · rw [if_neg e] at h; cases h
theorem zq_mono {B B2 : Nat} (hB : B ≤ B2) {m : Nat} : ∀ (l : List Int32) (n : Nat), zq B l n = some m → zq B2 l n = some m := by
  intro l
  induction l with
  | nil => intro n h; exact h
  | cons x l ih =>
    intro n h
    simp only [zq] at h ⊢
    by_cases c : -6 ≤ x
    · rw [if_pos c] at h ⊢
      by_cases d : n < B
      · rw [if_pos d] at h; rw [if_pos (by omega)]; exact ih _ h
      · rw [if_neg d] at h; cases h
    · rw [if_neg c] at h ⊢
      by_cases d : x = -13 ∨ x = -19
      · rw [if_pos d] at h ⊢
        by_cases e : 1 ≤ n
        · rw [if_pos e] at h ⊢; exact ih _ h
        · rw [if_neg e] at h; cases h
      · rw [if_neg d] at h ⊢
        by_cases e : 2 ≤ n
        · rw [if_pos e] at h ⊢; exact ih _ h
        · rw [if_neg e] at h; cases h
theorem zq_val {B n : Nat} {x : Int32} (h : -6 ≤ x) (hn : n < B) : zq B [x] n = some (n + 1) := by
  simp only [zq]; rw [if_pos h, if_pos hn]
theorem zq_un {B n : Nat} {x : Int32} (h : x = -13 ∨ x = -19) (hn : 1 ≤ n) : zq B [x] n = some n := by
  simp only [zq]; rw [if_neg (by rcases h with rfl | rfl <;> decide), if_pos h, if_pos hn]
/-- a sign between two -/
def zbi (x : Int32) : Prop := ¬ -6 ≤ x ∧ x ≠ -13 ∧ x ≠ -19 ∧ x ≠ -26
theorem zq_bi {B n : Nat} {x : Int32} (h : zbi x) (hn : 1 ≤ n) : zq B [x] (n + 1) = some n := by
  simp only [zq]; rw [if_neg h.1, if_neg (fun q => q.elim h.2.1 h.2.2.1), if_pos (by omega)]; rfl
theorem xput_lt {o : List Int32} {x : Int32} (h : o.length < 160) : xput o x = o ++ [x] := by unfold xput; rw [if_pos h]
/-- what the reader puts: one value higher, at most H values more on the way -/
def zH (T : Nat → Int32) (N H : Nat) (p : xP) : Prop := ∀ R o k, xpr T N R → o.length + k ≤ R.1 → (p R o).1 = true → ∃ l, (p R o).2.2 = o ++ l ∧ ∀ n, zq (n + H) l n = some (n + 1)
theorem xpr_b {T : Nat → Int32} {N : Nat} {R : xR} (h : xpr T N R) : R.1 ≤ N := by
  obtain ⟨A, hA, rfl⟩ := h
  exact (ynx_b T N A hA).2.1
theorem zH_le {T : Nat → Int32} {N H H2 : Nat} {p : xP} (h : zH T N H p) (hH : H ≤ H2) : zH T N H2 p := by
  intro R o k hR hk ht
  obtain ⟨l, e, q⟩ := h R o k hR hk ht
  exact ⟨l, e, fun n => zq_mono (by omega) _ _ (q n)⟩
theorem zH_lp {T : Nat → Int32} {N H : Nat} {p : xP} {M : Int32 → Bool} (hN : N ≤ 160) (hg : xgd T N p) (hp : zH T N H p) (hM : ∀ t, M t = true → zbi t) : ∀ f R o k, xpr T N R → o.length + k ≤ R.1 → (xlp T N p M f R o).1 = true →
    ∃ l, (xlp T N p M f R o).2.2 = o ++ l ∧ ∀ n, 1 ≤ n → zq (n + H) l n = some n := by
  intro f
  induction f with
  | zero => intro R o k hR hk ht; exact ⟨[], (List.append_nil o).symm, fun n _ => rfl⟩
  | succ f ih =>
    intro R o k hR hk ht
    simp only [xlp] at ht ⊢
    by_cases h : M (xtk1 R) = true
    · rw [if_pos h] at ht ⊢
      have hb := hM _ h
      have n := xpr_nx hR hb.2.2.2
      have g := hg (ynx T N R.2.1) o (k + 1) n.1 (by omega)
      by_cases h2 : (p (ynx T N R.2.1) o).1 = true
      · rw [if_pos h2] at ht ⊢
        obtain ⟨l1, e1, q1⟩ := hp (ynx T N R.2.1) o (k + 1) n.1 (by omega) h2
        have lt : (p (ynx T N R.2.1) o).2.2.length < 160 := by have := xpr_b g.1; omega
        rw [xput_lt lt] at ht ⊢
        obtain ⟨l2, e2, q2⟩ := ih _ _ k g.1 (by rw [List.length_append]; show _ + 1 + k ≤ _; omega) ht
        refine ⟨l1 ++ ([xtk1 R] ++ l2), by rw [e2, e1, List.append_assoc, List.append_assoc], fun m hm => ?_⟩
        rw [zq_app l1 m (q1 m), zq_app [xtk1 R] (m + 1) (zq_bi hb hm)]
        exact q2 m hm
      · rw [if_neg h2] at ht; cases (show false = true from ht)
    · rw [if_neg h] at ht ⊢
      exact ⟨[], (List.append_nil o).symm, fun n _ => rfl⟩
theorem zH_row {T : Nat → Int32} {N H : Nat} {p : xP} {M : Int32 → Bool} (hN : N ≤ 160) (hg : xgd T N p) (hp : zH T N H p) (hM : ∀ t, M t = true → zbi t) : zH T N (H + 1) (xrow1 T N p M) := by
  intro R o k hR hk ht
  unfold xrow1 at ht ⊢
  have g := hg R o k hR hk
  by_cases h2 : (p R o).1 = true
  · rw [if_pos h2] at ht ⊢
    obtain ⟨l1, e1, q1⟩ := hp R o k hR hk h2
    obtain ⟨l2, e2, q2⟩ := zH_lp hN hg hp hM 160 _ _ k g.1 g.2 ht
    refine ⟨l1 ++ l2, by rw [e2, e1, List.append_assoc], fun n => ?_⟩
    rw [zq_app l1 n (zq_mono (by omega) _ _ (q1 n))]
    have := q2 (n + 1) (by omega)
    rwa [show n + 1 + H = n + (H + 1) by omega] at this
  · rw [if_neg h2] at ht; cases (show false = true from ht)
theorem zH_not {T : Nat → Int32} {N H : Nat} {nb : Option xP} {sm : xP} (hN : N ≤ 160) (hng : ∀ p, nb = some p → xgd T N p) (hn : ∀ p, nb = some p → zH T N (H + 1) p) (hsg : xgd T N sm) (hs : zH T N H sm) : zH T N (H + 1) (xnot T N nb sm) := by
  intro R o k hR hk ht
  unfold xnot at ht ⊢
  by_cases h : xtk1 R = -13
  · rw [if_pos h] at ht ⊢
    cases nb with
    | none => cases (show false = true from ht)
    | some p =>
      have n := xpr_nx hR (by rw [h]; decide)
      have g := hng p rfl (ynx T N R.2.1) o (k + 1) n.1 (by omega)
      dsimp only at ht ⊢
      by_cases h2 : (p (ynx T N R.2.1) o).1 = true
      · rw [if_pos h2] at ht ⊢
        obtain ⟨l1, e1, q1⟩ := hn p rfl (ynx T N R.2.1) o (k + 1) n.1 (by omega) h2
        have lt : (p (ynx T N R.2.1) o).2.2.length < 160 := by have := xpr_b g.1; omega
        dsimp only
        rw [xput_lt lt]
        refine ⟨l1 ++ [-13], by rw [e1, List.append_assoc], fun m => ?_⟩
        rw [zq_app l1 m (q1 m)]
        exact zq_un (Or.inl rfl) (by omega)
      · rw [if_neg h2] at ht; cases (show false = true from ht)
  · rw [if_neg h] at ht ⊢
    have g := hsg R o k hR hk
    by_cases h2 : (sm R o).1 = true
    · rw [if_pos h2] at ht ⊢
      obtain ⟨l1, e1, q1⟩ := hs R o k hR hk h2
      by_cases h3 : xM14 (xtk1 (sm R o).2.1) = true
      · rw [if_pos h3] at ht ⊢
        have hb : zbi (xtk1 (sm R o).2.1) := by
          unfold xM14 at h3
          rw [Bool.or_eq_true, beq_iff_eq, beq_iff_eq] at h3
          rcases h3 with h3 | h3 <;> rw [h3] <;> exact ⟨by decide, by decide, by decide, by decide⟩
        have n := xpr_nx g.1 hb.2.2.2
        have g2 := hsg (ynx T N (sm R o).2.1.2.1) (sm R o).2.2 (k + 1) n.1 (by omega)
        by_cases h4 : (sm (ynx T N (sm R o).2.1.2.1) (sm R o).2.2).1 = true
        · rw [if_pos h4] at ht ⊢
          obtain ⟨l2, e2, q2⟩ := hs (ynx T N (sm R o).2.1.2.1) (sm R o).2.2 (k + 1) n.1 (by omega) h4
          have lt : (sm (ynx T N (sm R o).2.1.2.1) (sm R o).2.2).2.2.length < 160 := by have := xpr_b g2.1; omega
          dsimp only
          rw [xput_lt lt]
          refine ⟨l1 ++ (l2 ++ [xtk1 (sm R o).2.1]), by rw [e2, e1]; simp only [List.append_assoc], fun m => ?_⟩
          have q3 := q2 (m + 1)
          rw [show m + 1 + H = m + (H + 1) by omega] at q3
          rw [zq_app l1 m (zq_mono (by omega) _ _ (q1 m)), zq_app l2 (m + 1) q3]
          exact zq_bi hb (by omega)
        · rw [if_neg h4] at ht; cases (show false = true from ht)
      · rw [if_neg h3] at ht ⊢
        exact ⟨l1, e1, fun m => zq_mono (by omega) _ _ (q1 m)⟩
    · rw [if_neg h2] at ht; cases (show false = true from ht)
theorem zH_one {T : Nat → Int32} {N H : Nat} {eb : Option (xP × xP)} (hN : N ≤ 160) (h1 : 1 ≤ H) (hg : ∀ p, eb = some p → xgd T N p.1 ∧ xgd T N p.2) (he : ∀ p, eb = some p → zH T N H p.1 ∧ zH T N H p.2) : zH T N H (xone T N eb) := by
  intro R o k hR hk ht
  unfold xone at ht ⊢
  by_cases h : -6 ≤ xtk1 R
  · rw [if_pos h]
    have n := xpr_nx hR (fun q => by rw [q] at h; exact absurd h (by decide))
    have lt : o.length < 160 := by have := xpr_b n.1; omega
    dsimp only
    rw [xput_lt lt]
    exact ⟨[xtk1 R], rfl, fun m => zq_val h (by omega)⟩
  · rw [if_neg h] at ht ⊢
    cases eb with
    | none => cases (show false = true from ht)
    | some p =>
      obtain ⟨e, b⟩ := p
      have hgg := hg (e, b) rfl
      have hh := he (e, b) rfl
      dsimp only at ht hgg hh ⊢
      by_cases h2 : xtk1 R = -20
      · rw [if_pos h2] at ht ⊢
        have n := xpr_nx hR (by rw [h2]; decide)
        by_cases h3 : (e (ynx T N R.2.1) o).1 = true
        · rw [if_pos h3] at ht ⊢
          obtain ⟨l1, e1, q1⟩ := hh.1 (ynx T N R.2.1) o (k + 1) n.1 (by omega) h3
          by_cases h4 : xtk1 (e (ynx T N R.2.1) o).2.1 = -21
          · rw [if_pos h4]; exact ⟨l1, e1, q1⟩
          · rw [if_neg h4] at ht; cases (show false = true from ht)
        · rw [if_neg h3] at ht; cases (show false = true from ht)
      · rw [if_neg h2] at ht ⊢
        by_cases h3 : xtk1 R = -17
        · rw [if_pos h3] at ht ⊢
          have n := xpr_nx hR (by rw [h3]; decide)
          have g := hgg.2 (ynx T N R.2.1) o (k + 1) n.1 (by omega)
          by_cases h4 : (b (ynx T N R.2.1) o).1 = true
          · rw [if_pos h4] at ht ⊢
            obtain ⟨l1, e1, q1⟩ := hh.2 (ynx T N R.2.1) o (k + 1) n.1 (by omega) h4
            have lt : (b (ynx T N R.2.1) o).2.2.length < 160 := by have := xpr_b g.1; omega
            dsimp only
            rw [xput_lt lt]
            refine ⟨l1 ++ [-19], by rw [e1, List.append_assoc], fun m => ?_⟩
            rw [zq_app l1 m (q1 m)]
            exact zq_un (Or.inr rfl) (by omega)
          · rw [if_neg h4] at ht; cases (show false = true from ht)
        · rw [if_neg h3] at ht; cases (show false = true from ht)
theorem M_bi : (∀ t, xM18 t = true → zbi t) ∧ (∀ t, xM16 t = true → zbi t) ∧ (∀ t, xM12 t = true → zbi t) ∧ ∀ t, xM11 t = true → zbi t := by
  refine ⟨fun t h => ?_, fun t h => ?_, fun t h => ?_, fun t h => ?_⟩
  · unfold xM18 at h; rw [beq_iff_eq] at h; rw [h]; exact ⟨by decide, by decide, by decide, by decide⟩
  · unfold xM16 at h; rw [Bool.or_eq_true, beq_iff_eq, beq_iff_eq] at h; rcases h with h | h <;> rw [h] <;> exact ⟨by decide, by decide, by decide, by decide⟩
  · unfold xM12 at h; rw [beq_iff_eq] at h; rw [h]; exact ⟨by decide, by decide, by decide, by decide⟩
  · unfold xM11 at h; rw [beq_iff_eq] at h; rw [h]; exact ⟨by decide, by decide, by decide, by decide⟩
theorem zH_E {T : Nat → Int32} {N H : Nat} {p : xP} (hN : N ≤ 160) (hg : xgd T N p) (hp : zH T N H p) : zH T N (H + 2) (xE T N p) :=
  zH_row hN (xgd_row hg M_no.2.2.1) (zH_row hN hg hp M_bi.2.2.1) M_bi.2.2.2
theorem zH_sum {T : Nat → Int32} {N H : Nat} {p : xP} (hN : N ≤ 160) (hg : xgd T N p) (hp : zH T N H p) : zH T N (H + 2) (xsum T N p) :=
  zH_row hN (xgd_row hg M_no.1) (zH_row hN hg hp M_bi.1) M_bi.2.1
theorem zH_lv {T : Nat → Int32} {N : Nat} (hN : N ≤ 160) : ∀ g, zH T N (1 + 5 * g) (xlv T N g).1 ∧ zH T N (4 + 5 * g) (xlv T N g).2 := by
  intro g
  induction g with
  | zero =>
    have g1 := (xgd_lv T N 0).1
    have h1 : zH T N (1 + 5 * 0) (xlv T N 0).1 := by rw [xlv_o0]; exact zH_one hN (by omega) (fun p h => by cases h) (fun p h => by cases h)
    exact ⟨h1, by rw [xlv_n0]; exact zH_not hN (fun p h => by cases h) (fun p h => by cases h) (xgd_sum g1) (zH_sum hN g1 h1)⟩
  | succ g ih =>
    have gg := xgd_lv T N g
    have g1 := (xgd_lv T N (g + 1)).1
    have h1 : zH T N (1 + 5 * (g + 1)) (xlv T N (g + 1)).1 := by
      rw [xlv_oS]
      exact zH_one hN (by omega) (fun p h => by cases h; exact ⟨xgd_E gg.2, gg.1⟩) (fun p h => by cases h; exact ⟨zH_le (zH_E hN gg.2 ih.2) (by omega), zH_le ih.1 (by omega)⟩)
    refine ⟨h1, ?_⟩
    rw [xlv_nS]
    exact zH_le (zH_not hN (fun p h => by cases h; exact gg.2) (fun p h => by cases h; exact zH_le ih.2 (by omega)) (xgd_sum g1) (zH_sum hN g1 h1)) (by omega)
theorem zH_part {T : Nat → Int32} {N : Nat} {key : Int32} {R : xR} {o : List Int32} {k : Nat} (hN : N ≤ 160) (hk : key ≠ -26) (hR : xpr T N R) (ho : o.length + k ≤ R.1) (ht : (xpart T N (xE T N (xlv T N 5).2) key R o).1 = true) :
    ∃ l, (xpart T N (xE T N (xlv T N 5).2) key R o).2.2 = o ++ l ∧ zq 48 l 0 = some 1 := by
  have hE := zH_E hN (xgd_lv T N 5).2 (zH_lv (T := T) hN 5).2
  unfold xpart at ht ⊢
  by_cases h : xtk1 R = key
  · rw [if_pos h] at ht ⊢
    have n := xpr_nx hR (by rw [h]; exact hk)
    by_cases h3 : (xE T N (xlv T N 5).2 (ynx T N R.2.1) o).1 = true
    · rw [if_pos h3] at ht ⊢
      obtain ⟨l1, e1, q1⟩ := hE (ynx T N R.2.1) o (k + 1) n.1 (by omega) h3
      by_cases h4 : xtk1 (xE T N (xlv T N 5).2 (ynx T N R.2.1) o).2.1 = -22
      · rw [if_pos h4]; exact ⟨l1, e1, zq_mono (by omega) _ _ (q1 0)⟩
      · rw [if_neg h4] at ht; cases (show false = true from ht)
    · rw [if_neg h3] at ht; cases (show false = true from ht)
  · rw [if_neg h] at ht; cases (show false = true from ht)
/-- the three parts of a text that was read -/
theorem xt_A (T : Nat → Int32) (N : Nat) : xtA T N = xpart T N (xE T N (xlv T N 5).2) (-23) (ynx T N 0) [] := rfl
theorem xt_B (T : Nat → Int32) (N : Nat) : xtB T N = xpart T N (xE T N (xlv T N 5).2) (-24) (xtA T N).2.1 (xtA T N).2.2 := rfl
theorem xt_C (T : Nat → Int32) (N : Nat) : xtC T N = xpart T N (xE T N (xlv T N 5).2) (-25) (xtB T N).2.1 (xtB T N).2.2 := rfl
theorem xtv_3 {T : Nat → Int32} {N : Nat} (h : (xtv T N).1 = true) : (xtA T N).1 = true ∧ (xtB T N).1 = true ∧ (xtC T N).1 = true := by
  unfold xtv at h
  by_cases a : (xtA T N).1 = true
  · rw [if_pos a] at h
    by_cases b : (xtB T N).1 = true
    · rw [if_pos b] at h
      by_cases c : (xtC T N).1 = true
      · exact ⟨a, b, c⟩
      · rw [if_neg c] at h; cases (show false = true from h)
    · rw [if_neg b] at h; cases (show false = true from h)
  · rw [if_neg a] at h; cases (show false = true from h)
theorem text_parts {T : Nat → Int32} {N : Nat} (hN : N ≤ 160) (h : (xtv T N).1 = true) : ∃ lA lB lC, (xtA T N).2.2 = lA ∧ (xtB T N).2.2 = lA ++ lB ∧ (xtC T N).2.2 = lA ++ (lB ++ lC) ∧ zq 48 lA 0 = some 1 ∧ zq 48 lB 0 = some 1 ∧ zq 48 lC 0 = some 1 := by
  have hE := xgd_E (xgd_lv T N 5).2
  obtain ⟨a, b, c⟩ := xtv_3 h
  have r0 : xpr T N (ynx T N 0) := ⟨0, Nat.zero_le _, rfl⟩
  have gA := xgd_part (o := []) (k := 0) hE (show (-23 : Int32) ≠ -26 by decide) r0 (Nat.zero_le _)
  rw [← xt_A] at gA
  have pA := fun q => zH_part (o := []) (k := 0) hN (show (-23 : Int32) ≠ -26 by decide) r0 (Nat.zero_le _) q
  rw [← xt_A] at pA
  obtain ⟨lA, eA, qA⟩ := pA a
  have gB := xgd_part (o := (xtA T N).2.2) (k := 0) hE (show (-24 : Int32) ≠ -26 by decide) gA.1 gA.2.1
  rw [← xt_B] at gB
  have pB := fun q => zH_part (o := (xtA T N).2.2) (k := 0) hN (show (-24 : Int32) ≠ -26 by decide) gA.1 gA.2.1 q
  rw [← xt_B] at pB
  obtain ⟨lB, eB, qB⟩ := pB b
  have pC := fun q => zH_part (o := (xtB T N).2.2) (k := 0) hN (show (-25 : Int32) ≠ -26 by decide) gB.1 gB.2.1 q
  rw [← xt_C] at pC
  obtain ⟨lC, eC, qC⟩ := pC c
  clear gA gB pA pB pC
  generalize xtA T N = A1 at *
  generalize xtB T N = B1 at *
  generalize xtC T N = C1 at *
  rw [List.nil_append] at eA
  rw [eA] at eB
  rw [eB, List.append_assoc] at eC
  exact ⟨lA, lB, lC, eA, eB, eC, qA, qB, qC⟩
/-! the other side's codes are of the right sort -/
def zv (x : Int32) : Bool := mc_wi x 100000 109999 || mc_wi x 0 5 || mc_wi x 11 19
def zs (x : Int32) : Bool := x == 0 || mc_wi x 11 19
def zvA (l : List Int32) : Prop := ∀ x, x ∈ l → zv x = true
def zsA (l : List Int32) : Prop := ∀ x, x ∈ l → zs x = true
theorem zvA_1 {l : List Int32} {x : Int32} (h : zvA l) (hx : zv x = true) : zvA (l ++ [x]) := by
  intro y hy
  rcases List.mem_append.mp hy with hy | hy
  · exact h y hy
  · rw [List.mem_singleton.mp hy]; exact hx
theorem zsA_1 {l : List Int32} {x : Int32} (h : zsA l) (hx : zs x = true) : zsA (x :: l) := by
  intro y hy
  rcases List.mem_cons.mp hy with hy | hy
  · rw [hy]; exact hx
  · exact h y hy
theorem zs_zv {x : Int32} (h : zs x = true) (h0 : x ≠ 0) : zv x = true := by
  unfold zs at h; unfold zv
  rw [Bool.or_eq_true, beq_iff_eq] at h
  rcases h with h | h
  · exact absurd h h0
  · rw [h, Bool.or_true]
theorem yuw_v {le : Int32} (hle : 0 < le) : ∀ st o op, zsA st → zvA o → zsA (yuw le st o op).1 ∧ zvA (yuw le st o op).2.1 := by
  intro st
  induction st with
  | nil => intro o op h1 h2; exact ⟨h1, h2⟩
  | cons x r ih =>
    intro o op h1 h2
    simp only [yuw]
    by_cases c : yy_rk x < le
    · rw [if_pos c]; exact ⟨h1, h2⟩
    · rw [if_neg c]
      refine ih _ _ (fun y hy => h1 y (List.mem_cons_of_mem _ hy)) (zvA_1 h2 (zs_zv (h1 x List.mem_cons_self) (fun q => c ?_)))
      rw [q]; exact hle
theorem ysg_s (t : Int32) (h : ¬ ysg t = -1) : zs (ysg t) = true := by
  unfold ysg at h ⊢
  repeat' split
  all_goals first | decide | skip
  rename_i h1 h2 h3 h4 h5 h6 h7
  rw [if_neg h1, if_neg h2, if_neg h3, if_neg h4, if_neg h5, if_neg h6, if_neg h7] at h
  exact absurd rfl h
theorem rk_pos {x : Int32} (h : zs x = true) (h0 : x ≠ 0) : 0 < yy_rk x := by
  unfold yy_rk
  rw [if_neg h0]
  repeat' split
  all_goals decide
theorem ybt_v {sg : Int32} {st o : List Int32} {op : Int32} (hs : zs sg = true) (h0 : sg ≠ 0) (h1 : zsA st) (h2 : zvA o) : zsA (ybt sg st o op).2.1 ∧ zvA (ybt sg st o op).2.2.1 := by
  have hl : 0 < (if yy_rk sg = 4 then (5 : Int32) else yy_rk sg) := by
    split
    · decide
    · exact rk_pos hs h0
  have k := yuw_v hl st o op h1 h2
  unfold ybt
  generalize yuw (if yy_rk sg = 4 then (5 : Int32) else yy_rk sg) st o op = U at k
  obtain ⟨u1, u2, u3⟩ := U
  dsimp only at k ⊢
  cases u1 with
  | nil => exact ⟨zsA_1 (fun y hy => by cases hy) hs, k.2⟩
  | cons x r =>
    simp only [ybt2]
    by_cases c : yy_rk sg = 4 ∧ yy_rk x = 4
    · rw [if_pos c]; exact k
    · rw [if_neg c]; exact ⟨zsA_1 k.1 hs, k.2⟩
theorem zv_num {v : Int32} (h : 0 ≤ v.toInt ∧ v.toInt < 10000) : zv (100000 + v) = true := by
  unfold zv
  have e : ((100000 : Int32) + v).toInt = 100000 + v.toInt := i32_add (by decide) (by omega)
  rw [show mc_wi (100000 + v) 100000 109999 = true from mc_wi_iff.mpr (by rw [e, show (100000 : Int32).toInt = 100000 from rfl, show (109999 : Int32).toInt = 109999 from rfl]; omega)]
  rfl
theorem zv_nam {v : Int32} (h : 0 ≤ v.toInt ∧ v.toInt ≤ 5) : zv v = true := by
  unfold zv
  rw [show mc_wi v 0 5 = true from mc_wi_iff.mpr (by rw [i0, show (5 : Int32).toInt = 5 from rfl]; omega), Bool.or_true]
  rfl
theorem yer_v {T : Nat → Int32} {N : Nat} : ∀ f A e my st o op, zsA st → zvA o → zvA (yer T N f A e my st o op).2.2.2.2.1 := by
  intro f
  induction f with
  | zero => intro A e my st o op h1 h2; exact h2
  | succ f ih =>
    intro A e my st o op h1 h2
    have ok := ynx_ok T N A
    cases e with
    | true =>
      simp only [yer]
      by_cases c : (ynx T N A).2.2.1 = 1 ∨ (ynx T N A).2.2.1 = 2
      · rw [if_pos c]
        have hv : zv (if (ynx T N A).2.2.1 = 1 then 100000 + (ynx T N A).2.2.2 else (ynx T N A).2.2.2) = true := by
          by_cases c1 : (ynx T N A).2.2.1 = 1
          · rw [if_pos c1]; exact zv_num (ok.1 c1)
          · rw [if_neg c1]; exact zv_nam (ok.2.1 (c.resolve_left c1))
        have k := yuw_v (le := 7) (by decide) st (o ++ [if (ynx T N A).2.2.1 = 1 then 100000 + (ynx T N A).2.2.2 else (ynx T N A).2.2.2]) op h1 (zvA_1 h2 hv)
        exact ih _ _ _ _ _ _ k.1 k.2
      · rw [if_neg c]
        by_cases c2 : (ynx T N A).2.2.1 = 6 ∧ my = true
        · rw [if_pos c2]
          split
          · exact h2
          · exact ih _ _ _ _ _ _ (zsA_1 h1 (by decide)) h2
        · rw [if_neg c2]
          by_cases c3 : (ynx T N A).2.2.1 = 45
          · rw [if_pos c3]
            split
            · exact h2
            · exact ih _ _ _ _ _ _ (zsA_1 h1 (by decide)) h2
          · rw [if_neg c3]
            by_cases c4 : (ynx T N A).2.2.1 = 40
            · rw [if_pos c4]
              split
              · exact h2
              · exact ih _ _ _ _ _ _ (zsA_1 h1 (by decide)) h2
            · rw [if_neg c4]; exact h2
    | false =>
      simp only [yer]
      have k := yuw_v (le := 1) (by decide) st o op h1 h2
      by_cases c : (ynx T N A).2.2.1 = 59
      · rw [if_pos c]; exact k.2
      · rw [if_neg c]
        by_cases c2 : (ynx T N A).2.2.1 = 41
        · rw [if_pos c2]
          split
          · exact k.2
          · have k2 := yuw_v (le := 7) (by decide) (yuw 1 st o op).1.tail (yuw 1 st o op).2.1 ((yuw 1 st o op).2.2 - 1) (fun y hy => k.1 y (List.mem_of_mem_tail hy)) k.2
            exact ih _ _ _ _ _ _ k2.1 k2.2
        · rw [if_neg c2]
          by_cases c3 : ysg (ynx T N A).2.2.1 = -1
          · rw [if_pos c3]; exact h2
          · rw [if_neg c3]
            have hs := ysg_s _ c3
            have k3 := ybt_v (sg := ysg (ynx T N A).2.2.1) (op := op) hs (fun q => by
              unfold ysg at q
              revert q
              repeat' split
              all_goals decide) h1 h2
            by_cases c4 : (ybt (ysg (ynx T N A).2.2.1) st o op).1 = false
            · rw [if_pos c4]; exact k3.2
            · rw [if_neg c4]; exact ih _ _ _ _ _ _ k3.1 k3.2
theorem ytp_v {T : Nat → Int32} {N : Nat} : ∀ g p A bg o S, zvA o → zvA (ytp T N g p A bg o S).2.2.2.1 := by
  intro g
  induction g with
  | zero => intro p A bg o S h; exact h
  | succ g ih =>
    intro p A bg o S h
    have k := yer_v (T := T) (N := N) (N + 1) (ynx T N A).2.1 true true [] o 0 (fun y hy => by cases hy) h
    simp only [ytp]
    split
    · split
      · exact ih _ _ _ _ _ k
      · exact k
    · exact h
theorem ytxV_v (T : Nat → Int32) (N : Nat) : zvA (ytxV T N).2.2.1 := by
  have k := ytp_v (T := T) (N := N) 3 0 0 0 [] [] (fun y hy => by cases hy)
  unfold ytxV
  split
  · exact k
  · exact k
theorem zx_1119 {x : Int32} (h : mc_wi x 11 19 = true) : x = 11 ∨ x = 12 ∨ x = 13 ∨ x = 14 ∨ x = 15 ∨ x = 16 ∨ x = 17 ∨ x = 18 ∨ x = 19 := by
  rw [mc_wi_iff, show (11 : Int32).toInt = 11 from rfl, show (19 : Int32).toInt = 19 from rfl] at h
  obtain ⟨n, hn⟩ : ∃ n, x.toNatClampNeg = n := ⟨_, rfl⟩
  have t := tnc (x := x) (by omega)
  have e : x = nI n := by rw [← hn]; exact nI_back (by omega)
  rcases (show n = 11 ∨ n = 12 ∨ n = 13 ∨ n = 14 ∨ n = 15 ∨ n = 16 ∨ n = 17 ∨ n = 18 ∨ n = 19 by omega) with q | q | q | q | q | q | q | q | q <;> rw [e, q] <;> decide
theorem zx_dp : ∀ (l : List Int32) (n : Nat), zvA l → zq 48 (l.map cm) n = some 1 → xdp l n = true := by
  intro l
  induction l with
  | nil => intro n _ h; simp only [List.map_nil, zq] at h; simp only [xdp]; cases h; rfl
  | cons x r ih =>
    intro n hv h
    have hx := hv x List.mem_cons_self
    have hr : zvA r := fun y hy => hv y (List.mem_cons_of_mem _ hy)
    rw [List.map_cons] at h
    simp only [zq] at h
    simp only [xdp]
    unfold zv at hx
    by_cases v : (mc_wi x 100000 109999 || mc_wi x 0 5) = true
    · rw [if_pos v]
      have c6 : -6 ≤ cm x := by
        rw [Bool.or_eq_true] at v
        rcases v with v | v
        · rw [mc_wi_iff, show (100000 : Int32).toInt = 100000 from rfl, show (109999 : Int32).toInt = 109999 from rfl] at v
          unfold cm
          rw [if_pos (by rw [Int32.le_iff_toInt_le, show (100000 : Int32).toInt = 100000 from rfl]; omega), Int32.le_iff_toInt_le, i32_sub (by omega) (by decide), show (100000 : Int32).toInt = 100000 from rfl, show (-6 : Int32).toInt = -6 from rfl]
          omega
        · rw [mc_wi_iff, i0, show (5 : Int32).toInt = 5 from rfl] at v
          rw [cm_nam v, Int32.le_iff_toInt_le, i32_sub (by decide) (by omega), show (-1 : Int32).toInt = -1 from rfl, show (-6 : Int32).toInt = -6 from rfl]
          omega
      rw [if_pos c6] at h
      by_cases d : n < 48
      · rw [if_pos d] at h
        rw [decide_eq_true d, ih _ hr h]; rfl
      · rw [if_neg d] at h; cases h
    · rw [if_neg v]
      have h9 : mc_wi x 11 19 = true := by
        rw [Bool.or_eq_true] at hx
        exact hx.resolve_left v
      by_cases u : x = 13 ∨ x = 19
      · rw [if_pos u]
        have cu : cm x = -13 ∨ cm x = -19 := by rcases u with u | u <;> rw [u] <;> decide
        rw [if_neg (by rcases cu with q | q <;> rw [q] <;> decide), if_pos cu] at h
        by_cases d : 1 ≤ n
        · rw [if_pos d] at h
          rw [decide_eq_true d, ih _ hr h]; rfl
        · rw [if_neg d] at h; cases h
      · rw [if_neg u]
        have cb : ¬ -6 ≤ cm x ∧ ¬ (cm x = -13 ∨ cm x = -19) ∧ mc_wi x 11 18 = true := by
          rcases zx_1119 h9 with q | q | q | q | q | q | q | q | q <;> first | (exact absurd (Or.inl q) u) | (exact absurd (Or.inr q) u) | (rw [q]; decide)
        rw [if_neg cb.1, if_neg cb.2.1] at h
        by_cases d : 2 ≤ n
        · rw [if_pos d] at h
          rw [cb.2.2, decide_eq_true d, ih _ hr h]; rfl
        · rw [if_neg d] at h; cases h
theorem xy_dp : ∀ (l : List Int32) (n : Nat), xdp l n = true → ydp l n = true := by
  intro l
  induction l with
  | nil => intro n h; exact h
  | cons x r ih =>
    intro n h
    simp only [xdp] at h
    simp only [ydp]
    by_cases v : (mc_wi x 100000 109999 || mc_wi x 0 5) = true
    · rw [if_pos v, Bool.and_eq_true, decide_eq_true_eq] at h
      have hr := ih _ h.2
      rw [Bool.or_eq_true] at v
      rcases v with v | v
      · have w := mc_wi_iff.mp v
        rw [show (100000 : Int32).toInt = 100000 from rfl] at w
        have c : (100000 : Int32) ≤ x := by rw [Int32.le_iff_toInt_le, show (100000 : Int32).toInt = 100000 from rfl]; omega
        rw [if_pos (Or.inl c), decide_eq_true c, decide_eq_true (show n < 200 by omega), hr]; rfl
      · have w := mc_wi_iff.mp v
        rw [show (5 : Int32).toInt = 5 from rfl] at w
        have c : x < 11 := by rw [Int32.lt_iff_toInt_lt, show (11 : Int32).toInt = 11 from rfl]; omega
        rw [if_pos (Or.inr c), v, decide_eq_true (show n < 200 by omega), hr, Bool.or_true]; rfl
    · rw [if_neg v] at h
      by_cases u : x = 13 ∨ x = 19
      · rw [if_pos u, Bool.and_eq_true] at h
        rw [if_neg (by rcases u with u | u <;> rw [u] <;> decide), if_pos u, h.1, ih _ h.2]; rfl
      · rw [if_neg u, Bool.and_eq_true, Bool.and_eq_true] at h
        have w := mc_wi_iff.mp h.1.1
        rw [show (11 : Int32).toInt = 11 from rfl, show (18 : Int32).toInt = 18 from rfl] at w
        have c : ¬ ((100000 : Int32) ≤ x ∨ x < 11) := by
          rw [Int32.le_iff_toInt_le, Int32.lt_iff_toInt_lt, show (100000 : Int32).toInt = 100000 from rfl, show (11 : Int32).toInt = 11 from rfl]; omega
        rw [if_neg c, if_neg u, h.1.2, ih _ h.2]; rfl
