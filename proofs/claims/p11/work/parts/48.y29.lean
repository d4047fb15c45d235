/-! a text -/
theorem yer_le (T : Nat → Int32) (N : Nat) : ∀ f A0 wn my st o op, N + 1 ≤ A0 + f → A0 ≤ N → o.length + st.length ≤ A0 →
    A0 ≤ (yer T N f A0 wn my st o op).2.1 ∧ (yer T N f A0 wn my st o op).2.1 ≤ N ∧ (yer T N f A0 wn my st o op).2.2.2.2.1.length + (yer T N f A0 wn my st o op).2.2.2.1.length ≤ (yer T N f A0 wn my st o op).2.1 := by
  intro f
  induction f with
  | zero => intro A0 wn my st o op h1 h2; omega
  | succ f ih =>
    intro A0 wn my st o op h1 h2 h3
    obtain ⟨k1, k2, k3⟩ := ynx_lt T N A0 h2
    have go : ∀ wn my st' o' op', (ynx T N A0).2.2.1 ≠ 0 → o'.length + st'.length ≤ (ynx T N A0).2.1 → A0 ≤ (yer T N f (ynx T N A0).2.1 wn my st' o' op').2.1 ∧ (yer T N f (ynx T N A0).2.1 wn my st' o' op').2.1 ≤ N ∧ (yer T N f (ynx T N A0).2.1 wn my st' o' op').2.2.2.2.1.length + (yer T N f (ynx T N A0).2.1 wn my st' o' op').2.2.2.1.length ≤ (yer T N f (ynx T N A0).2.1 wn my st' o' op').2.1 := fun wn my st' o' op' g1 g2 => by
      have := k3 g1
      have K := ih (ynx T N A0).2.1 wn my st' o' op' (by omega) k2 g2
      exact ⟨by omega, K.2⟩
    have bad : A0 ≤ (ynx T N A0).2.1 ∧ (ynx T N A0).2.1 ≤ N ∧ o.length + st.length ≤ (ynx T N A0).2.1 := ⟨k1, k2, by omega⟩
    have nz : ∀ x : Int32, x ≠ 0 → (ynx T N A0).2.2.1 = x → (ynx T N A0).2.2.1 ≠ 0 := fun x h e => by rw [e]; exact h
    cases wn with
    | true =>
      simp only [yer]
      by_cases c1 : (ynx T N A0).2.2.1 = 1 ∨ (ynx T N A0).2.2.1 = 2
      · have t0 : (ynx T N A0).2.2.1 ≠ 0 := c1.elim (nz 1 (by decide)) (nz 2 (by decide))
        rw [if_pos c1]
        exact go _ _ _ _ _ t0 (by rw [yuw_len, List.length_append]; have := k3 t0; simp; omega)
      · rw [if_neg c1]
        by_cases c2 : (ynx T N A0).2.2.1 = 6 ∧ my = true
        · have t0 := nz 6 (by decide) c2.1
          rw [if_pos c2]
          by_cases c3 : op = 5
          · rw [if_pos c3]; exact bad
          · rw [if_neg c3]; exact go _ _ _ _ _ t0 (by have := k3 t0; simp; omega)
        · rw [if_neg c2]
          by_cases c4 : (ynx T N A0).2.2.1 = 45
          · have t0 := nz 45 (by decide) c4
            rw [if_pos c4]
            by_cases c3 : op = 5
            · rw [if_pos c3]; exact bad
            · rw [if_neg c3]; exact go _ _ _ _ _ t0 (by have := k3 t0; simp; omega)
          · rw [if_neg c4]
            by_cases c5 : (ynx T N A0).2.2.1 = 40
            · have t0 := nz 40 (by decide) c5
              rw [if_pos c5]
              by_cases c3 : op = 5
              · rw [if_pos c3]; exact bad
              · rw [if_neg c3]; exact go _ _ _ _ _ t0 (by have := k3 t0; simp; omega)
            · rw [if_neg c5]; exact bad
    | false =>
      simp only [yer]
      have u1 := yuw_len 1 st o op
      by_cases c1 : (ynx T N A0).2.2.1 = 59
      · rw [if_pos c1]; exact ⟨k1, k2, by show (yuw 1 st o op).2.1.length + (yuw 1 st o op).1.length ≤ (ynx T N A0).2.1; omega⟩
      · rw [if_neg c1]
        by_cases c2 : (ynx T N A0).2.2.1 = 41
        · have t0 := nz 41 (by decide) c2
          rw [if_pos c2]
          by_cases c3 : (yuw 1 st o op).1.isEmpty = true
          · rw [if_pos c3]; exact ⟨k1, k2, by show (yuw 1 st o op).2.1.length + (yuw 1 st o op).1.length ≤ (ynx T N A0).2.1; omega⟩
          · rw [if_neg c3]; exact go _ _ _ _ _ t0 (by rw [yuw_len, List.length_tail]; omega)
        · rw [if_neg c2]
          by_cases c4 : ysg (ynx T N A0).2.2.1 = -1
          · rw [if_pos c4]; exact bad
          · have t0 : (ynx T N A0).2.2.1 ≠ 0 := fun w => c4 (by rw [w]; decide)
            have b1 := ybt_len (ysg (ynx T N A0).2.2.1) st o op
            have k := k3 t0
            rw [if_neg c4]
            by_cases c5 : (ybt (ysg (ynx T N A0).2.2.1) st o op).1 = false
            · rw [if_pos c5]; exact ⟨k1, k2, by show (ybt (ysg (ynx T N A0).2.2.1) st o op).2.2.1.length + (ybt (ysg (ynx T N A0).2.2.1) st o op).2.1.length ≤ (ynx T N A0).2.1; omega⟩
            · rw [if_neg c5]; exact go _ _ _ _ _ t0 (by omega)
theorem yPS_5 {t : Nat} {B b : Nat → List Int32} {n : Nat → Int32} {d : Nat → List Int32} {st o : List Int32} {op : Int32} {l5 r5 : List Int32} (h : yPS t (mc_up B 5 l5) b n d st o op) : yPS t (mc_up B 5 r5) (mc_up b 5 r5) n d st o op := by
  obtain ⟨⟨l, hb, hl, ho, hx⟩, hr⟩ := h
  subst hb
  refine ⟨⟨l, ?_, hl, ho, hx⟩, hr⟩
  funext j
  unfold mc_up
  by_cases e5 : j = 5
  · subst e5; rfl
  · by_cases e4 : j = 4
    · subst e4; rfl
    · rw [if_neg e5, if_neg e4, if_neg e5, if_neg e4, if_neg e5]
theorem yPS_b5 {t : Nat} {B b : Nat → List Int32} {n : Nat → Int32} {d : Nat → List Int32} {st o : List Int32} {op : Int32} (h : yPS t B b n d st o op) : b 5 = B 5 := by
  obtain ⟨⟨l, hb, -⟩, -⟩ := h
  subst hb; rfl
theorem yL_5 {b : Nat → List Int32} (h : yL b) {l : List Int32} (hl : l.length = 24) : yL (mc_up b 5 l) :=
  ⟨h.1, h.2.1, h.2.2.1, h.2.2.2.1, h.2.2.2.2.1, hl, h.2.2.2.2.2.2.1, h.2.2.2.2.2.2.2.1, h.2.2.2.2.2.2.2.2.1, h.2.2.2.2.2.2.2.2.2⟩
