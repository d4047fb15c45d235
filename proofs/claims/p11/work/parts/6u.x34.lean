/-! ===== the whole text, on both sides ===== -/
theorem ytp_ok {T : Nat → Int32} {N g p A bg : Nat} {o : List Int32} {S : List Nat} {Y : Bool × Nat × Nat × List Int32 × List Int32 × Int32} (hY : yer T N (N + 1) (ynx T N A).2.1 true true [] o 0 = Y) (c : (ynx T N A).2.2.1 = 3 ∧ (ynx T N A).2.2.2 = nI p) (y : Y.1 = true) : ytp T N (g + 1) p A bg o S = ytp T N g (p + 1) Y.2.1 Y.2.2.1 Y.2.2.2.2.1 (S ++ [o.length]) := by
  subst hY
  rw [ytp, if_pos c, if_pos y]
theorem ytp_no {T : Nat → Int32} {N g p A bg : Nat} {o : List Int32} {S : List Nat} (c : ¬ ((ynx T N A).2.2.1 = 3 ∧ (ynx T N A).2.2.2 = nI p)) : ytp T N (g + 1) p A bg o S = (false, (ynx T N A).2.1, (ynx T N A).1, o, S ++ [o.length]) := by
  rw [ytp, if_neg c]
theorem ytp_bad {T : Nat → Int32} {N g p A bg : Nat} {o : List Int32} {S : List Nat} {Y : Bool × Nat × Nat × List Int32 × List Int32 × Int32} (hY : yer T N (N + 1) (ynx T N A).2.1 true true [] o 0 = Y) (c : (ynx T N A).2.2.1 = 3 ∧ (ynx T N A).2.2.2 = nI p) (y : Y.1 = false) : ytp T N (g + 1) p A bg o S = (false, Y.2.1, Y.2.2.1, Y.2.2.2.2.1, S ++ [o.length]) := by
  subst hY
  rw [ytp, if_pos c, if_neg (by rw [y]; decide)]
theorem ytxV_ok {T : Nat → Int32} {N A bg : Nat} {o : List Int32} {S : List Nat} (h : ytp T N 3 0 0 0 [] [] = (true, A, bg, o, S)) : ytxV T N = (decide ((ynx T N A).2.2.1 = 0), (ynx T N A).1, o, S) := by
  unfold ytxV; rw [h]; rfl
theorem ytxV_no {T : Nat → Int32} {N A bg : Nat} {o : List Int32} {S : List Nat} (h : ytp T N 3 0 0 0 [] [] = (false, A, bg, o, S)) : ytxV T N = (false, bg, o, S) := by
  unfold ytxV; rw [h]; rfl
theorem text_go {T : Nat → Int32} {N : Nat} (hN : N ≤ 160) : xtv T N = ((ytxV T N).1, (ytxV T N).2.1) ∧ ((ytxV T N).1 = true → (xtC T N).2.2 = (ytxV T N).2.2.1.map cm ∧ (ytxV T N).2.2.2 = [0, (xtA T N).2.2.length, (xtB T N).2.2.length]) := by
  have E := xgd_E (xgd_lv T N 5).2
  have b0 := ynx_b T N 0 (Nat.zero_le _)
  have g1 := xgd_part (key := -23) (R := ynx T N 0) (o := []) (k := 0) E (by decide) ⟨0, Nat.zero_le _, rfl⟩ (by show 0 + 0 ≤ _; omega)
  have p0 := part_go (T := T) (N := N) (A := 0) (p := 0) (oy := []) hN (by decide) (Nat.zero_le _) (Nat.zero_le _)
  rw [show (-23 - nI 0 : Int32) = -23 from rfl, show ([] : List Int32).map cm = [] from rfl] at p0
  rw [foldA] at g1 p0
  obtain ⟨Y0, hY0⟩ : ∃ Y, yer T N (N + 1) (ynx T N 0).2.1 true true [] [] 0 = Y := ⟨_, rfl⟩
  rw [hY0] at p0
  unfold xtv
  by_cases a1 : (xtA T N).1 = true
  · obtain ⟨c0, y0, r0, o0, l0⟩ := p0.1 a1
    rw [if_pos a1]
    have t0 := ytp_ok (g := 2) (bg := 0) (S := []) hY0 c0 y0
    have g2 := xgd_part (key := -24) (R := (xtA T N).2.1) (o := (xtA T N).2.2) (k := 0) E (by decide) g1.1 g1.2.1
    have k1 := g1.2.1
    rw [r0, o0, List.length_map] at k1
    have p1 := part_go (T := T) (N := N) (A := Y0.2.1) (p := 1) (oy := Y0.2.2.2.2.1) hN (by decide) l0 (by omega)
    rw [show (-23 - nI 1 : Int32) = -24 from rfl, ← o0] at p1
    obtain ⟨Y1, hY1⟩ : ∃ Y, yer T N (N + 1) (ynx T N Y0.2.1).2.1 true true [] Y0.2.2.2.2.1 0 = Y := ⟨_, rfl⟩
    rw [hY1] at p1
    have fB : xpart T N (xE T N (xlv T N 5).2) (-24) (ynx T N Y0.2.1) (xtA T N).2.2 = xtB T N := by rw [← r0, foldB]
    rw [foldB] at g2
    rw [fB] at p1
    by_cases a2 : (xtB T N).1 = true
    · obtain ⟨c1, y1, r1, o1, l1⟩ := p1.1 a2
      rw [if_pos a2]
      have t1 := ytp_ok (g := 1) (bg := Y0.2.2.1) (S := [] ++ [([] : List Int32).length]) hY1 c1 y1
      have g3 := xgd_part (key := -25) (R := (xtB T N).2.1) (o := (xtB T N).2.2) (k := 0) E (by decide) g2.1 g2.2.1
      have k2 := g2.2.1
      rw [r1, o1, List.length_map] at k2
      have p2 := part_go (T := T) (N := N) (A := Y1.2.1) (p := 2) (oy := Y1.2.2.2.2.1) hN (by decide) l1 (by omega)
      rw [show (-23 - nI 2 : Int32) = -25 from rfl, ← o1] at p2
      obtain ⟨Y2, hY2⟩ : ∃ Y, yer T N (N + 1) (ynx T N Y1.2.1).2.1 true true [] Y1.2.2.2.2.1 0 = Y := ⟨_, rfl⟩
      rw [hY2] at p2
      have fC : xpart T N (xE T N (xlv T N 5).2) (-25) (ynx T N Y1.2.1) (xtB T N).2.2 = xtC T N := by rw [← r1, foldC]
      rw [fC] at p2
      by_cases a3 : (xtC T N).1 = true
      · obtain ⟨c2, y2, r2, o2, l2⟩ := p2.1 a3
        rw [if_pos a3]
        have t2 := ytp_ok (g := 0) (bg := Y1.2.2.1) (S := ([] ++ [([] : List Int32).length]) ++ [Y0.2.2.2.2.1.length]) hY2 c2 y2
        have tt := ytxV_ok ((t0.trans (t1.trans t2)).trans (by rw [ytp]))
        rw [tt]
        have ok := ynx_ok T N Y2.2.1
        have et : (xtk1 (ynx T N Y2.2.1) == -26) = decide ((ynx T N Y2.2.1).2.2.1 = 0) := by
          by_cases t0 : (ynx T N Y2.2.1).2.2.1 = 0
          · rw [decide_eq_true t0, beq_iff_eq]; unfold xtk1; rw [t0]; rfl
          · rw [decide_eq_false t0, beq_eq_false_iff_ne]; exact fun q => t0 ((xtk_inv ok).1 q)
        refine ⟨by rw [r2, et], fun _ => ⟨o2, ?_⟩⟩
        rw [o0, o1, List.length_map, List.length_map]
        rfl
      · have a3f : (xtC T N).1 = false := by rwa [Bool.not_eq_true] at a3
        rw [if_neg a3]
        rcases p2.2 a3f with ⟨c2, q2⟩ | ⟨c2, y2, q2⟩
        · rw [ytxV_no (t0.trans (t1.trans (ytp_no c2))), q2]
          exact ⟨rfl, fun q => by cases (show false = true from q)⟩
        · rw [ytxV_no (t0.trans (t1.trans (ytp_bad hY2 c2 y2))), q2]
          exact ⟨rfl, fun q => by cases (show false = true from q)⟩
    · have a2f : (xtB T N).1 = false := by rwa [Bool.not_eq_true] at a2
      rw [if_neg a2]
      rcases p1.2 a2f with ⟨c1, q1⟩ | ⟨c1, y1, q1⟩
      · rw [ytxV_no (t0.trans (ytp_no c1)), q1]
        exact ⟨rfl, fun q => by cases (show false = true from q)⟩
      · rw [ytxV_no (t0.trans (ytp_bad hY1 c1 y1)), q1]
        exact ⟨rfl, fun q => by cases (show false = true from q)⟩
  · have a1f : (xtA T N).1 = false := by rwa [Bool.not_eq_true] at a1
    rw [if_neg a1]
    rcases p0.2 a1f with ⟨c0, q0⟩ | ⟨c0, y0, q0⟩
    · rw [ytxV_no (ytp_no c0), q0]
      exact ⟨rfl, fun q => by cases (show false = true from q)⟩
    · rw [ytxV_no (ytp_bad hY0 c0 y0), q0]
      exact ⟨rfl, fun q => by cases (show false = true from q)⟩
/-! where the tape is equal so far as it is written, the words are -/
theorem yws_cg {T U : Nat → Int32} {N : Nat} (h : ∀ p, p < N → T p = U p) : ∀ f p, yws T N f p = yws U N f p := by
  intro f
  induction f with
  | zero => intro p; rfl
  | succ f ih =>
    intro p
    simp only [yws]
    by_cases q : p < N
    · rw [h p q, ih]
    · rw [if_neg (fun w => q w.1), if_neg (fun w => q w.1)]
theorem ylt_cg {T U : Nat → Int32} {N : Nat} (h : ∀ p, p < N → T p = U p) : ∀ f p, ylt T N f p = ylt U N f p := by
  intro f
  induction f with
  | zero => intro p; rfl
  | succ f ih =>
    intro p
    simp only [ylt]
    by_cases q : p < N
    · rw [h p q, ih]
    · rw [if_neg (fun w => q w.1), if_neg (fun w => q w.1)]
theorem yda_cg {T U : Nat → Int32} {N : Nat} (h : ∀ p, p < N → T p = U p) : ∀ f p k v, yda T N f p k v = yda U N f p k v := by
  intro f
  induction f with
  | zero => intro p k v; rfl
  | succ f ih =>
    intro p k v
    simp only [yda]
    by_cases q : p < N
    · rw [h p q, ih]
    · rw [if_neg (fun w => q w.1), if_neg (fun w => q w.1)]
theorem ywi_cg {T U : Nat → Int32} {fr to k : Nat} (h : ∀ p, p < to → T p = U p) : ∀ g i L, ywi T fr to k g i L = ywi U fr to k g i L := by
  intro g
  induction g with
  | zero => intro i L; rfl
  | succ g ih =>
    intro i L
    simp only [ywi]
    by_cases q : fr + i < to
    · rw [if_pos q, if_pos q, h _ q, ih]
    · rw [if_neg q, if_neg q, ih]
theorem ywo_cg {T U : Nat → Int32} {fr to : Nat} (h : ∀ p, p < to → T p = U p) : ∀ g k, ywo T fr to g k = ywo U fr to g k := by
  intro g
  induction g with
  | zero => intro k; rfl
  | succ g ih =>
    intro k
    simp only [ywo]
    rw [ywi_cg h, ih]
theorem ynx_cg {T U : Nat → Int32} {N A : Nat} (h : ∀ p, p < N → T p = U p) (hA : A ≤ N) : ynx T N A = ynx U N A := by
  have e := yws_cg h (N - A) A
  rw [ynx_c (T := T) (B := yws U N (N - A) A) e, ynx_c (T := U) (B := yws U N (N - A) A) rfl]
  have hB := (yws_le U N (N - A) A hA).2
  generalize yws U N (N - A) A = B at hB
  by_cases q : B = N
  · rw [if_pos q, if_pos q]
  · rw [if_neg q, if_neg q, h B (by omega), ylt_cg h, yda_cg h]
    have hE := (ylt_le U N (N - B) B hB).2
    rw [ywo_cg (fun p hp => h p (by omega))]
