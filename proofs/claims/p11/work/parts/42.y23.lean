/-! the next word, number or sign -/
theorem up_ne {n : Nat → Int32} {i j : Nat} {x : Int32} (h : j ≠ i) : mc_up n i x j = n j := by unfold mc_up; rw [if_neg h]
def yws (T : Nat → Int32) (N : Nat) : Nat → Nat → Nat
  | 0, p => p
  | f + 1, p => if p < N ∧ (T p = 32 ∨ T p = 10) then yws T N f (p + 1) else p
def ylt (T : Nat → Int32) (N : Nat) : Nat → Nat → Nat
  | 0, p => p
  | f + 1, p => if p < N ∧ mc_wi (T p) 97 122 = true then ylt T N f (p + 1) else p
def yda (T : Nat → Int32) (N : Nat) : Nat → Nat → Nat → Int32 → Nat × Nat × Int32
  | 0, p, k, v => (p, k, v)
  | f + 1, p, k, v => if p < N ∧ mc_wi (T p) 48 57 = true then yda T N f (p + 1) (k + 1) (if k < 4 then 10 * v + T p - 48 else 0) else (p, k, v)
theorem yws_le (T : Nat → Int32) (N : Nat) : ∀ f p, p ≤ N → p ≤ yws T N f p ∧ yws T N f p ≤ N := by
  intro f
  induction f with
  | zero => intro p h; exact ⟨Nat.le_refl _, h⟩
  | succ f ih =>
    intro p h
    unfold yws
    split
    · rename_i g; have := ih (p + 1) (by omega); omega
    · exact ⟨Nat.le_refl _, h⟩
theorem ylt_le (T : Nat → Int32) (N : Nat) : ∀ f p, p ≤ N → p ≤ ylt T N f p ∧ ylt T N f p ≤ N := by
  intro f
  induction f with
  | zero => intro p h; exact ⟨Nat.le_refl _, h⟩
  | succ f ih =>
    intro p h
    unfold ylt
    split
    · rename_i g; have := ih (p + 1) (by omega); omega
    · exact ⟨Nat.le_refl _, h⟩
theorem ywo_le (T : Nat → Int32) (fr to : Nat) : ∀ g k, k + g ≤ 12 → ywo T fr to g k ≤ 12 := by
  intro g
  induction g with
  | zero => intro k h; exact Nat.le_refl _
  | succ g ih =>
    intro k h
    unfold ywo
    split
    · omega
    · exact ih (k + 1) (by omega)
def ysgn (x : Int32) : Bool := x == 40 || x == 41 || x == 59 || x == 43 || x == 45 || x == 42 || x == 60 || x == 61
def ynk (k : Nat) : Int32 := if k < 3 then 3 else if k < 9 then 2 else if k = 12 then -1 else 4 + nI k - 9
def ynv (k : Nat) : Int32 := if k < 3 then nI k else nI k - 3
/-- begun, at, token, value -/
def ynx (T : Nat → Int32) (N at0 : Nat) : Nat × Nat × Int32 × Int32 :=
  if yws T N (N - at0) at0 = N then (N, N, 0, 0)
  else if mc_wi (T (yws T N (N - at0) at0)) 97 122 = true then
    (yws T N (N - at0) at0, ylt T N (N - yws T N (N - at0) at0) (yws T N (N - at0) at0), ynk (ywo T (yws T N (N - at0) at0) (ylt T N (N - yws T N (N - at0) at0) (yws T N (N - at0) at0)) 12 0), ynv (ywo T (yws T N (N - at0) at0) (ylt T N (N - yws T N (N - at0) at0) (yws T N (N - at0) at0)) 12 0))
  else if mc_wi (T (yws T N (N - at0) at0)) 48 57 = true then
    (yws T N (N - at0) at0, (yda T N (N - yws T N (N - at0) at0) (yws T N (N - at0) at0) 0 0).1, (if 4 < (yda T N (N - yws T N (N - at0) at0) (yws T N (N - at0) at0) 0 0).2.1 then -1 else 1), (yda T N (N - yws T N (N - at0) at0) (yws T N (N - at0) at0) 0 0).2.2)
  else (yws T N (N - at0) at0, yws T N (N - at0) at0 + 1, (if ysgn (T (yws T N (N - at0) at0)) = true then T (yws T N (N - at0) at0) else -1), 0)
def yNx (R : Nat × Nat × Int32 × Int32) (n n1 : Nat → Int32) : Prop := n1 0 = nI R.2.1 ∧ n1 1 = nI R.1 ∧ n1 2 = R.2.2.1 ∧ n1 3 = R.2.2.2 ∧ ∀ j, 4 ≤ j → n1 j = n j
def yK (n n1 : Nat → Int32) : Prop := ∀ j, 4 ≤ j → n1 j = n j
theorem yK_up {n n1 : Nat → Int32} (h : yK n n1) {i : Nat} {x : Int32} (hi : i < 4) : yK n (mc_up n1 i x) := fun j hj => by rw [up_ne (by omega)]; exact h j hj
theorem lp_y_ws {s u m : Nat → Int32} {a c b d : Nat → List Int32} {q : List (Option Nat)} {h : Nat} {z : mc_W} {Post : Option Value → mc_W → Prop} {N P : Nat} {n0 : Nat → Int32} {x1 x2 : Option Value} (hL : yL b) (hN : m 3 = nI N) (hN2 : N ≤ 160)
    (hK : ∀ n, n 0 = nI P → yK n0 n → mc_E RX7 cX7_next 3 (mc_JM none false 2 0 0 Post) 52 [some (.ref 29), x1, x2] [] (WW s a q u c h m b n d z) 0 0) :
    ∀ (f p : Nat) (n : Nat → Int32), p + f = N → n 0 = nI p → yK n0 n → yws (yt3 b) N f p = P →
      mc_E RX7 cX7_next 3 (mc_JM none false 2 0 0 Post) 0 [some (.ref 29), x1, x2] [] (WW s a q u c h m b n d z) 0 0 := by
  intro f
  induction f with
  | zero =>
    intro p n hp h0 hk hV
    have e : p = N := by omega
    have hV : p = P := hV
    rw [hV] at h0
    refine e_aloadn (pc := 0) dX7_next_0 rfl ?_
    refine e_get (pc := 1) dX7_next_1 fX7_93 rfl rfl ?_
    refine e_top (h0) ?_
    refine e_aloadn (pc := 4) dX7_next_4 rfl ?_
    refine e_get (pc := 5) dX7_next_5 fX7_65 rfl rfl ?_
    refine e_top (hN) ?_
    refine e_icmp_ge (pc := 8) dX7_next_8 (t := 52) (by decide) (fun _ => ?_) (fun c_8 => absurd (by rw [← hV, e]; exact Int32.le_refl _) c_8)
    exact hK n h0 hk
  | succ f ih =>
    intro p n hp h0 hk hV
    simp only [yws] at hV
    have iv : p < N → vp_in (nI p) (b 3).length := fun w => by rw [hL.2.2.2.1]; exact vp_in_nI (by omega) (by decide)
    have et : (b 3).getD (nI p).toNatClampNeg 0 = yt3 b p := by rw [nIc (by omega)]; rfl
    have cp : nI N ≤ nI p ↔ ¬ p < N := ⟨fun q w => nI_ge w (by omega) q, fun q => nI_le (by omega) (by omega)⟩
    have lp : ¬ nI N ≤ nI p → p < N := fun q => Classical.not_not.mp (fun w => q (cp.mpr w))
    refine e_aloadn (pc := 0) dX7_next_0 rfl ?_
    refine e_get (pc := 1) dX7_next_1 fX7_93 rfl rfl ?_
    refine e_top (h0) ?_
    refine e_aloadn (pc := 4) dX7_next_4 rfl ?_
    refine e_get (pc := 5) dX7_next_5 fX7_65 rfl rfl ?_
    refine e_top (hN) ?_
    refine e_icmp_ge (pc := 8) dX7_next_8 (t := 52) (by decide) (fun c_8 => ?_) (fun c_8 => ?_)
    · skip
      rw [if_neg (fun q => cp.mp c_8 q.1)] at hV
      rw [hV] at h0
      exact hK n h0 hk
    · skip
      refine e_aloadn (pc := 11) dX7_next_11 rfl ?_
      refine e_get (pc := 12) dX7_next_12 fX7_26 rfl rfl ?_
      refine e_aloadn (pc := 15) dX7_next_15 rfl ?_
      refine e_get (pc := 16) dX7_next_16 fX7_93 rfl rfl ?_
      refine e_top (h0) ?_
      refine aldv_ytape (pc := 19) dX7_next_19 (iv (lp c_8)) et ?_
      refine e_bipush (v := 32) (pc := 20) dX7_next_20 (by decide) ?_
      refine e_icmp_eq (pc := 22) dX7_next_22 (t := 39) (by decide) (fun c_22 => ?_) (fun c_22 => ?_)
      · skip
        refine e_aloadn (pc := 39) dX7_next_39 rfl ?_
        refine e_dup (pc := 40) dX7_next_40 rfl ?_
        refine e_get (pc := 41) dX7_next_41 fX7_93 rfl rfl ?_
        refine e_top (h0) ?_
        refine e_iconst (v := 1) (pc := 44) dX7_next_44 (by decide) ?_
        refine e_iadd (pc := 45) dX7_next_45 ?_
        refine e_top ((nI_1 p)) ?_
        refine put_y_at (pc := 46) dX7_next_46 pX7_93 ?_
        refine e_goto (pc := 49) dX7_next_49 (t := 0) (by decide) ?_
        rw [if_pos ⟨lp c_8, Or.inl c_22⟩] at hV
        exact ih (p + 1) _ (by omega) rfl (yK_up hk (by decide)) hV
      · skip
        refine e_aloadn (pc := 25) dX7_next_25 rfl ?_
        refine e_get (pc := 26) dX7_next_26 fX7_26 rfl rfl ?_
        refine e_aloadn (pc := 29) dX7_next_29 rfl ?_
        refine e_get (pc := 30) dX7_next_30 fX7_93 rfl rfl ?_
        refine e_top (h0) ?_
        refine aldv_ytape (pc := 33) dX7_next_33 (iv (lp c_8)) et ?_
        refine e_bipush (v := 10) (pc := 34) dX7_next_34 (by decide) ?_
        refine e_icmp_ne (pc := 36) dX7_next_36 (t := 52) (by decide) (fun c_36 => ?_) (fun c_36 => ?_)
        · skip
          rw [if_neg (fun q => q.2.elim c_22 c_36)] at hV
          rw [hV] at h0
          exact hK n h0 hk
        · skip
          refine e_aloadn (pc := 39) dX7_next_39 rfl ?_
          refine e_dup (pc := 40) dX7_next_40 rfl ?_
          refine e_get (pc := 41) dX7_next_41 fX7_93 rfl rfl ?_
          refine e_top (h0) ?_
          refine e_iconst (v := 1) (pc := 44) dX7_next_44 (by decide) ?_
          refine e_iadd (pc := 45) dX7_next_45 ?_
          refine e_top ((nI_1 p)) ?_
          refine put_y_at (pc := 46) dX7_next_46 pX7_93 ?_
          refine e_goto (pc := 49) dX7_next_49 (t := 0) (by decide) ?_
          rw [if_pos ⟨lp c_8, Or.inr c_36⟩] at hV
          exact ih (p + 1) _ (by omega) rfl (yK_up hk (by decide)) hV
theorem lp_y_lt {s u m : Nat → Int32} {a c b d : Nat → List Int32} {q : List (Option Nat)} {h : Nat} {z : mc_W} {Post : Option Value → mc_W → Prop} {N P : Nat} {n0 : Nat → Int32} {n1 : Int32} {x1 x2 : Option Value} (hL : yL b) (hN : m 3 = nI N) (hN2 : N ≤ 160)
    (hK : ∀ n, n 0 = nI P → n 1 = n1 → yK n0 n → mc_E RX7 cX7_next 3 (mc_JM none false 2 0 0 Post) 146 [some (.ref 29), x1, x2] [] (WW s a q u c h m b n d z) 0 0) :
    ∀ (f p : Nat) (n : Nat → Int32), p + f = N → n 0 = nI p → n 1 = n1 → yK n0 n → ylt (yt3 b) N f p = P →
      mc_E RX7 cX7_next 3 (mc_JM none false 2 0 0 Post) 103 [some (.ref 29), x1, x2] [] (WW s a q u c h m b n d z) 0 0 := by
  intro f
  induction f with
  | zero =>
    intro p n hp h0 h1 hk hV
    have e : p = N := by omega
    have hV : p = P := hV
    rw [hV] at h0
    refine e_aloadn (pc := 103) dX7_next_103 rfl ?_
    refine e_get (pc := 104) dX7_next_104 fX7_93 rfl rfl ?_
    refine e_top (h0) ?_
    refine e_aloadn (pc := 107) dX7_next_107 rfl ?_
    refine e_get (pc := 108) dX7_next_108 fX7_65 rfl rfl ?_
    refine e_top (hN) ?_
    refine e_icmp_ge (pc := 111) dX7_next_111 (t := 146) (by decide) (fun _ => ?_) (fun c_111 => absurd (by rw [← hV, e]; exact Int32.le_refl _) c_111)
    exact hK n h0 h1 hk
  | succ f ih =>
    intro p n hp h0 h1 hk hV
    simp only [ylt] at hV
    have iv : p < N → vp_in (nI p) (b 3).length := fun w => by rw [hL.2.2.2.1]; exact vp_in_nI (by omega) (by decide)
    have et : (b 3).getD (nI p).toNatClampNeg 0 = yt3 b p := by rw [nIc (by omega)]; rfl
    have cp : nI N ≤ nI p ↔ ¬ p < N := ⟨fun q w => nI_ge w (by omega) q, fun q => nI_le (by omega) (by omega)⟩
    have lp : ¬ nI N ≤ nI p → p < N := fun q => Classical.not_not.mp (fun w => q (cp.mpr w))
    refine e_aloadn (pc := 103) dX7_next_103 rfl ?_
    refine e_get (pc := 104) dX7_next_104 fX7_93 rfl rfl ?_
    refine e_top (h0) ?_
    refine e_aloadn (pc := 107) dX7_next_107 rfl ?_
    refine e_get (pc := 108) dX7_next_108 fX7_65 rfl rfl ?_
    refine e_top (hN) ?_
    refine e_icmp_ge (pc := 111) dX7_next_111 (t := 146) (by decide) (fun c_111 => ?_) (fun c_111 => ?_)
    · skip
      rw [if_neg (fun q => cp.mp c_111 q.1)] at hV
      rw [hV] at h0
      exact hK n h0 h1 hk
    · skip
      refine e_aloadn (pc := 114) dX7_next_114 rfl ?_
      refine e_get (pc := 115) dX7_next_115 fX7_26 rfl rfl ?_
      refine e_aloadn (pc := 118) dX7_next_118 rfl ?_
      refine e_get (pc := 119) dX7_next_119 fX7_93 rfl rfl ?_
      refine e_top (h0) ?_
      refine aldv_ytape (pc := 122) dX7_next_122 (iv (lp c_111)) et ?_
      refine e_bipush (v := 97) (pc := 123) dX7_next_123 (by decide) ?_
      refine e_bipush (v := 122) (pc := 125) dX7_next_125 (by decide) ?_
      refine e_csD (pc := 127) (sp_y_in) dX7_next_127 kX7_75 rfl rfl (mc_CR_of (Nat.le_of_ble_eq_true rfl) (Nat.le_of_ble_eq_true rfl) (Nat.le_refl _) (Nat.le_refl _)) (Nat.le_of_ble_eq_true rfl) ?_
      refine e_if_eq (pc := 130) dX7_next_130 (t := 146) (by decide) (fun c_130 => ?_) (fun c_130 => ?_)
      · skip
        rw [if_neg (fun q => nbt (mc_b0.mp c_130) q.2)] at hV
        rw [hV] at h0
        exact hK n h0 h1 hk
      · skip
        refine e_aloadn (pc := 133) dX7_next_133 rfl ?_
        refine e_dup (pc := 134) dX7_next_134 rfl ?_
        refine e_get (pc := 135) dX7_next_135 fX7_93 rfl rfl ?_
        refine e_top (h0) ?_
        refine e_iconst (v := 1) (pc := 138) dX7_next_138 (by decide) ?_
        refine e_iadd (pc := 139) dX7_next_139 ?_
        refine e_top ((nI_1 p)) ?_
        refine put_y_at (pc := 140) dX7_next_140 pX7_93 ?_
        refine e_goto (pc := 143) dX7_next_143 (t := 103) (by decide) ?_
        rw [if_pos ⟨lp c_111, mc_b1.mp c_130⟩] at hV
        exact ih (p + 1) _ (by omega) rfl h1 (yK_up hk (by decide)) hV
theorem lp_y_da {s u m : Nat → Int32} {a c b d : Nat → List Int32} {q : List (Option Nat)} {h : Nat} {z : mc_W} {Post : Option Value → mc_W → Prop} {N : Nat} {P : Nat × Nat × Int32} {n0 : Nat → Int32} {n1 : Int32} {x1 : Int32} (hL : yL b) (hN : m 3 = nI N) (hN2 : N ≤ 160)
    (hK : ∀ n, n 0 = nI P.1 → n 1 = n1 → n 3 = P.2.2 → yK n0 n → mc_E RX7 cX7_next 3 (mc_JM none false 2 0 0 Post) 309 [some (.ref 29), some (.int x1), some (.int (nI P.2.1))] [] (WW s a q u c h m b n d z) 0 0) :
    ∀ (f p k : Nat) (v : Int32) (n : Nat → Int32), p + f = N → k ≤ p → n 0 = nI p → n 1 = n1 → n 3 = v → yK n0 n → yda (yt3 b) N f p k v = P →
      mc_E RX7 cX7_next 3 (mc_JM none false 2 0 0 Post) 230 [some (.ref 29), some (.int x1), some (.int (nI k))] [] (WW s a q u c h m b n d z) 0 0 := by
  intro f
  induction f with
  | zero =>
    intro p k v n hp hkp h0 h1 h3 hk hV
    have e : p = N := by omega
    have hV : (p, k, v) = P := hV
    subst hV
    refine e_aloadn (pc := 230) dX7_next_230 rfl ?_
    refine e_get (pc := 231) dX7_next_231 fX7_93 rfl rfl ?_
    refine e_top (h0) ?_
    refine e_aloadn (pc := 234) dX7_next_234 rfl ?_
    refine e_get (pc := 235) dX7_next_235 fX7_65 rfl rfl ?_
    refine e_top (hN) ?_
    refine e_icmp_ge (pc := 238) dX7_next_238 (t := 309) (by decide) (fun _ => ?_) (fun c_238 => absurd (by rw [e]; exact Int32.le_refl _) c_238)
    exact hK n h0 h1 h3 hk
  | succ f ih =>
    intro p k v n hp hkp h0 h1 h3 hk hV
    simp only [yda] at hV
    have c4 : (4 : Int32) ≤ nI k ↔ ¬ k < 4 := by
      rw [Int32.le_iff_toInt_le, nI_toInt (by omega), show (4 : Int32).toInt = 4 from rfl]; omega
    have iv : p < N → vp_in (nI p) (b 3).length := fun w => by rw [hL.2.2.2.1]; exact vp_in_nI (by omega) (by decide)
    have et : (b 3).getD (nI p).toNatClampNeg 0 = yt3 b p := by rw [nIc (by omega)]; rfl
    have cp : nI N ≤ nI p ↔ ¬ p < N := ⟨fun q w => nI_ge w (by omega) q, fun q => nI_le (by omega) (by omega)⟩
    have lp : ¬ nI N ≤ nI p → p < N := fun q => Classical.not_not.mp (fun w => q (cp.mpr w))
    refine e_aloadn (pc := 230) dX7_next_230 rfl ?_
    refine e_get (pc := 231) dX7_next_231 fX7_93 rfl rfl ?_
    refine e_top (h0) ?_
    refine e_aloadn (pc := 234) dX7_next_234 rfl ?_
    refine e_get (pc := 235) dX7_next_235 fX7_65 rfl rfl ?_
    refine e_top (hN) ?_
    refine e_icmp_ge (pc := 238) dX7_next_238 (t := 309) (by decide) (fun c_238 => ?_) (fun c_238 => ?_)
    · skip
      rw [if_neg (fun q => cp.mp c_238 q.1)] at hV
      subst hV
      exact hK n h0 h1 h3 hk
    · skip
      refine e_aloadn (pc := 241) dX7_next_241 rfl ?_
      refine e_get (pc := 242) dX7_next_242 fX7_26 rfl rfl ?_
      refine e_aloadn (pc := 245) dX7_next_245 rfl ?_
      refine e_get (pc := 246) dX7_next_246 fX7_93 rfl rfl ?_
      refine e_top (h0) ?_
      refine aldv_ytape (pc := 249) dX7_next_249 (iv (lp c_238)) et ?_
      refine e_bipush (v := 48) (pc := 250) dX7_next_250 (by decide) ?_
      refine e_bipush (v := 57) (pc := 252) dX7_next_252 (by decide) ?_
      refine e_csD (pc := 254) (sp_y_in) dX7_next_254 kX7_75 rfl rfl (mc_CR_of (Nat.le_of_ble_eq_true rfl) (Nat.le_of_ble_eq_true rfl) (Nat.le_refl _) (Nat.le_refl _)) (Nat.le_of_ble_eq_true rfl) ?_
      refine e_if_eq (pc := 257) dX7_next_257 (t := 309) (by decide) (fun c_257 => ?_) (fun c_257 => ?_)
      · skip
        rw [if_neg (fun q => nbt (mc_b0.mp c_257) q.2)] at hV
        subst hV
        exact hK n h0 h1 h3 hk
      · skip
        refine e_aloadn (pc := 260) dX7_next_260 rfl ?_
        refine e_iloadn (pc := 261) dX7_next_261 rfl ?_
        refine e_iconst (v := 4) (pc := 262) dX7_next_262 (by decide) ?_
        refine e_icmp_ge (pc := 263) dX7_next_263 (t := 289) (by decide) (fun c_263 => ?_) (fun c_263 => ?_)
        · skip
          refine e_iconst (v := 0) (pc := 289) dX7_next_289 (by decide) ?_
          refine put_y_value (pc := 290) dX7_next_290 pX7_102 ?_
          refine e_incC2 (pc := 293) dX7_next_293 (nI_1 k) (Nat.le_of_ble_eq_true rfl) rfl ?_
          refine e_aloadn (pc := 296) dX7_next_296 rfl ?_
          refine e_dup (pc := 297) dX7_next_297 rfl ?_
          refine e_get (pc := 298) dX7_next_298 fX7_93 rfl rfl ?_
          refine e_top (h0) ?_
          refine e_iconst (v := 1) (pc := 301) dX7_next_301 (by decide) ?_
          refine e_iadd (pc := 302) dX7_next_302 ?_
          refine e_top ((nI_1 p)) ?_
          refine put_y_at (pc := 303) dX7_next_303 pX7_93 ?_
          refine e_goto (pc := 306) dX7_next_306 (t := 230) (by decide) ?_
          rw [if_pos ⟨lp c_238, mc_b1.mp c_257⟩, if_neg (c4.mp c_263)] at hV
          exact ih (p + 1) (k + 1) _ _ (by omega) (by omega) rfl h1 rfl (yK_up (yK_up hk (by decide)) (by decide)) hV
        · skip
          refine e_bipush (v := 10) (pc := 266) dX7_next_266 (by decide) ?_
          refine e_aloadn (pc := 268) dX7_next_268 rfl ?_
          refine e_get (pc := 269) dX7_next_269 fX7_102 rfl rfl ?_
          refine e_top (h3) ?_
          refine e_imul (pc := 272) dX7_next_272 ?_
          refine e_aloadn (pc := 273) dX7_next_273 rfl ?_
          refine e_get (pc := 274) dX7_next_274 fX7_26 rfl rfl ?_
          refine e_aloadn (pc := 277) dX7_next_277 rfl ?_
          refine e_get (pc := 278) dX7_next_278 fX7_93 rfl rfl ?_
          refine e_top (h0) ?_
          refine aldv_ytape (pc := 281) dX7_next_281 (iv (lp c_238)) et ?_
          refine e_iadd (pc := 282) dX7_next_282 ?_
          refine e_bipush (v := 48) (pc := 283) dX7_next_283 (by decide) ?_
          refine e_isub (pc := 285) dX7_next_285 ?_
          refine e_goto (pc := 286) dX7_next_286 (t := 290) (by decide) ?_
          refine put_y_value (pc := 290) dX7_next_290 pX7_102 ?_
          refine e_incC2 (pc := 293) dX7_next_293 (nI_1 k) (Nat.le_of_ble_eq_true rfl) rfl ?_
          refine e_aloadn (pc := 296) dX7_next_296 rfl ?_
          refine e_dup (pc := 297) dX7_next_297 rfl ?_
          refine e_get (pc := 298) dX7_next_298 fX7_93 rfl rfl ?_
          refine e_top (h0) ?_
          refine e_iconst (v := 1) (pc := 301) dX7_next_301 (by decide) ?_
          refine e_iadd (pc := 302) dX7_next_302 ?_
          refine e_top ((nI_1 p)) ?_
          refine put_y_at (pc := 303) dX7_next_303 pX7_93 ?_
          refine e_goto (pc := 306) dX7_next_306 (t := 230) (by decide) ?_
          rw [if_pos ⟨lp c_238, mc_b1.mp c_257⟩, if_pos (Classical.not_not.mp (fun q => c_263 (c4.mpr q)))] at hV
          exact ih (p + 1) (k + 1) _ _ (by omega) (by omega) rfl h1 rfl (yK_up (yK_up hk (by decide)) (by decide)) hV
theorem lp_y_nxl {s u m n : Nat → Int32} {a c b d : Nat → List Int32} {q : List (Option Nat)} {h : Nat} {z : mc_W} {N p e : Nat} {R : Nat × Nat × Int32 × Int32} {x1 : Int32} {x2 : Option Value} (hL : yL b) (hN2 : N ≤ 160) (hpe : p ≤ e) (he : e ≤ N)
    (hR : R = (p, e, ynk (ywo (yt3 b) p e 12 0), ynv (ywo (yt3 b) p e 12 0))) {n0 : Nat → Int32} (h0 : n0 0 = nI e) (h1 : n0 1 = nI p) (hk : yK n n0) :
    mc_E RX7 cX7_next 3 (mc_JM none false 2 0 0 (fun r' w' => r' = none ∧ ∃ n1, yNx R n n1 ∧ w' = WW s a q u c h m b n1 d z)) 146 [some (.ref 29), some (.int x1), x2] [] (WW s a q u c h m b n0 d z) 0 0 := by
  have hw : ywo (yt3 b) p e 12 0 ≤ 12 := ywo_le _ _ _ _ _ (by omega)
  have w3 : ∀ w : Nat, w ≤ 12 → ((3 : Int32) ≤ nI w ↔ ¬ w < 3) := fun w h => by
    rw [Int32.le_iff_toInt_le, nI_toInt (by omega), show (3 : Int32).toInt = 3 from rfl]; omega
  have w9 : ∀ w : Nat, w ≤ 12 → ((9 : Int32) ≤ nI w ↔ ¬ w < 9) := fun w h => by
    rw [Int32.le_iff_toInt_le, nI_toInt (by omega), show (9 : Int32).toInt = 9 from rfl]; omega
  have w12 : ∀ w : Nat, w ≤ 12 → (nI w = 12 ↔ w = 12) := fun w h => nI_eq (a := w) (b := 12) (by omega) (by decide)
  subst hR
  refine e_aloadn (pc := 146) dX7_next_146 rfl ?_
  refine e_aloadn (pc := 147) dX7_next_147 rfl ?_
  refine e_get (pc := 148) dX7_next_148 fX7_96 rfl rfl ?_
  refine e_top (h1) ?_
  refine e_aloadn (pc := 151) dX7_next_151 rfl ?_
  refine e_get (pc := 152) dX7_next_152 fX7_93 rfl rfl ?_
  refine e_top (h0) ?_
  refine e_cvD (pc := 155) (sp_y_wordFrom (fr := p) (to := e) hL (by omega) hpe) dX7_next_155 kX7_105 rfl rfl rfl rfl rfl (mc_CR_of (Nat.le_of_ble_eq_true rfl) (Nat.le_of_ble_eq_true rfl) (Nat.le_refl _) (Nat.le_refl _)) (Nat.le_of_ble_eq_true rfl) ?_
  refine e_isn2 (pc := 158) dX7_next_158 (Nat.le_of_ble_eq_true rfl) rfl ?_
  refine e_aloadn (pc := 159) dX7_next_159 rfl ?_
  refine e_iloadn (pc := 160) dX7_next_160 rfl ?_
  refine e_iconst (v := 3) (pc := 161) dX7_next_161 (by decide) ?_
  refine e_icmp_ge (pc := 162) dX7_next_162 (t := 169) (by decide) (fun c_162 => ?_) (fun c_162 => ?_)
  · skip
    refine e_iloadn (pc := 169) dX7_next_169 rfl ?_
    refine e_bipush (v := 9) (pc := 170) dX7_next_170 (by decide) ?_
    refine e_icmp_ge (pc := 172) dX7_next_172 (t := 179) (by decide) (fun c_172 => ?_) (fun c_172 => ?_)
    · skip
      refine e_iloadn (pc := 179) dX7_next_179 rfl ?_
      refine e_bipush (v := 12) (pc := 180) dX7_next_180 (by decide) ?_
      refine e_icmp_ne (pc := 182) dX7_next_182 (t := 189) (by decide) (fun c_182 => ?_) (fun c_182 => ?_)
      · skip
        refine e_iconst (v := 4) (pc := 189) dX7_next_189 (by decide) ?_
        refine e_iloadn (pc := 190) dX7_next_190 rfl ?_
        refine e_iadd (pc := 191) dX7_next_191 ?_
        refine e_bipush (v := 9) (pc := 192) dX7_next_192 (by decide) ?_
        refine e_isub (pc := 194) dX7_next_194 ?_
        refine put_y_token (pc := 195) dX7_next_195 pX7_99 ?_
        refine e_aloadn (pc := 198) dX7_next_198 rfl ?_
        refine e_iloadn (pc := 199) dX7_next_199 rfl ?_
        refine e_iconst (v := 3) (pc := 200) dX7_next_200 (by decide) ?_
        refine e_icmp_ge (pc := 201) dX7_next_201 (t := 208) (by decide) (fun _ => ?_) (fun c_201 => absurd c_162 c_201)
        refine e_iloadn (pc := 208) dX7_next_208 rfl ?_
        refine e_iconst (v := 3) (pc := 209) dX7_next_209 (by decide) ?_
        refine e_isub (pc := 210) dX7_next_210 ?_
        refine put_y_value (pc := 211) dX7_next_211 pX7_102 ?_
        refine e_goto (pc := 214) dX7_next_214 (t := 403) (by decide) ?_
        exact e_vret (pc := 403) dX7_next_403 rfl (Nat.le_refl _) (Nat.le_refl _) (by refine ⟨rfl, _, ?_, rfl⟩; exact ⟨h0, h1, by show _ = ynk _; unfold ynk; rw [if_neg ((w3 _ hw).mp c_162), if_neg ((w9 _ hw).mp c_172), if_neg (fun q => c_182 ((w12 _ hw).mpr q))]; rfl, by show _ = ynv _; unfold ynv; rw [if_neg ((w3 _ hw).mp c_162)]; rfl, yK_up (yK_up hk (by decide)) (by decide)⟩)
      · skip
        refine e_iconst (v := -1) (pc := 185) dX7_next_185 (by decide) ?_
        refine e_goto (pc := 186) dX7_next_186 (t := 195) (by decide) ?_
        refine put_y_token (pc := 195) dX7_next_195 pX7_99 ?_
        refine e_aloadn (pc := 198) dX7_next_198 rfl ?_
        refine e_iloadn (pc := 199) dX7_next_199 rfl ?_
        refine e_iconst (v := 3) (pc := 200) dX7_next_200 (by decide) ?_
        refine e_icmp_ge (pc := 201) dX7_next_201 (t := 208) (by decide) (fun _ => ?_) (fun c_201 => absurd c_162 c_201)
        refine e_iloadn (pc := 208) dX7_next_208 rfl ?_
        refine e_iconst (v := 3) (pc := 209) dX7_next_209 (by decide) ?_
        refine e_isub (pc := 210) dX7_next_210 ?_
        refine put_y_value (pc := 211) dX7_next_211 pX7_102 ?_
        refine e_goto (pc := 214) dX7_next_214 (t := 403) (by decide) ?_
        exact e_vret (pc := 403) dX7_next_403 rfl (Nat.le_refl _) (Nat.le_refl _) (by refine ⟨rfl, _, ?_, rfl⟩; exact ⟨h0, h1, by show _ = ynk _; unfold ynk; rw [if_neg ((w3 _ hw).mp c_162), if_neg ((w9 _ hw).mp c_172), if_pos ((w12 _ hw).mp c_182)]; rfl, by show _ = ynv _; unfold ynv; rw [if_neg ((w3 _ hw).mp c_162)]; rfl, yK_up (yK_up hk (by decide)) (by decide)⟩)
    · skip
      refine e_iconst (v := 2) (pc := 175) dX7_next_175 (by decide) ?_
      refine e_goto (pc := 176) dX7_next_176 (t := 195) (by decide) ?_
      refine put_y_token (pc := 195) dX7_next_195 pX7_99 ?_
      refine e_aloadn (pc := 198) dX7_next_198 rfl ?_
      refine e_iloadn (pc := 199) dX7_next_199 rfl ?_
      refine e_iconst (v := 3) (pc := 200) dX7_next_200 (by decide) ?_
      refine e_icmp_ge (pc := 201) dX7_next_201 (t := 208) (by decide) (fun _ => ?_) (fun c_201 => absurd c_162 c_201)
      refine e_iloadn (pc := 208) dX7_next_208 rfl ?_
      refine e_iconst (v := 3) (pc := 209) dX7_next_209 (by decide) ?_
      refine e_isub (pc := 210) dX7_next_210 ?_
      refine put_y_value (pc := 211) dX7_next_211 pX7_102 ?_
      refine e_goto (pc := 214) dX7_next_214 (t := 403) (by decide) ?_
      exact e_vret (pc := 403) dX7_next_403 rfl (Nat.le_refl _) (Nat.le_refl _) (by refine ⟨rfl, _, ?_, rfl⟩; exact ⟨h0, h1, by show _ = ynk _; unfold ynk; rw [if_neg ((w3 _ hw).mp c_162), if_pos (Classical.not_not.mp (fun q => c_172 ((w9 _ hw).mpr q)))]; rfl, by show _ = ynv _; unfold ynv; rw [if_neg ((w3 _ hw).mp c_162)]; rfl, yK_up (yK_up hk (by decide)) (by decide)⟩)
  · skip
    refine e_iconst (v := 3) (pc := 165) dX7_next_165 (by decide) ?_
    refine e_goto (pc := 166) dX7_next_166 (t := 195) (by decide) ?_
    refine put_y_token (pc := 195) dX7_next_195 pX7_99 ?_
    refine e_aloadn (pc := 198) dX7_next_198 rfl ?_
    refine e_iloadn (pc := 199) dX7_next_199 rfl ?_
    refine e_iconst (v := 3) (pc := 200) dX7_next_200 (by decide) ?_
    refine e_icmp_ge (pc := 201) dX7_next_201 (t := 208) (by decide) (fun c_201 => absurd c_201 c_162) (fun _ => ?_)
    refine e_iloadn (pc := 204) dX7_next_204 rfl ?_
    refine e_goto (pc := 205) dX7_next_205 (t := 211) (by decide) ?_
    refine put_y_value (pc := 211) dX7_next_211 pX7_102 ?_
    refine e_goto (pc := 214) dX7_next_214 (t := 403) (by decide) ?_
    exact e_vret (pc := 403) dX7_next_403 rfl (Nat.le_refl _) (Nat.le_refl _) (by refine ⟨rfl, _, ?_, rfl⟩; exact ⟨h0, h1, by show _ = ynk _; unfold ynk; rw [if_pos (Classical.not_not.mp (fun q => c_162 ((w3 _ hw).mpr q)))]; rfl, by show _ = ynv _; unfold ynv; rw [if_pos (Classical.not_not.mp (fun q => c_162 ((w3 _ hw).mpr q)))]; rfl, yK_up (yK_up hk (by decide)) (by decide)⟩)
