/-! copies -/
def ycx (A C N k : Nat) : Nat := if A < C then N - 1 - k else k
def ycp (A C N : Nat) : Nat → Nat → List Int32 → List Int32
  | 0, _, l => l
  | g + 1, k, l => ycp A C N g (k + 1) (l.set (C + ycx A C N k) (l.getD (A + ycx A C N k) 0))
theorem ycp_len (A C N : Nat) : ∀ g k l, (ycp A C N g k l).length = l.length := by
  intro g
  induction g with
  | zero => intro k l; rfl
  | succ g ih => intro k l; unfold ycp; rw [ih, List.length_set]
def ycyr (b : Nat → List Int32) (s i o j k : Int32) : Int32 :=
  if mc_wi s 0 3 = false ∨ mc_wi o 0 3 = false then -2 else if gt (b 7) s = -1 ∨ gt (b 7) o = -1 then -11 else if ¬ gt (b 7) s = gt (b 7) o then -13
  else if k < 0 ∨ i < 0 ∨ j < 0 ∨ gt (b 8) s < i ∨ gt (b 8) o < j ∨ gt (b 8) s - i < k ∨ gt (b 8) o - j < k then -12 else 0
def ycy1 (b : Nat → List Int32) (s i o j k : Int32) : Int32 := if ycyr b s i o j k = 0 then k else ycyr b s i o j k
def ycyb (b : Nat → List Int32) (s i o j k : Int32) : Nat → List Int32 := if ycyr b s i o j k = 0 then mc_up b 9 (ycp (40 * s + i).toNatClampNeg (40 * o + j).toNatClampNeg k.toNatClampNeg k.toNatClampNeg 0 (b 9)) else b
theorem lp_y_copy {s u m n : Nat → Int32} {a c d : Nat → List Int32} {q : List (Option Nat)} {h : Nat} {z : mc_W} {B : Nat → List Int32} {L : List Int32} {s0 i0 o0 j0 : Int32} {A C N : Nat} (hA : A + N ≤ 160) (hC : C + N ≤ 160) :
    ∀ (g k : Nat) (l : List Int32) (b : Nat → List Int32) (x9 : Option Value), b = mc_up B 9 l → k + g = N → l.length = 160 → ycp A C N g k l = L →
      mc_E RX7 cX7_copy 10 (mc_JM (some .int) false 2 0 0 (fun r' w' => r' = some (.int (nI N)) ∧ w' = WW s a q u c h m (mc_up B 9 L) n d z)) 147 [some (.ref 29), some (.int s0), some (.int i0), some (.int o0), some (.int j0), some (.int (nI N)), some (.int (nI A)), some (.int (nI C)), some (.int (nI k)), x9] [] (WW s a q u c h m b n d z) 0 0 := by
  intro g
  induction g with
  | zero =>
    intro k l b x9 hb hk hl hV
    have e : k = N := by omega
    subst e
    have hV : l = L := hV
    subst hV hb
    refine e_iload (pc := 147) dX7_copy_147 rfl ?_
    refine e_iload (pc := 149) dX7_copy_149 rfl ?_
    refine e_icmp_ge (pc := 151) dX7_copy_151 (t := 201) (by decide) (fun _ => ?_) (fun c_151 => absurd (Int32.le_refl _) c_151)
    refine e_iload (pc := 201) dX7_copy_201 rfl ?_
    exact e_iret (pc := 203) dX7_copy_203 rfl (Nat.le_refl _) (Nat.le_refl _) ⟨rfl, rfl⟩
  | succ g ih =>
    intro k l b x9 hb hk hl hV
    subst hb
    simp only [ycp] at hV
    have hx : ycx A C N k < N := by unfold ycx; split <;> omega
    have GO : ∀ X : Nat, X = ycx A C N k → vp_in (nI A + nI X) ((mc_up B 9 l) 9).length ∧ (nI A + nI X).toNatClampNeg = A + X ∧ vp_in (nI C + nI X) ((mc_up B 9 l) 9).length ∧ (nI C + nI X).toNatClampNeg = C + X := fun X hX => by
      have e : (mc_up B 9 l) 9 = l := rfl
      rw [e, hl, nI_add, nI_add]
      exact ⟨vp_in_nI (by omega) (by decide), nIc (by omega), vp_in_nI (by omega) (by decide), nIc (by omega)⟩
    by_cases hAC : A < C
    · have hX : N - 1 - k = ycx A C N k := by unfold ycx; rw [if_pos hAC]
      obtain ⟨g1, g2, g3, g4⟩ := GO _ hX
      have e1 : nI N - 1 - nI k = nI (N - 1 - k) := by rw [nI_sub1 (by omega), pk_sub (by omega)]
      have ex : ((mc_up B 9 l) 9).getD (nI A + nI (N - 1 - k)).toNatClampNeg 0 = l.getD (A + ycx A C N k) 0 := by rw [g2, hX]; rfl
      refine e_iload (pc := 147) dX7_copy_147 rfl ?_
      refine e_iload (pc := 149) dX7_copy_149 rfl ?_
      refine e_icmp_ge (pc := 151) dX7_copy_151 (t := 201) (by decide) (fun c_151 => absurd c_151 (nI_ge (by omega : k < N) (by omega))) (fun _ => ?_)
      refine e_iload (pc := 154) dX7_copy_154 rfl ?_
      refine e_iload (pc := 156) dX7_copy_156 rfl ?_
      refine e_icmp_ge (pc := 158) dX7_copy_158 (t := 171) (by decide) (fun c_158 => absurd c_158 (nI_ge hAC (by omega))) (fun _ => ?_)
      refine e_iload (pc := 161) dX7_copy_161 rfl ?_
      refine e_iconst (v := 1) (pc := 163) dX7_copy_163 (by decide) ?_
      refine e_isub (pc := 164) dX7_copy_164 ?_
      refine e_iload (pc := 165) dX7_copy_165 rfl ?_
      refine e_isub (pc := 167) dX7_copy_167 ?_
      refine e_top (e1) ?_
      refine e_goto (pc := 168) dX7_copy_168 (t := 173) (by decide) ?_
      refine e_isw9 (pc := 173) dX7_copy_173 (Nat.le_of_ble_eq_true rfl) rfl ?_
      refine e_aloadn (pc := 175) dX7_copy_175 rfl ?_
      refine e_get (pc := 176) dX7_copy_176 fX7_44 rfl rfl ?_
      refine e_iload (pc := 179) dX7_copy_179 rfl ?_
      refine e_iload (pc := 181) dX7_copy_181 rfl ?_
      refine e_iadd (pc := 183) dX7_copy_183 ?_
      refine e_aloadn (pc := 184) dX7_copy_184 rfl ?_
      refine e_get (pc := 185) dX7_copy_185 fX7_44 rfl rfl ?_
      refine e_iload (pc := 188) dX7_copy_188 rfl ?_
      refine e_iload (pc := 190) dX7_copy_190 rfl ?_
      refine e_iadd (pc := 192) dX7_copy_192 ?_
      refine aldv_ycells (pc := 193) dX7_copy_193 g1 ex ?_
      refine ast_ycells (pc := 194) dX7_copy_194 g3 ?_
      rw [up_setl, g4, hX]
      refine e_incC8 (pc := 195) dX7_copy_195 (nI_1 k) (Nat.le_of_ble_eq_true rfl) rfl ?_
      refine e_goto (pc := 198) dX7_copy_198 (t := 147) (by decide) ?_
      exact ih (k + 1) _ _ _ rfl (by omega) (by rw [List.length_set]; exact hl) hV
    · have hX : k = ycx A C N k := by unfold ycx; rw [if_neg hAC]
      obtain ⟨g1, g2, g3, g4⟩ := GO _ hX
      have ex : ((mc_up B 9 l) 9).getD (nI A + nI k).toNatClampNeg 0 = l.getD (A + ycx A C N k) 0 := by rw [g2]; exact congrArg (fun t => l.getD (A + t) 0) hX
      refine e_iload (pc := 147) dX7_copy_147 rfl ?_
      refine e_iload (pc := 149) dX7_copy_149 rfl ?_
      refine e_icmp_ge (pc := 151) dX7_copy_151 (t := 201) (by decide) (fun c_151 => absurd c_151 (nI_ge (by omega : k < N) (by omega))) (fun _ => ?_)
      refine e_iload (pc := 154) dX7_copy_154 rfl ?_
      refine e_iload (pc := 156) dX7_copy_156 rfl ?_
      refine e_icmp_ge (pc := 158) dX7_copy_158 (t := 171) (by decide) (fun _ => ?_) (fun c_158 => absurd (nI_le (by omega) (by omega)) c_158)
      refine e_iload (pc := 171) dX7_copy_171 rfl ?_
      refine e_isw9 (pc := 173) dX7_copy_173 (Nat.le_of_ble_eq_true rfl) rfl ?_
      refine e_aloadn (pc := 175) dX7_copy_175 rfl ?_
      refine e_get (pc := 176) dX7_copy_176 fX7_44 rfl rfl ?_
      refine e_iload (pc := 179) dX7_copy_179 rfl ?_
      refine e_iload (pc := 181) dX7_copy_181 rfl ?_
      refine e_iadd (pc := 183) dX7_copy_183 ?_
      refine e_aloadn (pc := 184) dX7_copy_184 rfl ?_
      refine e_get (pc := 185) dX7_copy_185 fX7_44 rfl rfl ?_
      refine e_iload (pc := 188) dX7_copy_188 rfl ?_
      refine e_iload (pc := 190) dX7_copy_190 rfl ?_
      refine e_iadd (pc := 192) dX7_copy_192 ?_
      refine aldv_ycells (pc := 193) dX7_copy_193 g1 ex ?_
      refine ast_ycells (pc := 194) dX7_copy_194 g3 ?_
      rw [up_setl, g4, show C + k = C + ycx A C N k from congrArg (C + ·) hX]
      refine e_incC8 (pc := 195) dX7_copy_195 (nI_1 k) (Nat.le_of_ble_eq_true rfl) rfl ?_
      refine e_goto (pc := 198) dX7_copy_198 (t := 147) (by decide) ?_
      exact ih (k + 1) _ _ _ rfl (by omega) (by rw [List.length_set]; exact hl) hV
theorem sp_y_copy {s u m n : Nat → Int32} {a c b d : Nat → List Int32} {q : List (Option Nat)} {h : Nat} {z : mc_W} {s0 i o j k : Int32} (hL : yL b) (hS : ySh b) : mc_D yX7_copy cX7_copy 10 (some .int) 2 [.ref 29, .int s0, .int i, .int o, .int j, .int k] (WW s a q u c h m b n d z) (some (.int (ycy1 b s0 i o j k))) (WW s a q u c h m (ycyb b s0 i o j k) n d z) := by
  refine mc_start (own := RX7) (ini := false) rfl (by decide +kernel) (fun h => by cases h) (Nat.le_of_ble_eq_true rfl) ?_
  show mc_E _ _ _ _ _ [some (.ref 29), some (.int s0), some (.int i), some (.int o), some (.int j), some (.int k), none, none, none, none] [] _ _ _
  have q6 : ¬ mc_b (mc_wi s0 0 3) = 0 → mc_wi s0 0 3 = true := fun q => mc_b1.mp q
  refine e_iloadn (pc := 0) dX7_copy_0 rfl ?_
  refine e_iconst (v := 0) (pc := 1) dX7_copy_1 (by decide) ?_
  refine e_iconst (v := 3) (pc := 2) dX7_copy_2 (by decide) ?_
  refine e_csD (pc := 3) (sp_y_in) dX7_copy_3 kX7_75 rfl rfl (mc_CR_of (Nat.le_of_ble_eq_true rfl) (Nat.le_of_ble_eq_true rfl) (Nat.le_refl _) (Nat.le_refl _)) (Nat.le_of_ble_eq_true rfl) ?_
  refine e_if_eq (pc := 6) dX7_copy_6 (t := 18) (by decide) (fun c_6 => ?_) (fun c_6 => ?_)
  · skip
    refine e_bipush (v := -2) (pc := 18) dX7_copy_18 (by decide) ?_
    exact e_iret (pc := 20) dX7_copy_20 rfl (Nat.le_refl _) (Nat.le_refl _) (have e1 : ycyr b s0 i o j k = -2 := (by unfold ycyr; rw [if_pos (Or.inl (mc_b0.mp c_6))]); ⟨by unfold ycy1; rw [e1]; rfl, by unfold ycyb; rw [e1]; rfl⟩)
  · skip
    refine e_iloadn (pc := 9) dX7_copy_9 rfl ?_
    refine e_iconst (v := 0) (pc := 10) dX7_copy_10 (by decide) ?_
    refine e_iconst (v := 3) (pc := 11) dX7_copy_11 (by decide) ?_
    refine e_csD (pc := 12) (sp_y_in) dX7_copy_12 kX7_75 rfl rfl (mc_CR_of (Nat.le_of_ble_eq_true rfl) (Nat.le_of_ble_eq_true rfl) (Nat.le_refl _) (Nat.le_refl _)) (Nat.le_of_ble_eq_true rfl) ?_
    refine e_if_ne (pc := 15) dX7_copy_15 (t := 21) (by decide) (fun c_15 => ?_) (fun c_15 => ?_)
    · skip
      refine e_aloadn (pc := 21) dX7_copy_21 rfl ?_
      refine e_get (pc := 22) dX7_copy_22 fX7_38 rfl rfl ?_
      refine e_iloadn (pc := 25) dX7_copy_25 rfl ?_
      refine ald_sheetSort (pc := 26) dX7_copy_26 (sh7 hL (q6 c_6)) ?_
      refine e_iconst (v := -1) (pc := 27) dX7_copy_27 (by decide) ?_
      refine e_icmp_eq (pc := 28) dX7_copy_28 (t := 41) (by decide) (fun c_28 => ?_) (fun c_28 => ?_)
      · skip
        refine e_bipush (v := -11) (pc := 41) dX7_copy_41 (by decide) ?_
        exact e_iret (pc := 43) dX7_copy_43 rfl (Nat.le_refl _) (Nat.le_refl _) (have e1 : ycyr b s0 i o j k = -11 := (by unfold ycyr; rw [if_neg (fun q => q.elim (nbf (mc_b1.mp c_6)) (nbf (mc_b1.mp c_15))), if_pos (c := gt (b 7) s0 = -1 ∨ gt (b 7) o = -1) (Or.inl c_28)]); ⟨by unfold ycy1; rw [e1]; rfl, by unfold ycyb; rw [e1]; rfl⟩)
      · skip
        refine e_aloadn (pc := 31) dX7_copy_31 rfl ?_
        refine e_get (pc := 32) dX7_copy_32 fX7_38 rfl rfl ?_
        refine e_iloadn (pc := 35) dX7_copy_35 rfl ?_
        refine ald_sheetSort (pc := 36) dX7_copy_36 (sh7 hL (mc_b1.mp c_15)) ?_
        refine e_iconst (v := -1) (pc := 37) dX7_copy_37 (by decide) ?_
        refine e_icmp_ne (pc := 38) dX7_copy_38 (t := 44) (by decide) (fun c_38 => ?_) (fun c_38 => ?_)
        · skip
          refine e_aloadn (pc := 44) dX7_copy_44 rfl ?_
          refine e_get (pc := 45) dX7_copy_45 fX7_38 rfl rfl ?_
          refine e_iloadn (pc := 48) dX7_copy_48 rfl ?_
          refine ald_sheetSort (pc := 49) dX7_copy_49 (sh7 hL (q6 c_6)) ?_
          refine e_aloadn (pc := 50) dX7_copy_50 rfl ?_
          refine e_get (pc := 51) dX7_copy_51 fX7_38 rfl rfl ?_
          refine e_iloadn (pc := 54) dX7_copy_54 rfl ?_
          refine ald_sheetSort (pc := 55) dX7_copy_55 (sh7 hL (mc_b1.mp c_15)) ?_
          refine e_icmp_eq (pc := 56) dX7_copy_56 (t := 62) (by decide) (fun c_56 => ?_) (fun c_56 => ?_)
          · skip
            refine e_iload (pc := 62) dX7_copy_62 rfl ?_
            refine e_if_lt (pc := 64) dX7_copy_64 (t := 124) (by decide) (fun c_64 => ?_) (fun c_64 => ?_)
            · skip
              refine e_bipush (v := -12) (pc := 124) dX7_copy_124 (by decide) ?_
              exact e_iret (pc := 126) dX7_copy_126 rfl (Nat.le_refl _) (Nat.le_refl _) (have e1 : ycyr b s0 i o j k = -12 := (by unfold ycyr; rw [if_neg (fun q => q.elim (nbf (mc_b1.mp c_6)) (nbf (mc_b1.mp c_15))), if_neg (c := gt (b 7) s0 = -1 ∨ gt (b 7) o = -1) (fun q => q.elim c_28 c_38), if_neg (c := ¬ gt (b 7) s0 = gt (b 7) o) (fun q => q c_56), if_pos (c := k < 0 ∨ i < 0 ∨ j < 0 ∨ gt (b 8) s0 < i ∨ gt (b 8) o < j ∨ gt (b 8) s0 - i < k ∨ gt (b 8) o - j < k) (Or.inl c_64)]); ⟨by unfold ycy1; rw [e1]; rfl, by unfold ycyb; rw [e1]; rfl⟩)
            · skip
              refine e_iloadn (pc := 67) dX7_copy_67 rfl ?_
              refine e_if_lt (pc := 68) dX7_copy_68 (t := 124) (by decide) (fun c_68 => ?_) (fun c_68 => ?_)
              · skip
                refine e_bipush (v := -12) (pc := 124) dX7_copy_124 (by decide) ?_
                exact e_iret (pc := 126) dX7_copy_126 rfl (Nat.le_refl _) (Nat.le_refl _) (have e1 : ycyr b s0 i o j k = -12 := (by unfold ycyr; rw [if_neg (fun q => q.elim (nbf (mc_b1.mp c_6)) (nbf (mc_b1.mp c_15))), if_neg (c := gt (b 7) s0 = -1 ∨ gt (b 7) o = -1) (fun q => q.elim c_28 c_38), if_neg (c := ¬ gt (b 7) s0 = gt (b 7) o) (fun q => q c_56), if_pos (c := k < 0 ∨ i < 0 ∨ j < 0 ∨ gt (b 8) s0 < i ∨ gt (b 8) o < j ∨ gt (b 8) s0 - i < k ∨ gt (b 8) o - j < k) (Or.inr (Or.inl c_68))]); ⟨by unfold ycy1; rw [e1]; rfl, by unfold ycyb; rw [e1]; rfl⟩)
              · skip
                refine e_iload (pc := 71) dX7_copy_71 rfl ?_
                refine e_if_lt (pc := 73) dX7_copy_73 (t := 124) (by decide) (fun c_73 => ?_) (fun c_73 => ?_)
                · skip
                  refine e_bipush (v := -12) (pc := 124) dX7_copy_124 (by decide) ?_
                  exact e_iret (pc := 126) dX7_copy_126 rfl (Nat.le_refl _) (Nat.le_refl _) (have e1 : ycyr b s0 i o j k = -12 := (by unfold ycyr; rw [if_neg (fun q => q.elim (nbf (mc_b1.mp c_6)) (nbf (mc_b1.mp c_15))), if_neg (c := gt (b 7) s0 = -1 ∨ gt (b 7) o = -1) (fun q => q.elim c_28 c_38), if_neg (c := ¬ gt (b 7) s0 = gt (b 7) o) (fun q => q c_56), if_pos (c := k < 0 ∨ i < 0 ∨ j < 0 ∨ gt (b 8) s0 < i ∨ gt (b 8) o < j ∨ gt (b 8) s0 - i < k ∨ gt (b 8) o - j < k) (Or.inr (Or.inr (Or.inl c_73)))]); ⟨by unfold ycy1; rw [e1]; rfl, by unfold ycyb; rw [e1]; rfl⟩)
                · skip
                  refine e_iloadn (pc := 76) dX7_copy_76 rfl ?_
                  refine e_aloadn (pc := 77) dX7_copy_77 rfl ?_
                  refine e_get (pc := 78) dX7_copy_78 fX7_41 rfl rfl ?_
                  refine e_iloadn (pc := 81) dX7_copy_81 rfl ?_
                  refine ald_sheetSize (pc := 82) dX7_copy_82 (sh8 hL (q6 c_6)) ?_
                  refine e_icmp_gt (pc := 83) dX7_copy_83 (t := 124) (by decide) (fun c_83 => ?_) (fun c_83 => ?_)
                  · skip
                    refine e_bipush (v := -12) (pc := 124) dX7_copy_124 (by decide) ?_
                    exact e_iret (pc := 126) dX7_copy_126 rfl (Nat.le_refl _) (Nat.le_refl _) (have e1 : ycyr b s0 i o j k = -12 := (by unfold ycyr; rw [if_neg (fun q => q.elim (nbf (mc_b1.mp c_6)) (nbf (mc_b1.mp c_15))), if_neg (c := gt (b 7) s0 = -1 ∨ gt (b 7) o = -1) (fun q => q.elim c_28 c_38), if_neg (c := ¬ gt (b 7) s0 = gt (b 7) o) (fun q => q c_56), if_pos (c := k < 0 ∨ i < 0 ∨ j < 0 ∨ gt (b 8) s0 < i ∨ gt (b 8) o < j ∨ gt (b 8) s0 - i < k ∨ gt (b 8) o - j < k) (Or.inr (Or.inr (Or.inr (Or.inl c_83))))]); ⟨by unfold ycy1; rw [e1]; rfl, by unfold ycyb; rw [e1]; rfl⟩)
                  · skip
                    refine e_iload (pc := 86) dX7_copy_86 rfl ?_
                    refine e_aloadn (pc := 88) dX7_copy_88 rfl ?_
                    refine e_get (pc := 89) dX7_copy_89 fX7_41 rfl rfl ?_
                    refine e_iloadn (pc := 92) dX7_copy_92 rfl ?_
                    refine ald_sheetSize (pc := 93) dX7_copy_93 (sh8 hL (mc_b1.mp c_15)) ?_
                    refine e_icmp_gt (pc := 94) dX7_copy_94 (t := 124) (by decide) (fun c_94 => ?_) (fun c_94 => ?_)
                    · skip
                      refine e_bipush (v := -12) (pc := 124) dX7_copy_124 (by decide) ?_
                      exact e_iret (pc := 126) dX7_copy_126 rfl (Nat.le_refl _) (Nat.le_refl _) (have e1 : ycyr b s0 i o j k = -12 := (by unfold ycyr; rw [if_neg (fun q => q.elim (nbf (mc_b1.mp c_6)) (nbf (mc_b1.mp c_15))), if_neg (c := gt (b 7) s0 = -1 ∨ gt (b 7) o = -1) (fun q => q.elim c_28 c_38), if_neg (c := ¬ gt (b 7) s0 = gt (b 7) o) (fun q => q c_56), if_pos (c := k < 0 ∨ i < 0 ∨ j < 0 ∨ gt (b 8) s0 < i ∨ gt (b 8) o < j ∨ gt (b 8) s0 - i < k ∨ gt (b 8) o - j < k) (Or.inr (Or.inr (Or.inr (Or.inr (Or.inl c_94)))))]); ⟨by unfold ycy1; rw [e1]; rfl, by unfold ycyb; rw [e1]; rfl⟩)
                    · skip
                      refine e_iload (pc := 97) dX7_copy_97 rfl ?_
                      refine e_aloadn (pc := 99) dX7_copy_99 rfl ?_
                      refine e_get (pc := 100) dX7_copy_100 fX7_41 rfl rfl ?_
                      refine e_iloadn (pc := 103) dX7_copy_103 rfl ?_
                      refine ald_sheetSize (pc := 104) dX7_copy_104 (sh8 hL (q6 c_6)) ?_
                      refine e_iloadn (pc := 105) dX7_copy_105 rfl ?_
                      refine e_isub (pc := 106) dX7_copy_106 ?_
                      refine e_icmp_gt (pc := 107) dX7_copy_107 (t := 124) (by decide) (fun c_107 => ?_) (fun c_107 => ?_)
                      · skip
                        refine e_bipush (v := -12) (pc := 124) dX7_copy_124 (by decide) ?_
                        exact e_iret (pc := 126) dX7_copy_126 rfl (Nat.le_refl _) (Nat.le_refl _) (have e1 : ycyr b s0 i o j k = -12 := (by unfold ycyr; rw [if_neg (fun q => q.elim (nbf (mc_b1.mp c_6)) (nbf (mc_b1.mp c_15))), if_neg (c := gt (b 7) s0 = -1 ∨ gt (b 7) o = -1) (fun q => q.elim c_28 c_38), if_neg (c := ¬ gt (b 7) s0 = gt (b 7) o) (fun q => q c_56), if_pos (c := k < 0 ∨ i < 0 ∨ j < 0 ∨ gt (b 8) s0 < i ∨ gt (b 8) o < j ∨ gt (b 8) s0 - i < k ∨ gt (b 8) o - j < k) (Or.inr (Or.inr (Or.inr (Or.inr (Or.inr (Or.inl c_107))))))]); ⟨by unfold ycy1; rw [e1]; rfl, by unfold ycyb; rw [e1]; rfl⟩)
                      · skip
                        refine e_iload (pc := 110) dX7_copy_110 rfl ?_
                        refine e_aloadn (pc := 112) dX7_copy_112 rfl ?_
                        refine e_get (pc := 113) dX7_copy_113 fX7_41 rfl rfl ?_
                        refine e_iloadn (pc := 116) dX7_copy_116 rfl ?_
                        refine ald_sheetSize (pc := 117) dX7_copy_117 (sh8 hL (mc_b1.mp c_15)) ?_
                        refine e_iload (pc := 118) dX7_copy_118 rfl ?_
                        refine e_isub (pc := 120) dX7_copy_120 ?_
                        refine e_icmp_le (pc := 121) dX7_copy_121 (t := 127) (by decide) (fun c_121 => ?_) (fun c_121 => ?_)
                        · skip
                          have e1 : ycyr b s0 i o j k = 0 := by
                            unfold ycyr
                            rw [if_neg (fun q => q.elim (nbf (mc_b1.mp c_6)) (nbf (mc_b1.mp c_15))), if_neg (c := gt (b 7) s0 = -1 ∨ gt (b 7) o = -1) (fun q => q.elim c_28 c_38), if_neg (c := ¬ gt (b 7) s0 = gt (b 7) o) (fun q => q c_56), if_neg (c := k < 0 ∨ i < 0 ∨ j < 0 ∨ gt (b 8) s0 < i ∨ gt (b 8) o < j ∨ gt (b 8) s0 - i < k ∨ gt (b 8) o - j < k) (fun q => q.elim c_64 (fun q => q.elim c_68 (fun q => q.elim c_73 (fun q => q.elim c_83 (fun q => q.elim c_94 (fun q => q.elim c_107 (fun q => absurd q (Int32.not_lt.mpr c_121))))))))]
                          have e2 : ycy1 b s0 i o j k = k := by unfold ycy1; rw [if_pos e1]
                          have e3 : ycyb b s0 i o j k = mc_up b 9 (ycp (40 * s0 + i).toNatClampNeg (40 * o + j).toNatClampNeg k.toNatClampNeg k.toNatClampNeg 0 (b 9)) := by unfold ycyb; rw [if_pos e1]
                          rw [e2, e3]
                          clear e1 e2 e3
                          obtain ⟨σ, z1, h4, rfl, hz1, es⟩ := sh_size hS (mc_b1.mp c_6)
                          obtain ⟨τ, z2, h5, rfl, hz2, eo⟩ := sh_size hS (mc_b1.mp c_15)
                          have z0 : (0 : Int32).toInt = 0 := rfl
                          rw [Int32.lt_iff_toInt_lt, z0] at c_64 c_68 c_73
                          rw [Int32.lt_iff_toInt_lt] at c_83 c_94 c_107
                          rw [Int32.le_iff_toInt_le] at c_121
                          have es2 : (b 8).getD (nI σ).toNatClampNeg 0 = nI z1 := es
                          have eo2 : (b 8).getD (nI τ).toNatClampNeg 0 = nI z2 := eo
                          rw [es2] at c_83 c_107
                          rw [eo2] at c_94 c_121
                          have tz1 := nI_toInt (n := z1) (by omega)
                          have tz2 := nI_toInt (n := z2) (by omega)
                          rw [pk_subT (by omega) (by omega), tz1] at c_107
                          rw [pk_subT (by omega) (by omega), tz2] at c_121
                          rw [tz1] at c_83
                          rw [tz2] at c_94
                          obtain ⟨K, hK, rfl⟩ : ∃ K : Nat, (K : Int) = k.toInt ∧ k = nI K := ⟨_, tnc (by omega), nI_back (by omega)⟩
                          obtain ⟨I, hI, rfl⟩ : ∃ K : Nat, (K : Int) = i.toInt ∧ i = nI K := ⟨_, tnc (by omega), nI_back (by omega)⟩
                          obtain ⟨J, hJ, rfl⟩ : ∃ K : Nat, (K : Int) = j.toInt ∧ j = nI K := ⟨_, tnc (by omega), nI_back (by omega)⟩
                          rw [nI_toInt (by omega)] at c_64 c_83 c_107 c_121
                          have eA : 40 * nI σ + nI I = nI (40 * σ + I) := by rw [show (40 : Int32) * nI σ = nI (40 * σ) from pk_mul 40 σ, nI_add]
                          have eC : 40 * nI τ + nI J = nI (40 * τ + J) := by rw [show (40 : Int32) * nI τ = nI (40 * τ) from pk_mul 40 τ, nI_add]
                          rw [eA, eC, nIc (n := 40 * σ + I) (by omega), nIc (n := 40 * τ + J) (by omega), nIc (n := K) (by omega)]
                          refine e_bipush (v := 40) (pc := 127) dX7_copy_127 (by decide) ?_
                          refine e_iloadn (pc := 129) dX7_copy_129 rfl ?_
                          refine e_imul (pc := 130) dX7_copy_130 ?_
                          refine e_iloadn (pc := 131) dX7_copy_131 rfl ?_
                          refine e_iadd (pc := 132) dX7_copy_132 ?_
                          refine e_top (eA) ?_
                          refine e_isw6 (pc := 133) dX7_copy_133 (Nat.le_of_ble_eq_true rfl) rfl ?_
                          refine e_bipush (v := 40) (pc := 135) dX7_copy_135 (by decide) ?_
                          refine e_iloadn (pc := 137) dX7_copy_137 rfl ?_
                          refine e_imul (pc := 138) dX7_copy_138 ?_
                          refine e_iload (pc := 139) dX7_copy_139 rfl ?_
                          refine e_iadd (pc := 141) dX7_copy_141 ?_
                          refine e_top (eC) ?_
                          refine e_isw7 (pc := 142) dX7_copy_142 (Nat.le_of_ble_eq_true rfl) rfl ?_
                          refine e_iconst (v := 0) (pc := 144) dX7_copy_144 (by decide) ?_
                          refine e_isw8 (pc := 145) dX7_copy_145 (Nat.le_of_ble_eq_true rfl) rfl ?_
                          exact lp_y_copy (by omega) (by omega) K 0 (b 9) b none (mc_up_self b 9).symm (by omega) hL.2.2.2.2.2.2.2.2.2 rfl
                        · skip
                          refine e_bipush (v := -12) (pc := 124) dX7_copy_124 (by decide) ?_
                          exact e_iret (pc := 126) dX7_copy_126 rfl (Nat.le_refl _) (Nat.le_refl _) (have e1 : ycyr b s0 i o j k = -12 := (by unfold ycyr; rw [if_neg (fun q => q.elim (nbf (mc_b1.mp c_6)) (nbf (mc_b1.mp c_15))), if_neg (c := gt (b 7) s0 = -1 ∨ gt (b 7) o = -1) (fun q => q.elim c_28 c_38), if_neg (c := ¬ gt (b 7) s0 = gt (b 7) o) (fun q => q c_56), if_pos (c := k < 0 ∨ i < 0 ∨ j < 0 ∨ gt (b 8) s0 < i ∨ gt (b 8) o < j ∨ gt (b 8) s0 - i < k ∨ gt (b 8) o - j < k) (Or.inr (Or.inr (Or.inr (Or.inr (Or.inr (Or.inr (Int32.not_le.mp c_121)))))))]); ⟨by unfold ycy1; rw [e1]; rfl, by unfold ycyb; rw [e1]; rfl⟩)
          · skip
            refine e_bipush (v := -13) (pc := 59) dX7_copy_59 (by decide) ?_
            exact e_iret (pc := 61) dX7_copy_61 rfl (Nat.le_refl _) (Nat.le_refl _) (have e1 : ycyr b s0 i o j k = -13 := (by unfold ycyr; rw [if_neg (fun q => q.elim (nbf (mc_b1.mp c_6)) (nbf (mc_b1.mp c_15))), if_neg (c := gt (b 7) s0 = -1 ∨ gt (b 7) o = -1) (fun q => q.elim c_28 c_38), if_pos (c := ¬ gt (b 7) s0 = gt (b 7) o) c_56]); ⟨by unfold ycy1; rw [e1]; rfl, by unfold ycyb; rw [e1]; rfl⟩)
        · skip
          refine e_bipush (v := -11) (pc := 41) dX7_copy_41 (by decide) ?_
          exact e_iret (pc := 43) dX7_copy_43 rfl (Nat.le_refl _) (Nat.le_refl _) (have e1 : ycyr b s0 i o j k = -11 := (by unfold ycyr; rw [if_neg (fun q => q.elim (nbf (mc_b1.mp c_6)) (nbf (mc_b1.mp c_15))), if_pos (c := gt (b 7) s0 = -1 ∨ gt (b 7) o = -1) (Or.inr c_38)]); ⟨by unfold ycy1; rw [e1]; rfl, by unfold ycyb; rw [e1]; rfl⟩)
    · skip
      refine e_bipush (v := -2) (pc := 18) dX7_copy_18 (by decide) ?_
      exact e_iret (pc := 20) dX7_copy_20 rfl (Nat.le_refl _) (Nat.le_refl _) (have e1 : ycyr b s0 i o j k = -2 := (by unfold ycyr; rw [if_pos (Or.inr (mc_b0.mp c_15))]); ⟨by unfold ycy1; rw [e1]; rfl, by unfold ycyb; rw [e1]; rfl⟩)
