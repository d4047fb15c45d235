/-! kinds -/
theorem up_self2 {b : Nat → List Int32} {k i : Nat} (h : i < (b k).length) : mc_up b k ((b k).set i ((b k).getD i 0)) = b := by
  have e : (b k).set i ((b k).getD i 0) = b k := by
    have := set_back (xs := b k) (x := (b k).getD i 0) h
    rw [List.set_set] at this
    exact this
  rw [e, mc_up_self]
def ykb (B : Nat → List Int32) (k x y : Int32) : Nat → List Int32 := mc_up (mc_up B 0 ((B 0).set k.toNatClampNeg x)) 1 ((B 1).set k.toNatClampNeg y)
theorem ykb_self {B : Nat → List Int32} {k : Int32} (h0 : vp_in k (B 0).length) (h1 : vp_in k (B 1).length) : ykb B k (gt (B 0) k) (gt (B 1) k) = B := by
  unfold ykb gt
  rw [up_self2 (vp_clt h0), up_self2 (vp_clt h1)]
theorem ykb_over {B : Nat → List Int32} {k x y x2 y2 : Int32} : ykb (ykb B k x y) k x2 y2 = ykb B k x2 y2 := by
  have e0 : (ykb B k x y) 0 = (B 0).set k.toNatClampNeg x := rfl
  have e1 : (ykb B k x y) 1 = (B 1).set k.toNatClampNeg y := rfl
  funext j
  show mc_up (mc_up (ykb B k x y) 0 (((ykb B k x y) 0).set k.toNatClampNeg x2)) 1 (((ykb B k x y) 1).set k.toNatClampNeg y2) j = _
  rw [e0, e1, List.set_set, List.set_set]
  unfold ykb mc_up
  by_cases h1 : j = 1
  · subst h1; rfl
  · by_cases h0 : j = 0
    · subst h0; rfl
    · rw [if_neg h1, if_neg h1, if_neg h0, if_neg h1, if_neg h0, if_neg h0]
theorem yG_kinds {M : Nat → Int32} {B : Nat → List Int32} (h : yG M B) (k : Int32) {x y z : Int32} (hx : 0 ≤ x.toInt ∧ x.toInt ≤ 5) (hy : 0 ≤ y.toInt ∧ y.toInt ≤ 9) (hz : 2 ≤ z.toInt ∧ z.toInt ≤ 12) : yG (mc_up M 0 z) (ykb B k x y) := by
  obtain ⟨hL, hC, h0, h4, h5, h6⟩ := h
  have e0 : (ykb B k x y) 0 = (B 0).set k.toNatClampNeg x := rfl
  have e1 : (ykb B k x y) 1 = (B 1).set k.toNatClampNeg y := rfl
  refine ⟨⟨by rw [e0, List.length_set]; exact hL.1, by rw [e1, List.length_set]; exact hL.2.1, hL.2.2.1, hL.2.2.2.1, hL.2.2.2.2.1, hL.2.2.2.2.2.1, hL.2.2.2.2.2.2.1, hL.2.2.2.2.2.2.2.1, hL.2.2.2.2.2.2.2.2.1, hL.2.2.2.2.2.2.2.2.2⟩, hC, hz, h4, h5, fun i hi => ?_⟩
  rw [e0, e1]
  by_cases hk : k.toNatClampNeg < 5
  · rw [gD_set (by rw [hL.1]; exact hk), gD_set (by rw [hL.2.1]; exact hk)]
    by_cases e : i = k.toNatClampNeg
    · rw [if_pos e, if_pos e]; exact ⟨hx, hy⟩
    · rw [if_neg e, if_neg e]; exact h6 i hi
  · rw [List.set_eq_of_length_le (by rw [hL.1]; omega), List.set_eq_of_length_le (by rw [hL.2.1]; omega)]; exact h6 i hi
theorem yG.kr {m : Nat → Int32} {b : Nat → List Int32} (h : yG m b) {k : Int32} (hk : mc_wi k 0 (m 2 - 1) = true) : (0 ≤ (gt (b 0) k).toInt ∧ (gt (b 0) k).toInt ≤ 5) ∧ 0 ≤ (gt (b 1) k).toInt ∧ (gt (b 1) k).toInt ≤ 9 :=
  h.2.2.2.2.2 _ (by have := vp_clt (h.k0 hk); rw [h.1.1] at this; exact this)
/-- the world as kinds tries it: by sort 0 the kind, 1 the more, 2 the base is v -/
def ykM (M : Nat → Int32) (so v : Int32) : Nat → Int32 := mc_up M 0 (if so = 2 then v else M 0)
def ykB (B : Nat → List Int32) (k so v : Int32) : Nat → List Int32 := ykb B k (if so = 0 then v else gt (B 0) k) (if so = 1 then v else gt (B 1) k)
def ykinds (M : Nat → Int32) (B : Nat → List Int32) (s k so : Int32) : Int32 := if ¬ ytw M B s k = 0 then ytw M B s k else if mc_wi so 0 2 = false then -7
  else ybits (fun i => yunl (ykM M so (nI i)) (ykB B k so (nI i)) s k) (if so = 0 then 6 else if so = 1 then 10 else 11) (if so = 2 then 2 else 0) 0
set_option maxHeartbeats 1000000 in
theorem lp_y_kinds0 {s u : Nat → Int32} {a c : Nat → List Int32} {q : List (Option Nat)} {h : Nat} {z : mc_W} {M : Nat → Int32} {B : Nat → List Int32} {s0 k0 V x4 : Int32} (hG : yG M B) (hS : ySh B) (h0 : ysw B s0 = 0) (hc : mc_wi k0 0 (M 2 - 1) = true) :
    ∀ (f i : Nat) (S : Int32) (m : Nat → Int32) (b : Nat → List Int32) (n : Nat → Int32) (d : Nat → List Int32), i + f = 6 → 0 ≤ i → (∀ x, mc_up m 0 x = mc_up M 0 x) → (∀ x y, ykb b k0 x y = ykb B k0 x y) → (b 0).length = 5 → (b 1).length = 5 → yD d → ybits (fun i => yunl (ykM M 0 (nI i)) (ykB B k0 0 (nI i)) s0 k0) f i S = V →
      mc_E RX7 cX7_kinds 10 (mc_JM (some .int) false 8 0 0 (fun r' w' => r' = some (.int V) ∧ ∃ n1 d1, yD d1 ∧ w' = WW s a q u c h M B n1 d1 z)) 65 [some (.ref 29), some (.int s0), some (.int k0), some (.int 0), some (.int x4), some (.int (gt (B 0) k0)), some (.int (gt (B 1) k0)), some (.int (M 0)), some (.int S), some (.int (nI i))] [] (WW s a q u c h m b n d z) 0 0 := by
  have hk5 : vp_in k0 5 := by have := hG.k0 hc; rw [hG.1.1] at this; exact this
  obtain ⟨kr0, kr1⟩ := hG.kr hc
  intro f
  induction f with
  | zero =>
    intro i S m b n d hi hlo hm hb l0 l1 hD hV
    have e : i = 6 := by omega
    subst e
    have hV : S = V := hV
    subst hV
    have v0 : vp_in k0 (b 0).length := by rw [l0]; exact hk5
    have v1 : vp_in k0 ((mc_up b 0 ((b 0).set k0.toNatClampNeg (gt (B 0) k0))) 1).length := by show vp_in k0 (b 1).length; rw [l1]; exact hk5
    have eb : mc_up (mc_up b 0 ((b 0).set k0.toNatClampNeg (gt (B 0) k0))) 1 (((mc_up b 0 ((b 0).set k0.toNatClampNeg (gt (B 0) k0))) 1).set k0.toNatClampNeg (gt (B 1) k0)) = B := (hb _ _).trans (ykb_self (hG.k0 hc) (hG.k1 hc))
    refine e_iload (pc := 65) dX7_kinds_65 rfl ?_
    refine e_iloadn (pc := 67) dX7_kinds_67 rfl ?_
    refine e_if_ne (pc := 68) dX7_kinds_68 (t := 76) (by decide) (fun c_68 => absurd c_68 (by decide)) (fun _ => ?_)
    refine e_bipush (v := 6) (pc := 71) dX7_kinds_71 (by decide) ?_
    refine e_goto (pc := 73) dX7_kinds_73 (t := 88) (by decide) ?_
    refine e_icmp_ge (pc := 88) dX7_kinds_88 (t := 171) (by decide) (fun _ => ?_) (fun c_88 => absurd (by decide) c_88)
    refine e_aloadn (pc := 171) dX7_kinds_171 rfl ?_
    refine e_get (pc := 172) dX7_kinds_172 fX7_16 rfl rfl ?_
    refine e_iloadn (pc := 175) dX7_kinds_175 rfl ?_
    refine e_iload (pc := 176) dX7_kinds_176 rfl ?_
    refine ast_kind (pc := 178) dX7_kinds_178 v0 ?_
    refine e_aloadn (pc := 179) dX7_kinds_179 rfl ?_
    refine e_get (pc := 180) dX7_kinds_180 fX7_20 rfl rfl ?_
    refine e_iloadn (pc := 183) dX7_kinds_183 rfl ?_
    refine e_iload (pc := 184) dX7_kinds_184 rfl ?_
    refine ast_ymore (pc := 186) dX7_kinds_186 v1 ?_
    rw [eb]
    refine e_aloadn (pc := 187) dX7_kinds_187 rfl ?_
    refine e_iload (pc := 188) dX7_kinds_188 rfl ?_
    refine put_y_base0 (pc := 190) dX7_kinds_190 pX7_7 ?_
    rw [hm, mc_up_self]
    refine e_iload (pc := 193) dX7_kinds_193 rfl ?_
    exact e_iret (pc := 195) dX7_kinds_195 rfl (Nat.le_refl _) (Nat.le_refl _) ⟨rfl, n, d, hD, rfl⟩
  | succ f ih =>
    intro i S m b n d hi hlo hm hb l0 l1 hD hV
    simp only [ybits] at hV
    have hii : (nI i).toInt = i := nI_toInt (by omega)
    have v0 : vp_in k0 (b 0).length := by rw [l0]; exact hk5
    have v1 : vp_in k0 ((mc_up b 0 ((b 0).set k0.toNatClampNeg (nI i))) 1).length := by show vp_in k0 (b 1).length; rw [l1]; exact hk5
    have eb : mc_up (mc_up b 0 ((b 0).set k0.toNatClampNeg (nI i))) 1 (((mc_up b 0 ((b 0).set k0.toNatClampNeg (nI i))) 1).set k0.toNatClampNeg (gt (B 1) k0)) = ykb B k0 (nI i) (gt (B 1) k0) := hb _ _
    have hG2 : yG (mc_up M 0 (M 0)) (ykb B k0 (nI i) (gt (B 1) k0)) := yG_kinds hG k0 (by omega) kr1 hG.2.2.1
    have hS2 : ySh (ykb B k0 (nI i) (gt (B 1) k0)) := hS
    have eM : ykM M 0 (nI i) = mc_up M 0 (M 0) := rfl
    have eB : ykB B k0 0 (nI i) = ykb B k0 (nI i) (gt (B 1) k0) := rfl
    skip
    refine e_iload (pc := 65) dX7_kinds_65 rfl ?_
    refine e_iloadn (pc := 67) dX7_kinds_67 rfl ?_
    refine e_if_ne (pc := 68) dX7_kinds_68 (t := 76) (by decide) (fun c_68 => absurd c_68 (by decide)) (fun _ => ?_)
    refine e_bipush (v := 6) (pc := 71) dX7_kinds_71 (by decide) ?_
    refine e_goto (pc := 73) dX7_kinds_73 (t := 88) (by decide) ?_
    refine e_icmp_ge (pc := 88) dX7_kinds_88 (t := 171) (by decide) (fun c_88 => absurd c_88 (nI_ge (by omega : i < 6) (by decide))) (fun _ => ?_)
    refine e_aloadn (pc := 91) dX7_kinds_91 rfl ?_
    refine e_get (pc := 92) dX7_kinds_92 fX7_16 rfl rfl ?_
    refine e_iloadn (pc := 95) dX7_kinds_95 rfl ?_
    refine e_iloadn (pc := 96) dX7_kinds_96 rfl ?_
    refine e_if_ne (pc := 97) dX7_kinds_97 (t := 105) (by decide) (fun c_97 => absurd c_97 (by decide)) (fun _ => ?_)
    refine e_iload (pc := 100) dX7_kinds_100 rfl ?_
    refine e_goto (pc := 102) dX7_kinds_102 (t := 107) (by decide) ?_
    refine ast_kind (pc := 107) dX7_kinds_107 v0 ?_
    refine e_aloadn (pc := 108) dX7_kinds_108 rfl ?_
    refine e_get (pc := 109) dX7_kinds_109 fX7_20 rfl rfl ?_
    refine e_iloadn (pc := 112) dX7_kinds_112 rfl ?_
    refine e_iloadn (pc := 113) dX7_kinds_113 rfl ?_
    refine e_iconst (v := 1) (pc := 114) dX7_kinds_114 (by decide) ?_
    refine e_icmp_ne (pc := 115) dX7_kinds_115 (t := 123) (by decide) (fun _ => ?_) (fun c_115 => absurd c_115 (by decide))
    refine e_iload (pc := 123) dX7_kinds_123 rfl ?_
    refine ast_ymore (pc := 125) dX7_kinds_125 v1 ?_
    rw [eb]
    refine e_aloadn (pc := 126) dX7_kinds_126 rfl ?_
    refine e_iloadn (pc := 127) dX7_kinds_127 rfl ?_
    refine e_iconst (v := 2) (pc := 128) dX7_kinds_128 (by decide) ?_
    refine e_icmp_ne (pc := 129) dX7_kinds_129 (t := 137) (by decide) (fun _ => ?_) (fun c_129 => absurd c_129 (by decide))
    refine e_iload (pc := 137) dX7_kinds_137 rfl ?_
    refine put_y_base0 (pc := 139) dX7_kinds_139 pX7_7 ?_
    rw [hm]
    refine e_iload (pc := 142) dX7_kinds_142 rfl ?_
    refine e_aloadn (pc := 144) dX7_kinds_144 rfl ?_
    refine e_iloadn (pc := 145) dX7_kinds_145 rfl ?_
    refine e_iloadn (pc := 146) dX7_kinds_146 rfl ?_
    refine e_cvX (pc := 147) (sp_y_unlike hG2 hS2 h0 hc hD) dX7_kinds_147 kX7_275 rfl rfl rfl rfl rfl (mc_CR_of (Nat.le_of_ble_eq_true rfl) (Nat.le_of_ble_eq_true rfl) (Nat.le_refl _) (Nat.le_refl _)) (Nat.le_of_ble_eq_true rfl) (fun w1 hw1 => ?_)
    obtain ⟨n1, d1, hD1, rfl⟩ := hw1
    refine e_iconst (v := -1) (pc := 150) dX7_kinds_150 (by decide) ?_
    refine e_icmp_ne (pc := 151) dX7_kinds_151 (t := 161) (by decide) (fun c_151 => ?_) (fun c_151 => ?_)
    · skip
      refine e_iconst (v := 0) (pc := 161) dX7_kinds_161 (by decide) ?_
      refine e_ior (pc := 162) dX7_kinds_162 ?_
      refine e_isw8 (pc := 163) dX7_kinds_163 (Nat.le_of_ble_eq_true rfl) rfl ?_
      refine e_incC9 (pc := 165) dX7_kinds_165 (nI_1 i) (Nat.le_of_ble_eq_true rfl) rfl ?_
      refine e_goto (pc := 168) dX7_kinds_168 (t := 65) (by decide) ?_
      exact ih (i + 1) _ _ _ n1 d1 (by omega) (by omega) (fun x => mc_up_up _ _ _ _) (fun x y => ykb_over) (by show ((B 0).set _ _).length = 5; rw [List.length_set]; exact hG.1.1) (by show ((B 1).set _ _).length = 5; rw [List.length_set]; exact hG.1.2.1) hD1 (by rw [← hV, if_neg (c := yunl (ykM M 0 (nI i)) (ykB B k0 0 (nI i)) s0 k0 = -1) c_151])
    · skip
      refine e_iconst (v := 1) (pc := 154) dX7_kinds_154 (by decide) ?_
      refine e_iload (pc := 155) dX7_kinds_155 rfl ?_
      refine e_ishl (pc := 157) dX7_kinds_157 ?_
      refine e_goto (pc := 158) dX7_kinds_158 (t := 162) (by decide) ?_
      refine e_ior (pc := 162) dX7_kinds_162 ?_
      refine e_isw8 (pc := 163) dX7_kinds_163 (Nat.le_of_ble_eq_true rfl) rfl ?_
      refine e_incC9 (pc := 165) dX7_kinds_165 (nI_1 i) (Nat.le_of_ble_eq_true rfl) rfl ?_
      refine e_goto (pc := 168) dX7_kinds_168 (t := 65) (by decide) ?_
      exact ih (i + 1) _ _ _ n1 d1 (by omega) (by omega) (fun x => mc_up_up _ _ _ _) (fun x y => ykb_over) (by show ((B 0).set _ _).length = 5; rw [List.length_set]; exact hG.1.1) (by show ((B 1).set _ _).length = 5; rw [List.length_set]; exact hG.1.2.1) hD1 (by rw [← hV, if_pos (c := yunl (ykM M 0 (nI i)) (ykB B k0 0 (nI i)) s0 k0 = -1) c_151])
set_option maxHeartbeats 1000000 in
theorem lp_y_kinds1 {s u : Nat → Int32} {a c : Nat → List Int32} {q : List (Option Nat)} {h : Nat} {z : mc_W} {M : Nat → Int32} {B : Nat → List Int32} {s0 k0 V x4 : Int32} (hG : yG M B) (hS : ySh B) (h0 : ysw B s0 = 0) (hc : mc_wi k0 0 (M 2 - 1) = true) :
    ∀ (f i : Nat) (S : Int32) (m : Nat → Int32) (b : Nat → List Int32) (n : Nat → Int32) (d : Nat → List Int32), i + f = 10 → 0 ≤ i → (∀ x, mc_up m 0 x = mc_up M 0 x) → (∀ x y, ykb b k0 x y = ykb B k0 x y) → (b 0).length = 5 → (b 1).length = 5 → yD d → ybits (fun i => yunl (ykM M 1 (nI i)) (ykB B k0 1 (nI i)) s0 k0) f i S = V →
      mc_E RX7 cX7_kinds 10 (mc_JM (some .int) false 8 0 0 (fun r' w' => r' = some (.int V) ∧ ∃ n1 d1, yD d1 ∧ w' = WW s a q u c h M B n1 d1 z)) 65 [some (.ref 29), some (.int s0), some (.int k0), some (.int 1), some (.int x4), some (.int (gt (B 0) k0)), some (.int (gt (B 1) k0)), some (.int (M 0)), some (.int S), some (.int (nI i))] [] (WW s a q u c h m b n d z) 0 0 := by
  have hk5 : vp_in k0 5 := by have := hG.k0 hc; rw [hG.1.1] at this; exact this
  obtain ⟨kr0, kr1⟩ := hG.kr hc
  intro f
  induction f with
  | zero =>
    intro i S m b n d hi hlo hm hb l0 l1 hD hV
    have e : i = 10 := by omega
    subst e
    have hV : S = V := hV
    subst hV
    have v0 : vp_in k0 (b 0).length := by rw [l0]; exact hk5
    have v1 : vp_in k0 ((mc_up b 0 ((b 0).set k0.toNatClampNeg (gt (B 0) k0))) 1).length := by show vp_in k0 (b 1).length; rw [l1]; exact hk5
    have eb : mc_up (mc_up b 0 ((b 0).set k0.toNatClampNeg (gt (B 0) k0))) 1 (((mc_up b 0 ((b 0).set k0.toNatClampNeg (gt (B 0) k0))) 1).set k0.toNatClampNeg (gt (B 1) k0)) = B := (hb _ _).trans (ykb_self (hG.k0 hc) (hG.k1 hc))
    refine e_iload (pc := 65) dX7_kinds_65 rfl ?_
    refine e_iloadn (pc := 67) dX7_kinds_67 rfl ?_
    refine e_if_ne (pc := 68) dX7_kinds_68 (t := 76) (by decide) (fun _ => ?_) (fun c_68 => absurd c_68 (by decide))
    refine e_iloadn (pc := 76) dX7_kinds_76 rfl ?_
    refine e_iconst (v := 1) (pc := 77) dX7_kinds_77 (by decide) ?_
    refine e_icmp_ne (pc := 78) dX7_kinds_78 (t := 86) (by decide) (fun c_78 => absurd c_78 (by decide)) (fun _ => ?_)
    refine e_bipush (v := 10) (pc := 81) dX7_kinds_81 (by decide) ?_
    refine e_goto (pc := 83) dX7_kinds_83 (t := 88) (by decide) ?_
    refine e_icmp_ge (pc := 88) dX7_kinds_88 (t := 171) (by decide) (fun _ => ?_) (fun c_88 => absurd (by decide) c_88)
    refine e_aloadn (pc := 171) dX7_kinds_171 rfl ?_
    refine e_get (pc := 172) dX7_kinds_172 fX7_16 rfl rfl ?_
    refine e_iloadn (pc := 175) dX7_kinds_175 rfl ?_
    refine e_iload (pc := 176) dX7_kinds_176 rfl ?_
    refine ast_kind (pc := 178) dX7_kinds_178 v0 ?_
    refine e_aloadn (pc := 179) dX7_kinds_179 rfl ?_
    refine e_get (pc := 180) dX7_kinds_180 fX7_20 rfl rfl ?_
    refine e_iloadn (pc := 183) dX7_kinds_183 rfl ?_
    refine e_iload (pc := 184) dX7_kinds_184 rfl ?_
    refine ast_ymore (pc := 186) dX7_kinds_186 v1 ?_
    rw [eb]
    refine e_aloadn (pc := 187) dX7_kinds_187 rfl ?_
    refine e_iload (pc := 188) dX7_kinds_188 rfl ?_
    refine put_y_base0 (pc := 190) dX7_kinds_190 pX7_7 ?_
    rw [hm, mc_up_self]
    refine e_iload (pc := 193) dX7_kinds_193 rfl ?_
    exact e_iret (pc := 195) dX7_kinds_195 rfl (Nat.le_refl _) (Nat.le_refl _) ⟨rfl, n, d, hD, rfl⟩
  | succ f ih =>
    intro i S m b n d hi hlo hm hb l0 l1 hD hV
    simp only [ybits] at hV
    have hii : (nI i).toInt = i := nI_toInt (by omega)
    have v0 : vp_in k0 (b 0).length := by rw [l0]; exact hk5
    have v1 : vp_in k0 ((mc_up b 0 ((b 0).set k0.toNatClampNeg (gt (B 0) k0))) 1).length := by show vp_in k0 (b 1).length; rw [l1]; exact hk5
    have eb : mc_up (mc_up b 0 ((b 0).set k0.toNatClampNeg (gt (B 0) k0))) 1 (((mc_up b 0 ((b 0).set k0.toNatClampNeg (gt (B 0) k0))) 1).set k0.toNatClampNeg (nI i)) = ykb B k0 (gt (B 0) k0) (nI i) := hb _ _
    have hG2 : yG (mc_up M 0 (M 0)) (ykb B k0 (gt (B 0) k0) (nI i)) := yG_kinds hG k0 kr0 (by omega) hG.2.2.1
    have hS2 : ySh (ykb B k0 (gt (B 0) k0) (nI i)) := hS
    have eM : ykM M 1 (nI i) = mc_up M 0 (M 0) := rfl
    have eB : ykB B k0 1 (nI i) = ykb B k0 (gt (B 0) k0) (nI i) := rfl
    skip
    refine e_iload (pc := 65) dX7_kinds_65 rfl ?_
    refine e_iloadn (pc := 67) dX7_kinds_67 rfl ?_
    refine e_if_ne (pc := 68) dX7_kinds_68 (t := 76) (by decide) (fun _ => ?_) (fun c_68 => absurd c_68 (by decide))
    refine e_iloadn (pc := 76) dX7_kinds_76 rfl ?_
    refine e_iconst (v := 1) (pc := 77) dX7_kinds_77 (by decide) ?_
    refine e_icmp_ne (pc := 78) dX7_kinds_78 (t := 86) (by decide) (fun c_78 => absurd c_78 (by decide)) (fun _ => ?_)
    refine e_bipush (v := 10) (pc := 81) dX7_kinds_81 (by decide) ?_
    refine e_goto (pc := 83) dX7_kinds_83 (t := 88) (by decide) ?_
    refine e_icmp_ge (pc := 88) dX7_kinds_88 (t := 171) (by decide) (fun c_88 => absurd c_88 (nI_ge (by omega : i < 10) (by decide))) (fun _ => ?_)
    refine e_aloadn (pc := 91) dX7_kinds_91 rfl ?_
    refine e_get (pc := 92) dX7_kinds_92 fX7_16 rfl rfl ?_
    refine e_iloadn (pc := 95) dX7_kinds_95 rfl ?_
    refine e_iloadn (pc := 96) dX7_kinds_96 rfl ?_
    refine e_if_ne (pc := 97) dX7_kinds_97 (t := 105) (by decide) (fun _ => ?_) (fun c_97 => absurd c_97 (by decide))
    refine e_iload (pc := 105) dX7_kinds_105 rfl ?_
    refine ast_kind (pc := 107) dX7_kinds_107 v0 ?_
    refine e_aloadn (pc := 108) dX7_kinds_108 rfl ?_
    refine e_get (pc := 109) dX7_kinds_109 fX7_20 rfl rfl ?_
    refine e_iloadn (pc := 112) dX7_kinds_112 rfl ?_
    refine e_iloadn (pc := 113) dX7_kinds_113 rfl ?_
    refine e_iconst (v := 1) (pc := 114) dX7_kinds_114 (by decide) ?_
    refine e_icmp_ne (pc := 115) dX7_kinds_115 (t := 123) (by decide) (fun c_115 => absurd c_115 (by decide)) (fun _ => ?_)
    refine e_iload (pc := 118) dX7_kinds_118 rfl ?_
    refine e_goto (pc := 120) dX7_kinds_120 (t := 125) (by decide) ?_
    refine ast_ymore (pc := 125) dX7_kinds_125 v1 ?_
    rw [eb]
    refine e_aloadn (pc := 126) dX7_kinds_126 rfl ?_
    refine e_iloadn (pc := 127) dX7_kinds_127 rfl ?_
    refine e_iconst (v := 2) (pc := 128) dX7_kinds_128 (by decide) ?_
    refine e_icmp_ne (pc := 129) dX7_kinds_129 (t := 137) (by decide) (fun _ => ?_) (fun c_129 => absurd c_129 (by decide))
    refine e_iload (pc := 137) dX7_kinds_137 rfl ?_
    refine put_y_base0 (pc := 139) dX7_kinds_139 pX7_7 ?_
    rw [hm]
    refine e_iload (pc := 142) dX7_kinds_142 rfl ?_
    refine e_aloadn (pc := 144) dX7_kinds_144 rfl ?_
    refine e_iloadn (pc := 145) dX7_kinds_145 rfl ?_
    refine e_iloadn (pc := 146) dX7_kinds_146 rfl ?_
    refine e_cvX (pc := 147) (sp_y_unlike hG2 hS2 h0 hc hD) dX7_kinds_147 kX7_275 rfl rfl rfl rfl rfl (mc_CR_of (Nat.le_of_ble_eq_true rfl) (Nat.le_of_ble_eq_true rfl) (Nat.le_refl _) (Nat.le_refl _)) (Nat.le_of_ble_eq_true rfl) (fun w1 hw1 => ?_)
    obtain ⟨n1, d1, hD1, rfl⟩ := hw1
    refine e_iconst (v := -1) (pc := 150) dX7_kinds_150 (by decide) ?_
    refine e_icmp_ne (pc := 151) dX7_kinds_151 (t := 161) (by decide) (fun c_151 => ?_) (fun c_151 => ?_)
    · skip
      refine e_iconst (v := 0) (pc := 161) dX7_kinds_161 (by decide) ?_
      refine e_ior (pc := 162) dX7_kinds_162 ?_
      refine e_isw8 (pc := 163) dX7_kinds_163 (Nat.le_of_ble_eq_true rfl) rfl ?_
      refine e_incC9 (pc := 165) dX7_kinds_165 (nI_1 i) (Nat.le_of_ble_eq_true rfl) rfl ?_
      refine e_goto (pc := 168) dX7_kinds_168 (t := 65) (by decide) ?_
      exact ih (i + 1) _ _ _ n1 d1 (by omega) (by omega) (fun x => mc_up_up _ _ _ _) (fun x y => ykb_over) (by show ((B 0).set _ _).length = 5; rw [List.length_set]; exact hG.1.1) (by show ((B 1).set _ _).length = 5; rw [List.length_set]; exact hG.1.2.1) hD1 (by rw [← hV, if_neg (c := yunl (ykM M 1 (nI i)) (ykB B k0 1 (nI i)) s0 k0 = -1) c_151])
    · skip
      refine e_iconst (v := 1) (pc := 154) dX7_kinds_154 (by decide) ?_
      refine e_iload (pc := 155) dX7_kinds_155 rfl ?_
      refine e_ishl (pc := 157) dX7_kinds_157 ?_
      refine e_goto (pc := 158) dX7_kinds_158 (t := 162) (by decide) ?_
      refine e_ior (pc := 162) dX7_kinds_162 ?_
      refine e_isw8 (pc := 163) dX7_kinds_163 (Nat.le_of_ble_eq_true rfl) rfl ?_
      refine e_incC9 (pc := 165) dX7_kinds_165 (nI_1 i) (Nat.le_of_ble_eq_true rfl) rfl ?_
      refine e_goto (pc := 168) dX7_kinds_168 (t := 65) (by decide) ?_
      exact ih (i + 1) _ _ _ n1 d1 (by omega) (by omega) (fun x => mc_up_up _ _ _ _) (fun x y => ykb_over) (by show ((B 0).set _ _).length = 5; rw [List.length_set]; exact hG.1.1) (by show ((B 1).set _ _).length = 5; rw [List.length_set]; exact hG.1.2.1) hD1 (by rw [← hV, if_pos (c := yunl (ykM M 1 (nI i)) (ykB B k0 1 (nI i)) s0 k0 = -1) c_151])
set_option maxHeartbeats 1000000 in
theorem lp_y_kinds2 {s u : Nat → Int32} {a c : Nat → List Int32} {q : List (Option Nat)} {h : Nat} {z : mc_W} {M : Nat → Int32} {B : Nat → List Int32} {s0 k0 V x4 : Int32} (hG : yG M B) (hS : ySh B) (h0 : ysw B s0 = 0) (hc : mc_wi k0 0 (M 2 - 1) = true) :
    ∀ (f i : Nat) (S : Int32) (m : Nat → Int32) (b : Nat → List Int32) (n : Nat → Int32) (d : Nat → List Int32), i + f = 13 → 2 ≤ i → (∀ x, mc_up m 0 x = mc_up M 0 x) → (∀ x y, ykb b k0 x y = ykb B k0 x y) → (b 0).length = 5 → (b 1).length = 5 → yD d → ybits (fun i => yunl (ykM M 2 (nI i)) (ykB B k0 2 (nI i)) s0 k0) f i S = V →
      mc_E RX7 cX7_kinds 10 (mc_JM (some .int) false 8 0 0 (fun r' w' => r' = some (.int V) ∧ ∃ n1 d1, yD d1 ∧ w' = WW s a q u c h M B n1 d1 z)) 65 [some (.ref 29), some (.int s0), some (.int k0), some (.int 2), some (.int x4), some (.int (gt (B 0) k0)), some (.int (gt (B 1) k0)), some (.int (M 0)), some (.int S), some (.int (nI i))] [] (WW s a q u c h m b n d z) 0 0 := by
  have hk5 : vp_in k0 5 := by have := hG.k0 hc; rw [hG.1.1] at this; exact this
  obtain ⟨kr0, kr1⟩ := hG.kr hc
  intro f
  induction f with
  | zero =>
    intro i S m b n d hi hlo hm hb l0 l1 hD hV
    have e : i = 13 := by omega
    subst e
    have hV : S = V := hV
    subst hV
    have v0 : vp_in k0 (b 0).length := by rw [l0]; exact hk5
    have v1 : vp_in k0 ((mc_up b 0 ((b 0).set k0.toNatClampNeg (gt (B 0) k0))) 1).length := by show vp_in k0 (b 1).length; rw [l1]; exact hk5
    have eb : mc_up (mc_up b 0 ((b 0).set k0.toNatClampNeg (gt (B 0) k0))) 1 (((mc_up b 0 ((b 0).set k0.toNatClampNeg (gt (B 0) k0))) 1).set k0.toNatClampNeg (gt (B 1) k0)) = B := (hb _ _).trans (ykb_self (hG.k0 hc) (hG.k1 hc))
    refine e_iload (pc := 65) dX7_kinds_65 rfl ?_
    refine e_iloadn (pc := 67) dX7_kinds_67 rfl ?_
    refine e_if_ne (pc := 68) dX7_kinds_68 (t := 76) (by decide) (fun _ => ?_) (fun c_68 => absurd c_68 (by decide))
    refine e_iloadn (pc := 76) dX7_kinds_76 rfl ?_
    refine e_iconst (v := 1) (pc := 77) dX7_kinds_77 (by decide) ?_
    refine e_icmp_ne (pc := 78) dX7_kinds_78 (t := 86) (by decide) (fun _ => ?_) (fun c_78 => absurd c_78 (by decide))
    refine e_bipush (v := 13) (pc := 86) dX7_kinds_86 (by decide) ?_
    refine e_icmp_ge (pc := 88) dX7_kinds_88 (t := 171) (by decide) (fun _ => ?_) (fun c_88 => absurd (by decide) c_88)
    refine e_aloadn (pc := 171) dX7_kinds_171 rfl ?_
    refine e_get (pc := 172) dX7_kinds_172 fX7_16 rfl rfl ?_
    refine e_iloadn (pc := 175) dX7_kinds_175 rfl ?_
    refine e_iload (pc := 176) dX7_kinds_176 rfl ?_
    refine ast_kind (pc := 178) dX7_kinds_178 v0 ?_
    refine e_aloadn (pc := 179) dX7_kinds_179 rfl ?_
    refine e_get (pc := 180) dX7_kinds_180 fX7_20 rfl rfl ?_
    refine e_iloadn (pc := 183) dX7_kinds_183 rfl ?_
    refine e_iload (pc := 184) dX7_kinds_184 rfl ?_
    refine ast_ymore (pc := 186) dX7_kinds_186 v1 ?_
    rw [eb]
    refine e_aloadn (pc := 187) dX7_kinds_187 rfl ?_
    refine e_iload (pc := 188) dX7_kinds_188 rfl ?_
    refine put_y_base0 (pc := 190) dX7_kinds_190 pX7_7 ?_
    rw [hm, mc_up_self]
    refine e_iload (pc := 193) dX7_kinds_193 rfl ?_
    exact e_iret (pc := 195) dX7_kinds_195 rfl (Nat.le_refl _) (Nat.le_refl _) ⟨rfl, n, d, hD, rfl⟩
  | succ f ih =>
    intro i S m b n d hi hlo hm hb l0 l1 hD hV
    simp only [ybits] at hV
    have hii : (nI i).toInt = i := nI_toInt (by omega)
    have v0 : vp_in k0 (b 0).length := by rw [l0]; exact hk5
    have v1 : vp_in k0 ((mc_up b 0 ((b 0).set k0.toNatClampNeg (gt (B 0) k0))) 1).length := by show vp_in k0 (b 1).length; rw [l1]; exact hk5
    have eb : mc_up (mc_up b 0 ((b 0).set k0.toNatClampNeg (gt (B 0) k0))) 1 (((mc_up b 0 ((b 0).set k0.toNatClampNeg (gt (B 0) k0))) 1).set k0.toNatClampNeg (gt (B 1) k0)) = ykb B k0 (gt (B 0) k0) (gt (B 1) k0) := hb _ _
    have hG2 : yG (mc_up M 0 (nI i)) (ykb B k0 (gt (B 0) k0) (gt (B 1) k0)) := yG_kinds hG k0 kr0 kr1 (by omega)
    have hS2 : ySh (ykb B k0 (gt (B 0) k0) (gt (B 1) k0)) := hS
    have eM : ykM M 2 (nI i) = mc_up M 0 (nI i) := rfl
    have eB : ykB B k0 2 (nI i) = ykb B k0 (gt (B 0) k0) (gt (B 1) k0) := rfl
    skip
    refine e_iload (pc := 65) dX7_kinds_65 rfl ?_
    refine e_iloadn (pc := 67) dX7_kinds_67 rfl ?_
    refine e_if_ne (pc := 68) dX7_kinds_68 (t := 76) (by decide) (fun _ => ?_) (fun c_68 => absurd c_68 (by decide))
    refine e_iloadn (pc := 76) dX7_kinds_76 rfl ?_
    refine e_iconst (v := 1) (pc := 77) dX7_kinds_77 (by decide) ?_
    refine e_icmp_ne (pc := 78) dX7_kinds_78 (t := 86) (by decide) (fun _ => ?_) (fun c_78 => absurd c_78 (by decide))
    refine e_bipush (v := 13) (pc := 86) dX7_kinds_86 (by decide) ?_
    refine e_icmp_ge (pc := 88) dX7_kinds_88 (t := 171) (by decide) (fun c_88 => absurd c_88 (nI_ge (by omega : i < 13) (by decide))) (fun _ => ?_)
    refine e_aloadn (pc := 91) dX7_kinds_91 rfl ?_
    refine e_get (pc := 92) dX7_kinds_92 fX7_16 rfl rfl ?_
    refine e_iloadn (pc := 95) dX7_kinds_95 rfl ?_
    refine e_iloadn (pc := 96) dX7_kinds_96 rfl ?_
    refine e_if_ne (pc := 97) dX7_kinds_97 (t := 105) (by decide) (fun _ => ?_) (fun c_97 => absurd c_97 (by decide))
    refine e_iload (pc := 105) dX7_kinds_105 rfl ?_
    refine ast_kind (pc := 107) dX7_kinds_107 v0 ?_
    refine e_aloadn (pc := 108) dX7_kinds_108 rfl ?_
    refine e_get (pc := 109) dX7_kinds_109 fX7_20 rfl rfl ?_
    refine e_iloadn (pc := 112) dX7_kinds_112 rfl ?_
    refine e_iloadn (pc := 113) dX7_kinds_113 rfl ?_
    refine e_iconst (v := 1) (pc := 114) dX7_kinds_114 (by decide) ?_
    refine e_icmp_ne (pc := 115) dX7_kinds_115 (t := 123) (by decide) (fun _ => ?_) (fun c_115 => absurd c_115 (by decide))
    refine e_iload (pc := 123) dX7_kinds_123 rfl ?_
    refine ast_ymore (pc := 125) dX7_kinds_125 v1 ?_
    rw [eb]
    refine e_aloadn (pc := 126) dX7_kinds_126 rfl ?_
    refine e_iloadn (pc := 127) dX7_kinds_127 rfl ?_
    refine e_iconst (v := 2) (pc := 128) dX7_kinds_128 (by decide) ?_
    refine e_icmp_ne (pc := 129) dX7_kinds_129 (t := 137) (by decide) (fun c_129 => absurd c_129 (by decide)) (fun _ => ?_)
    refine e_iload (pc := 132) dX7_kinds_132 rfl ?_
    refine e_goto (pc := 134) dX7_kinds_134 (t := 139) (by decide) ?_
    refine put_y_base0 (pc := 139) dX7_kinds_139 pX7_7 ?_
    rw [hm]
    refine e_iload (pc := 142) dX7_kinds_142 rfl ?_
    refine e_aloadn (pc := 144) dX7_kinds_144 rfl ?_
    refine e_iloadn (pc := 145) dX7_kinds_145 rfl ?_
    refine e_iloadn (pc := 146) dX7_kinds_146 rfl ?_
    refine e_cvX (pc := 147) (sp_y_unlike hG2 hS2 h0 hc hD) dX7_kinds_147 kX7_275 rfl rfl rfl rfl rfl (mc_CR_of (Nat.le_of_ble_eq_true rfl) (Nat.le_of_ble_eq_true rfl) (Nat.le_refl _) (Nat.le_refl _)) (Nat.le_of_ble_eq_true rfl) (fun w1 hw1 => ?_)
    obtain ⟨n1, d1, hD1, rfl⟩ := hw1
    refine e_iconst (v := -1) (pc := 150) dX7_kinds_150 (by decide) ?_
    refine e_icmp_ne (pc := 151) dX7_kinds_151 (t := 161) (by decide) (fun c_151 => ?_) (fun c_151 => ?_)
    · skip
      refine e_iconst (v := 0) (pc := 161) dX7_kinds_161 (by decide) ?_
      refine e_ior (pc := 162) dX7_kinds_162 ?_
      refine e_isw8 (pc := 163) dX7_kinds_163 (Nat.le_of_ble_eq_true rfl) rfl ?_
      refine e_incC9 (pc := 165) dX7_kinds_165 (nI_1 i) (Nat.le_of_ble_eq_true rfl) rfl ?_
      refine e_goto (pc := 168) dX7_kinds_168 (t := 65) (by decide) ?_
      exact ih (i + 1) _ _ _ n1 d1 (by omega) (by omega) (fun x => mc_up_up _ _ _ _) (fun x y => ykb_over) (by show ((B 0).set _ _).length = 5; rw [List.length_set]; exact hG.1.1) (by show ((B 1).set _ _).length = 5; rw [List.length_set]; exact hG.1.2.1) hD1 (by rw [← hV, if_neg (c := yunl (ykM M 2 (nI i)) (ykB B k0 2 (nI i)) s0 k0 = -1) c_151])
    · skip
      refine e_iconst (v := 1) (pc := 154) dX7_kinds_154 (by decide) ?_
      refine e_iload (pc := 155) dX7_kinds_155 rfl ?_
      refine e_ishl (pc := 157) dX7_kinds_157 ?_
      refine e_goto (pc := 158) dX7_kinds_158 (t := 162) (by decide) ?_
      refine e_ior (pc := 162) dX7_kinds_162 ?_
      refine e_isw8 (pc := 163) dX7_kinds_163 (Nat.le_of_ble_eq_true rfl) rfl ?_
      refine e_incC9 (pc := 165) dX7_kinds_165 (nI_1 i) (Nat.le_of_ble_eq_true rfl) rfl ?_
      refine e_goto (pc := 168) dX7_kinds_168 (t := 65) (by decide) ?_
      exact ih (i + 1) _ _ _ n1 d1 (by omega) (by omega) (fun x => mc_up_up _ _ _ _) (fun x y => ykb_over) (by show ((B 0).set _ _).length = 5; rw [List.length_set]; exact hG.1.1) (by show ((B 1).set _ _).length = 5; rw [List.length_set]; exact hG.1.2.1) hD1 (by rw [← hV, if_pos (c := yunl (ykM M 2 (nI i)) (ykB B k0 2 (nI i)) s0 k0 = -1) c_151])
theorem wi02 {w : Int32} (h : mc_wi w 0 2 = true) (h2 : ¬ w = 2) : w = 0 ∨ w = 1 := by
  rw [mc_wi_iff] at h
  have e0 : (0 : Int32).toInt = 0 := rfl
  have e1 : (1 : Int32).toInt = 1 := rfl
  have e2 : (2 : Int32).toInt = 2 := rfl
  rw [e0, e2] at h
  have : ¬ w.toInt = 2 := fun q => h2 (Int32.toInt_inj.mp q)
  by_cases g : w.toInt = 0
  · exact Or.inl (Int32.toInt_inj.mp g)
  · exact Or.inr (Int32.toInt_inj.mp (by rw [e1]; omega))
theorem sp_y_kinds {s u m n : Nat → Int32} {a c b d : Nat → List Int32} {q : List (Option Nat)} {h : Nat} {z : mc_W} {s0 k so : Int32} (hG : yG m b) (hS : ySh b) (hD : yD d) : mc_T yX7_kinds cX7_kinds 10 (some .int) 8 [.ref 29, .int s0, .int k, .int so] (WW s a q u c h m b n d z) (some (.int (ykinds m b s0 k so))) (fun w' => ∃ n1 d1, yD d1 ∧ w' = WW s a q u c h m b n1 d1 z) := by
  refine mc_start (own := RX7) (ini := false) rfl (by decide +kernel) (fun h => by cases h) (Nat.le_of_ble_eq_true rfl) ?_
  show mc_E _ _ _ _ _ [some (.ref 29), some (.int s0), some (.int k), some (.int so), none, none, none, none, none, none] [] _ _ _
  refine e_aloadn (pc := 0) dX7_kinds_0 rfl ?_
  refine e_iloadn (pc := 1) dX7_kinds_1 rfl ?_
  refine e_iloadn (pc := 2) dX7_kinds_2 rfl ?_
  refine e_cvD (pc := 3) (sp_y_toldWrong hG.1 hS) dX7_kinds_3 kX7_272 rfl rfl rfl rfl rfl (mc_CR_of (Nat.le_of_ble_eq_true rfl) (Nat.le_of_ble_eq_true rfl) (Nat.le_refl _) (Nat.le_refl _)) (Nat.le_of_ble_eq_true rfl) ?_
  refine e_isw4 (pc := 6) dX7_kinds_6 (Nat.le_of_ble_eq_true rfl) rfl ?_
  refine e_iload (pc := 8) dX7_kinds_8 rfl ?_
  refine e_if_eq (pc := 10) dX7_kinds_10 (t := 16) (by decide) (fun c_10 => ?_) (fun c_10 => ?_)
  · skip
    refine e_iloadn (pc := 16) dX7_kinds_16 rfl ?_
    refine e_iconst (v := 0) (pc := 17) dX7_kinds_17 (by decide) ?_
    refine e_iconst (v := 2) (pc := 18) dX7_kinds_18 (by decide) ?_
    refine e_csD (pc := 19) (sp_y_in) dX7_kinds_19 kX7_75 rfl rfl (mc_CR_of (Nat.le_of_ble_eq_true rfl) (Nat.le_of_ble_eq_true rfl) (Nat.le_refl _) (Nat.le_refl _)) (Nat.le_of_ble_eq_true rfl) ?_
    refine e_if_ne (pc := 22) dX7_kinds_22 (t := 28) (by decide) (fun c_22 => ?_) (fun c_22 => ?_)
    · skip
      refine e_aloadn (pc := 28) dX7_kinds_28 rfl ?_
      refine e_get (pc := 29) dX7_kinds_29 fX7_16 rfl rfl ?_
      refine e_iloadn (pc := 32) dX7_kinds_32 rfl ?_
      refine ald_kind (pc := 33) dX7_kinds_33 (hG.k0 (ytw0 c_10).2) ?_
      refine e_isw5 (pc := 34) dX7_kinds_34 (Nat.le_of_ble_eq_true rfl) rfl ?_
      refine e_aloadn (pc := 36) dX7_kinds_36 rfl ?_
      refine e_get (pc := 37) dX7_kinds_37 fX7_20 rfl rfl ?_
      refine e_iloadn (pc := 40) dX7_kinds_40 rfl ?_
      refine ald_ymore (pc := 41) dX7_kinds_41 (hG.k1 (ytw0 c_10).2) ?_
      refine e_isw6 (pc := 42) dX7_kinds_42 (Nat.le_of_ble_eq_true rfl) rfl ?_
      refine e_aloadn (pc := 44) dX7_kinds_44 rfl ?_
      refine e_get (pc := 45) dX7_kinds_45 fX7_7 rfl rfl ?_
      refine e_isw7 (pc := 48) dX7_kinds_48 (Nat.le_of_ble_eq_true rfl) rfl ?_
      refine e_iconst (v := 0) (pc := 50) dX7_kinds_50 (by decide) ?_
      refine e_isw8 (pc := 51) dX7_kinds_51 (Nat.le_of_ble_eq_true rfl) rfl ?_
      refine e_iloadn (pc := 53) dX7_kinds_53 rfl ?_
      refine e_iconst (v := 2) (pc := 54) dX7_kinds_54 (by decide) ?_
      refine e_icmp_ne (pc := 55) dX7_kinds_55 (t := 62) (by decide) (fun c_55 => ?_) (fun c_55 => ?_)
      · skip
        refine e_iconst (v := 0) (pc := 62) dX7_kinds_62 (by decide) ?_
        refine e_isw9 (pc := 63) dX7_kinds_63 (Nat.le_of_ble_eq_true rfl) rfl ?_
        rcases wi02 (mc_b1.mp c_22) c_55 with rfl | rfl
        · exact lp_y_kinds0 (M := m) (B := b) hG hS (ytw0 c_10).1 (ytw0 c_10).2 6 0 0 m b n d (by omega) (by omega) (fun _ => rfl) (fun _ _ => rfl) hG.1.1 hG.1.2.1 hD (by unfold ykinds; rw [if_neg (fun q => q c_10), if_neg (nbf (mc_b1.mp c_22))]; rfl)
        · exact lp_y_kinds1 (M := m) (B := b) hG hS (ytw0 c_10).1 (ytw0 c_10).2 10 0 0 m b n d (by omega) (by omega) (fun _ => rfl) (fun _ _ => rfl) hG.1.1 hG.1.2.1 hD (by unfold ykinds; rw [if_neg (fun q => q c_10), if_neg (nbf (mc_b1.mp c_22))]; rfl)
      · skip
        refine e_iconst (v := 2) (pc := 58) dX7_kinds_58 (by decide) ?_
        refine e_goto (pc := 59) dX7_kinds_59 (t := 63) (by decide) ?_
        refine e_isw9 (pc := 63) dX7_kinds_63 (Nat.le_of_ble_eq_true rfl) rfl ?_
        subst c_55
        exact lp_y_kinds2 (M := m) (B := b) hG hS (ytw0 c_10).1 (ytw0 c_10).2 11 2 0 m b n d (by omega) (by omega) (fun _ => rfl) (fun _ _ => rfl) hG.1.1 hG.1.2.1 hD (by unfold ykinds; rw [if_neg (fun q => q c_10), if_neg (nbf (mc_b1.mp c_22))]; rfl)
    · skip
      refine e_bipush (v := -7) (pc := 25) dX7_kinds_25 (by decide) ?_
      exact e_iret (pc := 27) dX7_kinds_27 rfl (Nat.le_refl _) (Nat.le_refl _) ⟨by unfold ykinds; rw [if_neg (fun q => q c_10), if_pos (c := mc_wi so 0 2 = false) (mc_b0.mp c_22)], n, d, hD, rfl⟩
  · skip
    refine e_iload (pc := 13) dX7_kinds_13 rfl ?_
    exact e_iret (pc := 15) dX7_kinds_15 rfl (Nat.le_refl _) (Nat.le_refl _) ⟨by unfold ykinds; rw [if_pos c_10], n, d, hD, rfl⟩
