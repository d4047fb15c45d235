/-! clearing -/
def yow (l : List Int32) (f g : Nat) : Int32 := l.getD (6 * f + g) 0
def ysu (l : List Int32) (f g : Nat) (v : Int32) : List Int32 := l.set (6 * f + g) (yow l f g - v)
theorem ysu_len {l : List Int32} {f g : Nat} {v : Int32} (h : l.length = 36) : (ysu l f g v).length = 36 := by unfold ysu; rw [List.length_set]; exact h
theorem ow_c {f g : Nat} (hf : f < 6) (hg : g < 6) : (6 * nI f + nI g).toNatClampNeg = 6 * f + g := by rw [ow_at hf hg, nIc (by omega)]
def ycv2 (l : List Int32) (f g : Nat) : Int32 := yy_le (yow l f g) (yow l g f)
def ycl2 (l : List Int32) (f g : Nat) : List Int32 := ysu (ysu l f g (ycv2 l f g)) g f (ycv2 l f g)
def ycv3 (l : List Int32) (f g e : Nat) : Int32 := yy_le (yow l f g) (yy_le (yow l g e) (yow l e f))
def ycl3 (l : List Int32) (f g e : Nat) : List Int32 := ysu (ysu (ysu l f g (ycv3 l f g e)) g e (ycv3 l f g e)) e f (ycv3 l f g e)
theorem ycl2_len {l : List Int32} {f g : Nat} (h : l.length = 36) : (ycl2 l f g).length = 36 := ysu_len (ysu_len h)
theorem ycl3_len {l : List Int32} {f g e : Nat} (h : l.length = 36) : (ycl3 l f g e).length = 36 := ysu_len (ysu_len (ysu_len h))
def ycg (f : Nat) : Nat → Nat → Int32 → List Int32 → Int32 × List Int32
  | 0, _, S, l => (S, l)
  | t + 1, g, S, l => ycg f t (g + 1) (S + 2 * ycv2 l f g) (ycl2 l f g)
def ycf : Nat → Nat → Int32 → List Int32 → Int32 × List Int32
  | 0, _, S, l => (S, l)
  | t + 1, f, S, l => ycf t (f + 1) (ycg f (5 - f) (f + 1) S l).1 (ycg f (5 - f) (f + 1) S l).2
def yct : Nat → Nat → Int32 → List Int32 → Int32 × List Int32
  | 0, _, S, l => (S, l)
  | t + 1, k, S, l => if k / 36 = k / 6 % 6 ∨ k / 6 % 6 = k % 6 ∨ k / 36 = k % 6 then yct t (k + 1) S l else yct t (k + 1) (S + 3 * ycv3 l (k / 36) (k / 6 % 6) (k % 6)) (ycl3 l (k / 36) (k / 6 % 6) (k % 6))
def yclear (l : List Int32) : Int32 × List Int32 := yct 216 0 (ycf 6 0 0 l).1 (ycf 6 0 0 l).2
theorem ycg_len (f : Nat) : ∀ t g S l, l.length = 36 → (ycg f t g S l).2.length = 36 := by
  intro t
  induction t with
  | zero => intro g S l h; exact h
  | succ t ih => intro g S l h; exact ih _ _ _ (ycl2_len h)
theorem ycf_len : ∀ t f S l, l.length = 36 → (ycf t f S l).2.length = 36 := by
  intro t
  induction t with
  | zero => intro f S l h; exact h
  | succ t ih => intro f S l h; exact ih _ _ _ (ycg_len _ _ _ _ _ h)
theorem yct_len : ∀ t k S l, l.length = 36 → (yct t k S l).2.length = 36 := by
  intro t
  induction t with
  | zero => intro k S l h; exact h
  | succ t ih => intro k S l h; unfold yct; split; exact ih _ _ _ h; exact ih _ _ _ (ycl3_len h)
theorem lp_y_cg {s u m n : Nat → Int32} {a c d : Nat → List Int32} {q : List (Option Nat)} {h : Nat} {z : mc_W} {Post : Option Value → mc_W → Prop} {B : Nat → List Int32} {f : Nat} {V : Int32 × List Int32} (hf : f < 6)
    (hK : ∀ x4, mc_E RX7 cX7_clear 7 (mc_JM (some .int) false 2 0 0 Post) 92 [some (.ref 29), some (.int V.1), some (.int (nI f)), some (.int (nI 6)), x4, none, none] [] (WW s a q u c h m (mc_up B 2 V.2) n d z) 0 0) :
    ∀ (t g : Nat) (S : Int32) (l : List Int32) (b : Nat → List Int32) (x4 : Option Value), b = mc_up B 2 l → g + t = 6 → l.length = 36 → ycg f t g S l = V →
      mc_E RX7 cX7_clear 7 (mc_JM (some .int) false 2 0 0 Post) 14 [some (.ref 29), some (.int S), some (.int (nI f)), some (.int (nI g)), x4, none, none] [] (WW s a q u c h m b n d z) 0 0 := by
  intro t
  induction t with
  | zero =>
    intro g S l b x4 hb hg hl hV
    have e : g = 6 := by omega
    subst e
    have hV : (S, l) = V := hV
    subst hV hb
    refine e_iloadn (pc := 14) dX7_clear_14 rfl ?_
    refine e_bipush (v := 6) (pc := 15) dX7_clear_15 (by decide) ?_
    refine e_icmp_ge (pc := 17) dX7_clear_17 (t := 92) (by decide) (fun _ => ?_) (fun c_17 => absurd (by decide) c_17)
    exact hK _
  | succ t ih =>
    intro g S l b x4 hb hg hl hV
    subst hb
    have hg6 : g < 6 := by omega
    simp only [ycg] at hV
    have l1 : (ysu l f g (ycv2 l f g)).length = 36 := ysu_len hl
    have x1 : ((mc_up B 2 l) 2).getD (6 * nI f + nI g).toNatClampNeg 0 = yow l f g := ow_get hf hg6
    have x2 : ((mc_up B 2 l) 2).getD (6 * nI g + nI f).toNatClampNeg 0 = yow l g f := ow_get hg6 hf
    have x3 : ((mc_up B 2 (ysu l f g (ycv2 l f g))) 2).getD (6 * nI g + nI f).toNatClampNeg 0 = yow (ysu l f g (ycv2 l f g)) g f := ow_get hg6 hf
    have v1 : vp_in (6 * nI f + nI g) ((mc_up B 2 l) 2).length := ow_in (l := l) hl hf hg6
    have v2 : vp_in (6 * nI g + nI f) ((mc_up B 2 l) 2).length := ow_in (l := l) hl hg6 hf
    have v3 : vp_in (6 * nI g + nI f) ((mc_up B 2 (ysu l f g (ycv2 l f g))) 2).length := ow_in (l := ysu l f g (ycv2 l f g)) l1 hg6 hf
    have e1 : mc_up B 2 (l.set (6 * f + g) (yow l f g - ycv2 l f g)) = mc_up B 2 (ysu l f g (ycv2 l f g)) := rfl
    refine e_iloadn (pc := 14) dX7_clear_14 rfl ?_
    refine e_bipush (v := 6) (pc := 15) dX7_clear_15 (by decide) ?_
    refine e_icmp_ge (pc := 17) dX7_clear_17 (t := 92) (by decide) (fun c_17 => absurd c_17 (nI_ge (by omega : g < 6) (by decide))) (fun _ => ?_)
    refine e_aloadn (pc := 20) dX7_clear_20 rfl ?_
    refine e_get (pc := 21) dX7_clear_21 fX7_23 rfl rfl ?_
    refine e_bipush (v := 6) (pc := 24) dX7_clear_24 (by decide) ?_
    refine e_iloadn (pc := 26) dX7_clear_26 rfl ?_
    refine e_imul (pc := 27) dX7_clear_27 ?_
    refine e_iloadn (pc := 28) dX7_clear_28 rfl ?_
    refine e_iadd (pc := 29) dX7_clear_29 ?_
    refine aldv_owes (pc := 30) dX7_clear_30 v1 x1 ?_
    refine e_aloadn (pc := 31) dX7_clear_31 rfl ?_
    refine e_get (pc := 32) dX7_clear_32 fX7_23 rfl rfl ?_
    refine e_bipush (v := 6) (pc := 35) dX7_clear_35 (by decide) ?_
    refine e_iloadn (pc := 37) dX7_clear_37 rfl ?_
    refine e_imul (pc := 38) dX7_clear_38 ?_
    refine e_iloadn (pc := 39) dX7_clear_39 rfl ?_
    refine e_iadd (pc := 40) dX7_clear_40 ?_
    refine aldv_owes (pc := 41) dX7_clear_41 v2 x2 ?_
    refine e_csD (pc := 42) (sp_y_least) dX7_clear_42 kX7_250 rfl rfl (mc_CR_of (Nat.le_of_ble_eq_true rfl) (Nat.le_of_ble_eq_true rfl) (Nat.le_refl _) (Nat.le_refl _)) (Nat.le_of_ble_eq_true rfl) ?_
    rw [show yy_le (yow l f g) (yow l g f) = ycv2 l f g from rfl]
    refine e_isw4 (pc := 45) dX7_clear_45 (Nat.le_of_ble_eq_true rfl) rfl ?_
    refine e_aloadn (pc := 47) dX7_clear_47 rfl ?_
    refine e_get (pc := 48) dX7_clear_48 fX7_23 rfl rfl ?_
    refine e_bipush (v := 6) (pc := 51) dX7_clear_51 (by decide) ?_
    refine e_iloadn (pc := 53) dX7_clear_53 rfl ?_
    refine e_imul (pc := 54) dX7_clear_54 ?_
    refine e_iloadn (pc := 55) dX7_clear_55 rfl ?_
    refine e_iadd (pc := 56) dX7_clear_56 ?_
    refine e_dup2 (pc := 57) dX7_clear_57 rfl rfl ?_
    refine aldv_owes (pc := 58) dX7_clear_58 v1 x1 ?_
    refine e_iload (pc := 59) dX7_clear_59 rfl ?_
    refine e_isub (pc := 61) dX7_clear_61 ?_
    refine ast_owes (pc := 62) dX7_clear_62 v1 ?_
    rw [up_setl, ow_c hf hg6, e1]
    refine e_aloadn (pc := 63) dX7_clear_63 rfl ?_
    refine e_get (pc := 64) dX7_clear_64 fX7_23 rfl rfl ?_
    refine e_bipush (v := 6) (pc := 67) dX7_clear_67 (by decide) ?_
    refine e_iloadn (pc := 69) dX7_clear_69 rfl ?_
    refine e_imul (pc := 70) dX7_clear_70 ?_
    refine e_iloadn (pc := 71) dX7_clear_71 rfl ?_
    refine e_iadd (pc := 72) dX7_clear_72 ?_
    refine e_dup2 (pc := 73) dX7_clear_73 rfl rfl ?_
    refine aldv_owes (pc := 74) dX7_clear_74 v3 x3 ?_
    refine e_iload (pc := 75) dX7_clear_75 rfl ?_
    refine e_isub (pc := 77) dX7_clear_77 ?_
    refine ast_owes (pc := 78) dX7_clear_78 v3 ?_
    rw [up_setl, ow_c hg6 hf]
    refine e_iloadn (pc := 79) dX7_clear_79 rfl ?_
    refine e_iconst (v := 2) (pc := 80) dX7_clear_80 (by decide) ?_
    refine e_iload (pc := 81) dX7_clear_81 rfl ?_
    refine e_imul (pc := 83) dX7_clear_83 ?_
    refine e_iadd (pc := 84) dX7_clear_84 ?_
    refine e_isn1 (pc := 85) dX7_clear_85 (Nat.le_of_ble_eq_true rfl) rfl ?_
    refine e_incC3 (pc := 86) dX7_clear_86 (nI_1 g) (Nat.le_of_ble_eq_true rfl) rfl ?_
    refine e_goto (pc := 89) dX7_clear_89 (t := 14) (by decide) ?_
    exact ih (g + 1) _ _ _ _ rfl (by omega) (ycl2_len (f := f) (g := g) hl) hV
theorem lp_y_cf {s u m n : Nat → Int32} {a c d : Nat → List Int32} {q : List (Option Nat)} {h : Nat} {z : mc_W} {Post : Option Value → mc_W → Prop} {B : Nat → List Int32} {V : Int32 × List Int32}
    (hK : ∀ x3 x4, mc_E RX7 cX7_clear 7 (mc_JM (some .int) false 2 0 0 Post) 98 [some (.ref 29), some (.int V.1), some (.int (nI 6)), x3, x4, none, none] [] (WW s a q u c h m (mc_up B 2 V.2) n d z) 0 0) :
    ∀ (t f : Nat) (S : Int32) (l : List Int32) (b : Nat → List Int32) (x3 x4 : Option Value), b = mc_up B 2 l → f + t = 6 → l.length = 36 → ycf t f S l = V →
      mc_E RX7 cX7_clear 7 (mc_JM (some .int) false 2 0 0 Post) 4 [some (.ref 29), some (.int S), some (.int (nI f)), x3, x4, none, none] [] (WW s a q u c h m b n d z) 0 0 := by
  intro t
  induction t with
  | zero =>
    intro f S l b x3 x4 hb hf hl hV
    have e : f = 6 := by omega
    subst e
    have hV : (S, l) = V := hV
    subst hV hb
    refine e_iloadn (pc := 4) dX7_clear_4 rfl ?_
    refine e_bipush (v := 6) (pc := 5) dX7_clear_5 (by decide) ?_
    refine e_icmp_ge (pc := 7) dX7_clear_7 (t := 98) (by decide) (fun _ => ?_) (fun c_7 => absurd (by decide) c_7)
    exact hK _ _
  | succ t ih =>
    intro f S l b x3 x4 hb hf hl hV
    subst hb
    have hf6 : f < 6 := by omega
    simp only [ycf] at hV
    have MID : ∀ x4, mc_E RX7 cX7_clear 7 (mc_JM (some .int) false 2 0 0 Post) 92 [some (.ref 29), some (.int (ycg f (5 - f) (f + 1) S l).1), some (.int (nI f)), some (.int (nI 6)), x4, none, none] [] (WW s a q u c h m (mc_up B 2 (ycg f (5 - f) (f + 1) S l).2) n d z) 0 0 := by
      intro x4
      refine e_incC2 (pc := 92) dX7_clear_92 (nI_1 f) (Nat.le_of_ble_eq_true rfl) rfl ?_
      refine e_goto (pc := 95) dX7_clear_95 (t := 4) (by decide) ?_
      exact ih (f + 1) _ _ _ _ _ rfl (by omega) (ycg_len _ _ _ _ _ hl) hV
    refine e_iloadn (pc := 4) dX7_clear_4 rfl ?_
    refine e_bipush (v := 6) (pc := 5) dX7_clear_5 (by decide) ?_
    refine e_icmp_ge (pc := 7) dX7_clear_7 (t := 98) (by decide) (fun c_7 => absurd c_7 (nI_ge (by omega : f < 6) (by decide))) (fun _ => ?_)
    refine e_iloadn (pc := 10) dX7_clear_10 rfl ?_
    refine e_iconst (v := 1) (pc := 11) dX7_clear_11 (by decide) ?_
    refine e_iadd (pc := 12) dX7_clear_12 ?_
    refine e_top ((nI_1 f)) ?_
    refine e_isn3 (pc := 13) dX7_clear_13 (Nat.le_of_ble_eq_true rfl) rfl ?_
    exact lp_y_cg hf6 MID (5 - f) (f + 1) S l _ _ rfl (by omega) hl rfl
set_option maxHeartbeats 1000000 in
theorem lp_y_ct {s u m n : Nat → Int32} {a c d : Nat → List Int32} {q : List (Option Nat)} {h : Nat} {z : mc_W} {B : Nat → List Int32} {V : Int32 × List Int32} :
    ∀ (t k : Nat) (S : Int32) (l : List Int32) (b : Nat → List Int32) (x3 x4 x5 x6 : Option Value), b = mc_up B 2 l → k + t = 216 → l.length = 36 → yct t k S l = V →
      mc_E RX7 cX7_clear 7 (mc_JM (some .int) false 2 0 0 (fun r' w' => r' = some (.int (V.1)) ∧ w' = WW s a q u c h m (mc_up B 2 V.2) n d z)) 100 [some (.ref 29), some (.int S), some (.int (nI k)), x3, x4, x5, x6] [] (WW s a q u c h m b n d z) 0 0 := by
  intro t
  induction t with
  | zero =>
    intro k S l b x3 x4 x5 x6 hb hk hl hV
    have e : k = 216 := by omega
    subst e
    have hV : (S, l) = V := hV
    subst hV hb
    refine e_iloadn (pc := 100) dX7_clear_100 rfl ?_
    refine e_sipush (v := 216) (pc := 101) dX7_clear_101 (by decide) ?_
    refine e_icmp_ge (pc := 104) dX7_clear_104 (t := 256) (by decide) (fun _ => ?_) (fun c_104 => absurd (by decide) c_104)
    refine e_iloadn (pc := 256) dX7_clear_256 rfl ?_
    exact e_iret (pc := 257) dX7_clear_257 rfl (Nat.le_refl _) (Nat.le_refl _) ⟨rfl, rfl⟩
  | succ t ih =>
    intro k S l b x3 x4 x5 x6 hb hk hl hV
    subst hb
    simp only [yct] at hV
    have hf : k / 36 < 6 := by omega
    have hg : k / 6 % 6 < 6 := by omega
    have he : k % 6 < 6 := by omega
    have r1 : nI k / 36 = nI (k / 36) := pk_div (a := k) (d := 36) (by omega) (by decide) (by decide)
    have r2 : nI k / 6 = nI (k / 6) := pk_div (a := k) (d := 6) (by omega) (by decide) (by decide)
    have r3 : nI (k / 6) - nI (k / 6) / 6 * 6 = nI (k / 6 % 6) := pk_rem (a := k / 6) (d := 6) (by omega) (by decide) (by decide)
    have r4 : nI k - nI k / 6 * 6 = nI (k % 6) := pk_rem (a := k) (d := 6) (by omega) (by decide) (by decide)
    have q1 : nI (k / 36) = nI (k / 6 % 6) ↔ k / 36 = k / 6 % 6 := nI_eq (by omega) (by omega)
    have q2 : nI (k / 6 % 6) = nI (k % 6) ↔ k / 6 % 6 = k % 6 := nI_eq (by omega) (by omega)
    have q3 : nI (k / 36) = nI (k % 6) ↔ k / 36 = k % 6 := nI_eq (by omega) (by omega)
    generalize k / 36 = f at hf r1 q1 q3 hV
    generalize k / 6 % 6 = g at hg r3 q1 q2 hV
    generalize hee : k % 6 = e at he r4 q2 q3 hV
    have l1 : (ysu l f g (ycv3 l f g e)).length = 36 := ysu_len hl
    have l2 : (ysu (ysu l f g (ycv3 l f g e)) g e (ycv3 l f g e)).length = 36 := ysu_len l1
    have x1 : ((mc_up B 2 l) 2).getD (6 * nI f + nI g).toNatClampNeg 0 = yow l f g := ow_get hf hg
    have x2 : ((mc_up B 2 l) 2).getD (6 * nI g + nI e).toNatClampNeg 0 = yow l g e := ow_get hg he
    have x3 : ((mc_up B 2 l) 2).getD (6 * nI e + nI f).toNatClampNeg 0 = yow l e f := ow_get he hf
    have x4 : ((mc_up B 2 (ysu l f g (ycv3 l f g e))) 2).getD (6 * nI g + nI e).toNatClampNeg 0 = yow (ysu l f g (ycv3 l f g e)) g e := ow_get hg he
    have x5 : ((mc_up B 2 (ysu (ysu l f g (ycv3 l f g e)) g e (ycv3 l f g e))) 2).getD (6 * nI e + nI f).toNatClampNeg 0 = yow (ysu (ysu l f g (ycv3 l f g e)) g e (ycv3 l f g e)) e f := ow_get he hf
    have v1 : vp_in (6 * nI f + nI g) ((mc_up B 2 l) 2).length := ow_in (l := l) hl hf hg
    have v2 : vp_in (6 * nI g + nI e) ((mc_up B 2 l) 2).length := ow_in (l := l) hl hg he
    have v3 : vp_in (6 * nI e + nI f) ((mc_up B 2 l) 2).length := ow_in (l := l) hl he hf
    have v4 : vp_in (6 * nI g + nI e) ((mc_up B 2 (ysu l f g (ycv3 l f g e))) 2).length := ow_in (l := ysu l f g (ycv3 l f g e)) l1 hg he
    have v5 : vp_in (6 * nI e + nI f) ((mc_up B 2 (ysu (ysu l f g (ycv3 l f g e)) g e (ycv3 l f g e))) 2).length := ow_in (l := ysu (ysu l f g (ycv3 l f g e)) g e (ycv3 l f g e)) l2 he hf
    have e1 : mc_up B 2 (l.set (6 * f + g) (yow l f g - ycv3 l f g e)) = mc_up B 2 (ysu l f g (ycv3 l f g e)) := rfl
    have e2 : mc_up B 2 ((ysu l f g (ycv3 l f g e)).set (6 * g + e) (yow (ysu l f g (ycv3 l f g e)) g e - ycv3 l f g e)) = mc_up B 2 (ysu (ysu l f g (ycv3 l f g e)) g e (ycv3 l f g e)) := rfl
    refine e_iloadn (pc := 100) dX7_clear_100 rfl ?_
    refine e_sipush (v := 216) (pc := 101) dX7_clear_101 (by decide) ?_
    refine e_icmp_ge (pc := 104) dX7_clear_104 (t := 256) (by decide) (fun c_104 => absurd c_104 (nI_ge (by omega : k < 216) (by decide))) (fun _ => ?_)
    refine e_iloadn (pc := 107) dX7_clear_107 rfl ?_
    refine e_bipush (v := 36) (pc := 108) dX7_clear_108 (by decide) ?_
    refine e_idiv (pc := 110) dX7_clear_110 (by decide) ?_
    refine e_top (r1) ?_
    refine e_isn3 (pc := 111) dX7_clear_111 (Nat.le_of_ble_eq_true rfl) rfl ?_
    refine e_iloadn (pc := 112) dX7_clear_112 rfl ?_
    refine e_bipush (v := 6) (pc := 113) dX7_clear_113 (by decide) ?_
    refine e_idiv (pc := 115) dX7_clear_115 (by decide) ?_
    refine e_top (r2) ?_
    refine e_bipush (v := 6) (pc := 116) dX7_clear_116 (by decide) ?_
    refine e_irem (pc := 118) dX7_clear_118 (by decide) ?_
    refine e_top (r3) ?_
    refine e_isw4 (pc := 119) dX7_clear_119 (Nat.le_of_ble_eq_true rfl) rfl ?_
    refine e_iloadn (pc := 121) dX7_clear_121 rfl ?_
    refine e_bipush (v := 6) (pc := 122) dX7_clear_122 (by decide) ?_
    refine e_irem (pc := 124) dX7_clear_124 (by decide) ?_
    refine e_top (r4) ?_
    refine e_isw5 (pc := 125) dX7_clear_125 (Nat.le_of_ble_eq_true rfl) rfl ?_
    refine e_iloadn (pc := 127) dX7_clear_127 rfl ?_
    refine e_iload (pc := 128) dX7_clear_128 rfl ?_
    refine e_icmp_eq (pc := 130) dX7_clear_130 (t := 250) (by decide) (fun c_130 => ?_) (fun c_130 => ?_)
    · skip
      refine e_incC2 (pc := 250) dX7_clear_250 (nI_1 k) (Nat.le_of_ble_eq_true rfl) rfl ?_
      refine e_goto (pc := 253) dX7_clear_253 (t := 100) (by decide) ?_
      exact ih (k + 1) _ _ _ _ _ _ _ rfl (by omega) hl (by rw [← hV, if_pos (Or.inl (q1.mp c_130))])
    · skip
      refine e_iload (pc := 133) dX7_clear_133 rfl ?_
      refine e_iload (pc := 135) dX7_clear_135 rfl ?_
      refine e_icmp_eq (pc := 137) dX7_clear_137 (t := 250) (by decide) (fun c_137 => ?_) (fun c_137 => ?_)
      · skip
        refine e_incC2 (pc := 250) dX7_clear_250 (nI_1 k) (Nat.le_of_ble_eq_true rfl) rfl ?_
        refine e_goto (pc := 253) dX7_clear_253 (t := 100) (by decide) ?_
        exact ih (k + 1) _ _ _ _ _ _ _ rfl (by omega) hl (by rw [← hV, if_pos (Or.inr (Or.inl (q2.mp c_137)))])
      · skip
        refine e_iloadn (pc := 140) dX7_clear_140 rfl ?_
        refine e_iload (pc := 141) dX7_clear_141 rfl ?_
        refine e_icmp_eq (pc := 143) dX7_clear_143 (t := 250) (by decide) (fun c_143 => ?_) (fun c_143 => ?_)
        · skip
          refine e_incC2 (pc := 250) dX7_clear_250 (nI_1 k) (Nat.le_of_ble_eq_true rfl) rfl ?_
          refine e_goto (pc := 253) dX7_clear_253 (t := 100) (by decide) ?_
          exact ih (k + 1) _ _ _ _ _ _ _ rfl (by omega) hl (by rw [← hV, if_pos (Or.inr (Or.inr (q3.mp c_143)))])
        · skip
          refine e_aloadn (pc := 146) dX7_clear_146 rfl ?_
          refine e_get (pc := 147) dX7_clear_147 fX7_23 rfl rfl ?_
          refine e_bipush (v := 6) (pc := 150) dX7_clear_150 (by decide) ?_
          refine e_iloadn (pc := 152) dX7_clear_152 rfl ?_
          refine e_imul (pc := 153) dX7_clear_153 ?_
          refine e_iload (pc := 154) dX7_clear_154 rfl ?_
          refine e_iadd (pc := 156) dX7_clear_156 ?_
          refine aldv_owes (pc := 157) dX7_clear_157 v1 x1 ?_
          refine e_aloadn (pc := 158) dX7_clear_158 rfl ?_
          refine e_get (pc := 159) dX7_clear_159 fX7_23 rfl rfl ?_
          refine e_bipush (v := 6) (pc := 162) dX7_clear_162 (by decide) ?_
          refine e_iload (pc := 164) dX7_clear_164 rfl ?_
          refine e_imul (pc := 166) dX7_clear_166 ?_
          refine e_iload (pc := 167) dX7_clear_167 rfl ?_
          refine e_iadd (pc := 169) dX7_clear_169 ?_
          refine aldv_owes (pc := 170) dX7_clear_170 v2 x2 ?_
          refine e_aloadn (pc := 171) dX7_clear_171 rfl ?_
          refine e_get (pc := 172) dX7_clear_172 fX7_23 rfl rfl ?_
          refine e_bipush (v := 6) (pc := 175) dX7_clear_175 (by decide) ?_
          refine e_iload (pc := 177) dX7_clear_177 rfl ?_
          refine e_imul (pc := 179) dX7_clear_179 ?_
          refine e_iloadn (pc := 180) dX7_clear_180 rfl ?_
          refine e_iadd (pc := 181) dX7_clear_181 ?_
          refine aldv_owes (pc := 182) dX7_clear_182 v3 x3 ?_
          refine e_csD (pc := 183) (sp_y_least) dX7_clear_183 kX7_250 rfl rfl (mc_CR_of (Nat.le_of_ble_eq_true rfl) (Nat.le_of_ble_eq_true rfl) (Nat.le_refl _) (Nat.le_refl _)) (Nat.le_of_ble_eq_true rfl) ?_
          refine e_csD (pc := 186) (sp_y_least) dX7_clear_186 kX7_250 rfl rfl (mc_CR_of (Nat.le_of_ble_eq_true rfl) (Nat.le_of_ble_eq_true rfl) (Nat.le_refl _) (Nat.le_refl _)) (Nat.le_of_ble_eq_true rfl) ?_
          rw [show yy_le (yow l f g) (yy_le (yow l g e) (yow l e f)) = ycv3 l f g e from rfl]
          refine e_isw6 (pc := 189) dX7_clear_189 (Nat.le_of_ble_eq_true rfl) rfl ?_
          refine e_aloadn (pc := 191) dX7_clear_191 rfl ?_
          refine e_get (pc := 192) dX7_clear_192 fX7_23 rfl rfl ?_
          refine e_bipush (v := 6) (pc := 195) dX7_clear_195 (by decide) ?_
          refine e_iloadn (pc := 197) dX7_clear_197 rfl ?_
          refine e_imul (pc := 198) dX7_clear_198 ?_
          refine e_iload (pc := 199) dX7_clear_199 rfl ?_
          refine e_iadd (pc := 201) dX7_clear_201 ?_
          refine e_dup2 (pc := 202) dX7_clear_202 rfl rfl ?_
          refine aldv_owes (pc := 203) dX7_clear_203 v1 x1 ?_
          refine e_iload (pc := 204) dX7_clear_204 rfl ?_
          refine e_isub (pc := 206) dX7_clear_206 ?_
          refine ast_owes (pc := 207) dX7_clear_207 v1 ?_
          rw [up_setl, ow_c hf hg, e1]
          refine e_aloadn (pc := 208) dX7_clear_208 rfl ?_
          refine e_get (pc := 209) dX7_clear_209 fX7_23 rfl rfl ?_
          refine e_bipush (v := 6) (pc := 212) dX7_clear_212 (by decide) ?_
          refine e_iload (pc := 214) dX7_clear_214 rfl ?_
          refine e_imul (pc := 216) dX7_clear_216 ?_
          refine e_iload (pc := 217) dX7_clear_217 rfl ?_
          refine e_iadd (pc := 219) dX7_clear_219 ?_
          refine e_dup2 (pc := 220) dX7_clear_220 rfl rfl ?_
          refine aldv_owes (pc := 221) dX7_clear_221 v4 x4 ?_
          refine e_iload (pc := 222) dX7_clear_222 rfl ?_
          refine e_isub (pc := 224) dX7_clear_224 ?_
          refine ast_owes (pc := 225) dX7_clear_225 v4 ?_
          rw [up_setl, ow_c hg he, e2]
          refine e_aloadn (pc := 226) dX7_clear_226 rfl ?_
          refine e_get (pc := 227) dX7_clear_227 fX7_23 rfl rfl ?_
          refine e_bipush (v := 6) (pc := 230) dX7_clear_230 (by decide) ?_
          refine e_iload (pc := 232) dX7_clear_232 rfl ?_
          refine e_imul (pc := 234) dX7_clear_234 ?_
          refine e_iloadn (pc := 235) dX7_clear_235 rfl ?_
          refine e_iadd (pc := 236) dX7_clear_236 ?_
          refine e_dup2 (pc := 237) dX7_clear_237 rfl rfl ?_
          refine aldv_owes (pc := 238) dX7_clear_238 v5 x5 ?_
          refine e_iload (pc := 239) dX7_clear_239 rfl ?_
          refine e_isub (pc := 241) dX7_clear_241 ?_
          refine ast_owes (pc := 242) dX7_clear_242 v5 ?_
          rw [up_setl, ow_c he hf]
          refine e_iloadn (pc := 243) dX7_clear_243 rfl ?_
          refine e_iconst (v := 3) (pc := 244) dX7_clear_244 (by decide) ?_
          refine e_iload (pc := 245) dX7_clear_245 rfl ?_
          refine e_imul (pc := 247) dX7_clear_247 ?_
          refine e_iadd (pc := 248) dX7_clear_248 ?_
          refine e_isn1 (pc := 249) dX7_clear_249 (Nat.le_of_ble_eq_true rfl) rfl ?_
          refine e_incC2 (pc := 250) dX7_clear_250 (nI_1 k) (Nat.le_of_ble_eq_true rfl) rfl ?_
          refine e_goto (pc := 253) dX7_clear_253 (t := 100) (by decide) ?_
          exact ih (k + 1) _ _ _ _ _ _ _ rfl (by omega) (ycl3_len (f := f) (g := g) (e := e) hl) (by rw [← hV, if_neg (fun q => q.elim (fun q => c_130 (q1.mpr q)) (fun q => q.elim (fun q => c_137 (q2.mpr q)) (fun q => c_143 (q3.mpr q))))]; rfl)
theorem sp_y_clear {s u m n : Nat → Int32} {a c b d : Nat → List Int32} {q : List (Option Nat)} {h : Nat} {z : mc_W} (hL : yL b) : mc_D yX7_clear cX7_clear 7 (some .int) 2 [.ref 29] (WW s a q u c h m b n d z) (some (.int (yclear (b 2)).1)) (WW s a q u c h m (mc_up b 2 (yclear (b 2)).2) n d z) := by
  refine mc_start (own := RX7) (ini := false) rfl (by decide +kernel) (fun h => by cases h) (Nat.le_of_ble_eq_true rfl) ?_
  show mc_E _ _ _ _ _ [some (.ref 29), none, none, none, none, none, none] [] _ _ _
  refine e_iconst (v := 0) (pc := 0) dX7_clear_0 (by decide) ?_
  refine e_isn1 (pc := 1) dX7_clear_1 (Nat.le_of_ble_eq_true rfl) rfl ?_
  refine e_iconst (v := 0) (pc := 2) dX7_clear_2 (by decide) ?_
  refine e_isn2 (pc := 3) dX7_clear_3 (Nat.le_of_ble_eq_true rfl) rfl ?_
  refine lp_y_cf (B := b) (V := ycf 6 0 0 (b 2)) ?_ 6 0 0 (b 2) b _ _ (mc_up_self b 2).symm (by omega) hL.2.2.1 rfl
  intro x3 x4
  refine e_iconst (v := 0) (pc := 98) dX7_clear_98 (by decide) ?_
  refine e_isn2 (pc := 99) dX7_clear_99 (Nat.le_of_ble_eq_true rfl) rfl ?_
  exact lp_y_ct 216 0 _ _ _ _ _ _ _ rfl (by omega) (ycf_len _ _ _ _ hL.2.2.1) rfl
