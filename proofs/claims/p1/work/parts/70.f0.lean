/-! ===== a fresh object: the class ===== -/
theorem sf_isClerk {s u m n : Nat → Int32} {a c b d : Nat → List Int32} {q : List (Option Nat)} {h : Nat} {z : mc_W} {k : Int32} (h2 : s 2 = 0) : mc_D yX6_isClerk cX6_isClerk 2 (some .boolean) 1 [.ref 0, .int k] (WW s a q u c h m b n d z) (some (.int 0)) (WW s a q u c h m b n d z) := by
  refine mc_start (own := RX6) (ini := false) rfl (by decide +kernel) (fun h => by cases h) (Nat.le_of_ble_eq_true rfl) ?_
  show mc_E _ _ _ _ _ [some (.ref 0), some (.int k)] [] _ _ _
  refine e_iloadn (pc := 0) dX6_isClerk_0 rfl ?_
  refine e_if_lt (pc := 1) dX6_isClerk_1 (t := 21) (by decide) (fun c_1 => ?_) (fun c_1 => ?_)
  · skip
    refine e_iconst (v := 0) (pc := 21) dX6_isClerk_21 (by decide) ?_
    exact e_zret (pc := 22) dX6_isClerk_22 rfl (by rfl) (Nat.le_refl _) (Nat.le_refl _) ⟨rfl, rfl⟩
  · skip
    refine e_iloadn (pc := 4) dX6_isClerk_4 rfl ?_
    refine e_aloadn (pc := 5) dX6_isClerk_5 rfl ?_
    refine e_get (pc := 6) dX6_isClerk_6 fX6_76 rfl rfl ?_
    refine e_icmp_ge (pc := 9) dX6_isClerk_9 (t := 21) (by decide) (fun c_9 => ?_) (fun c_9 => ?_)
    · skip
      refine e_iconst (v := 0) (pc := 21) dX6_isClerk_21 (by decide) ?_
      exact e_zret (pc := 22) dX6_isClerk_22 rfl (by rfl) (Nat.le_refl _) (Nat.le_refl _) ⟨rfl, rfl⟩
    · skip
      exact absurd (by rw [h2]; exact Int32.not_lt.mp c_1) c_9
theorem sf_asks {s u m n : Nat → Int32} {a c b d : Nat → List Int32} {q : List (Option Nat)} {h : Nat} {z : mc_W} {p k v o : Int32} (h2 : s 2 = 0) : mc_D yX6_asks cX6_asks 5 (some .int) 4 [.ref 0, .int p, .int k, .int v, .int o] (WW s a q u c h m b n d z) (some (.int (-2))) (WW s a q u c h m b n d z) := by
  refine mc_start (own := RX6) (ini := false) rfl (by decide +kernel) (fun h => by cases h) (Nat.le_of_ble_eq_true rfl) ?_
  show mc_E _ _ _ _ _ [some (.ref 0), some (.int p), some (.int k), some (.int v), some (.int o)] [] _ _ _
  refine e_iloadn (pc := 0) dX6_asks_0 rfl ?_
  refine e_iconst (v := 0) (pc := 1) dX6_asks_1 (by decide) ?_
  refine e_iconst (v := 2) (pc := 2) dX6_asks_2 (by decide) ?_
  refine e_csD (pc := 3) (sp_isWithin) dX6_asks_3 kX6_86 rfl rfl (mc_CR_of (Nat.le_of_ble_eq_true rfl) (Nat.le_of_ble_eq_true rfl) (Nat.le_refl _) (Nat.le_refl _)) (Nat.le_of_ble_eq_true rfl) ?_
  refine e_if_eq (pc := 6) dX6_asks_6 (t := 32) (by decide) (fun c_6 => ?_) (fun c_6 => ?_)
  · skip
    refine e_bipush (v := -2) (pc := 32) dX6_asks_32 (by decide) ?_
    exact e_iret (pc := 34) dX6_asks_34 rfl (Nat.le_refl _) (Nat.le_refl _) ⟨rfl, rfl⟩
  · skip
    refine e_aloadn (pc := 9) dX6_asks_9 rfl ?_
    refine e_iloadn (pc := 10) dX6_asks_10 rfl ?_
    refine e_cvD (pc := 11) (sf_isClerk h2) dX6_asks_11 kX6_115 rfl rfl rfl rfl rfl (mc_CR_of (Nat.le_of_ble_eq_true rfl) (Nat.le_of_ble_eq_true rfl) (Nat.le_refl _) (Nat.le_refl _)) (Nat.le_of_ble_eq_true rfl) ?_
    refine e_if_eq (pc := 14) dX6_asks_14 (t := 32) (by decide) (fun _ => ?_) (fun c_14 => absurd (by decide) c_14)
    refine e_bipush (v := -2) (pc := 32) dX6_asks_32 (by decide) ?_
    exact e_iret (pc := 34) dX6_asks_34 rfl (Nat.le_refl _) (Nat.le_refl _) ⟨rfl, rfl⟩
theorem sf_told {s u m n : Nat → Int32} {a c b d : Nat → List Int32} {q : List (Option Nat)} {h : Nat} {z : mc_W} {k w : Int32} (h2 : s 2 = 0) : mc_D yX6_told cX6_told 3 (some .int) 4 [.ref 0, .int k, .int w] (WW s a q u c h m b n d z) (some (.int (-5))) (WW s a q u c h m b n d z) := by
  refine mc_start (own := RX6) (ini := false) rfl (by decide +kernel) (fun h => by cases h) (Nat.le_of_ble_eq_true rfl) ?_
  show mc_E _ _ _ _ _ [some (.ref 0), some (.int k), some (.int w)] [] _ _ _
  refine e_aloadn (pc := 0) dX6_told_0 rfl ?_
  refine e_iloadn (pc := 1) dX6_told_1 rfl ?_
  refine e_cvD (pc := 2) (sf_isClerk h2) dX6_told_2 kX6_115 rfl rfl rfl rfl rfl (mc_CR_of (Nat.le_of_ble_eq_true rfl) (Nat.le_of_ble_eq_true rfl) (Nat.le_refl _) (Nat.le_refl _)) (Nat.le_of_ble_eq_true rfl) ?_
  refine e_if_ne (pc := 5) dX6_told_5 (t := 11) (by decide) (fun c_5 => absurd c_5 (by decide)) (fun _ => ?_)
  refine e_bipush (v := -5) (pc := 8) dX6_told_8 (by decide) ?_
  exact e_iret (pc := 10) dX6_told_10 rfl (Nat.le_refl _) (Nat.le_refl _) ⟨rfl, rfl⟩
theorem sf_figure {s u m n : Nat → Int32} {a c b d : Nat → List Int32} {q : List (Option Nat)} {h : Nat} {z : mc_W} {k v w : Int32} (h2 : s 2 = 0) : mc_D yX6_figure cX6_figure 5 (some .int) 4 [.ref 0, .int k, .int v, .int w] (WW s a q u c h m b n d z) (some (.int (-5))) (WW s a q u c h m b n d z) := by
  refine mc_start (own := RX6) (ini := false) rfl (by decide +kernel) (fun h => by cases h) (Nat.le_of_ble_eq_true rfl) ?_
  show mc_E _ _ _ _ _ [some (.ref 0), some (.int k), some (.int v), some (.int w), none] [] _ _ _
  refine e_aloadn (pc := 0) dX6_figure_0 rfl ?_
  refine e_iloadn (pc := 1) dX6_figure_1 rfl ?_
  refine e_cvD (pc := 2) (sf_isClerk h2) dX6_figure_2 kX6_115 rfl rfl rfl rfl rfl (mc_CR_of (Nat.le_of_ble_eq_true rfl) (Nat.le_of_ble_eq_true rfl) (Nat.le_refl _) (Nat.le_refl _)) (Nat.le_of_ble_eq_true rfl) ?_
  refine e_if_ne (pc := 5) dX6_figure_5 (t := 11) (by decide) (fun c_5 => absurd c_5 (by decide)) (fun _ => ?_)
  refine e_bipush (v := -5) (pc := 8) dX6_figure_8 (by decide) ?_
  exact e_iret (pc := 10) dX6_figure_10 rfl (Nat.le_refl _) (Nat.le_refl _) ⟨rfl, rfl⟩
theorem sf_reads {s u m n : Nat → Int32} {a c b d : Nat → List Int32} {q : List (Option Nat)} {h : Nat} {z : mc_W} {k v : Int32} (h2 : s 2 = 0) : mc_D yX6_reads cX6_reads 9 (some .long) 4 [.ref 0, .int k, .int v] (WW s a q u c h m b n d z) (some (.long (-5))) (WW s a q u c h m b n d z) := by
  refine mc_start (own := RX6) (ini := false) rfl (by decide +kernel) (fun h => by cases h) (Nat.le_of_ble_eq_true rfl) ?_
  show mc_E _ _ _ _ _ [some (.ref 0), some (.int k), some (.int v), none, none, none, none, none, none] [] _ _ _
  refine e_iloadn (pc := 0) dX6_reads_0 rfl ?_
  refine e_bipush (v := 100) (pc := 1) dX6_reads_1 (by decide) ?_
  refine e_idiv (pc := 3) dX6_reads_3 (by decide) ?_
  refine e_isn3 (pc := 4) dX6_reads_4 (Nat.le_of_ble_eq_true rfl) rfl ?_
  refine e_iloadn (pc := 5) dX6_reads_5 rfl ?_
  refine e_bipush (v := 100) (pc := 6) dX6_reads_6 (by decide) ?_
  refine e_irem (pc := 8) dX6_reads_8 (by decide) ?_
  refine e_isw4 (pc := 9) dX6_reads_9 (Nat.le_of_ble_eq_true rfl) rfl ?_
  refine e_aloadn (pc := 11) dX6_reads_11 rfl ?_
  refine e_iloadn (pc := 12) dX6_reads_12 rfl ?_
  refine e_cvD (pc := 13) (sf_isClerk h2) dX6_reads_13 kX6_115 rfl rfl rfl rfl rfl (mc_CR_of (Nat.le_of_ble_eq_true rfl) (Nat.le_of_ble_eq_true rfl) (Nat.le_refl _) (Nat.le_refl _)) (Nat.le_of_ble_eq_true rfl) ?_
  refine e_if_eq (pc := 16) dX6_reads_16 (t := 28) (by decide) (fun _ => ?_) (fun c_16 => absurd (by decide) c_16)
  refine e_ldc2 (pc := 28) dX6_reads_28 qX6_145 ?_
  exact e_lret (pc := 31) dX6_reads_31 rfl (Nat.le_refl _) (Nat.le_refl _) ⟨rfl, rfl⟩
theorem sf_plain {s u m n : Nat → Int32} {a c b d : Nat → List Int32} {q : List (Option Nat)} {h : Nat} {z : mc_W} {k v : Int32} (h2 : s 2 = 0) : mc_D yX6_plain cX6_plain 4 (some .long) 4 [.ref 0, .int k, .int v] (WW s a q u c h m b n d z) (some (.long (-5))) (WW s a q u c h m b n d z) := by
  refine mc_start (own := RX6) (ini := false) rfl (by decide +kernel) (fun h => by cases h) (Nat.le_of_ble_eq_true rfl) ?_
  show mc_E _ _ _ _ _ [some (.ref 0), some (.int k), some (.int v), none] [] _ _ _
  refine e_aloadn (pc := 0) dX6_plain_0 rfl ?_
  refine e_iloadn (pc := 1) dX6_plain_1 rfl ?_
  refine e_cvD (pc := 2) (sf_isClerk h2) dX6_plain_2 kX6_115 rfl rfl rfl rfl rfl (mc_CR_of (Nat.le_of_ble_eq_true rfl) (Nat.le_of_ble_eq_true rfl) (Nat.le_refl _) (Nat.le_refl _)) (Nat.le_of_ble_eq_true rfl) ?_
  refine e_if_ne (pc := 5) dX6_plain_5 (t := 12) (by decide) (fun c_5 => absurd c_5 (by decide)) (fun _ => ?_)
  refine e_ldc2 (pc := 8) dX6_plain_8 qX6_145 ?_
  exact e_lret (pc := 11) dX6_plain_11 rfl (Nat.le_refl _) (Nat.le_refl _) ⟨rfl, rfl⟩
theorem sf_adds {s u m n : Nat → Int32} {a c b d : Nat → List Int32} {q : List (Option Nat)} {h : Nat} {z : mc_W} {k v w : Int32} (h2 : s 2 = 0) : mc_D yX6_adds cX6_adds 5 (some .long) 4 [.ref 0, .int k, .int v, .int w] (WW s a q u c h m b n d z) (some (.long (-5))) (WW s a q u c h m b n d z) := by
  refine mc_start (own := RX6) (ini := false) rfl (by decide +kernel) (fun h => by cases h) (Nat.le_of_ble_eq_true rfl) ?_
  show mc_E _ _ _ _ _ [some (.ref 0), some (.int k), some (.int v), some (.int w), none] [] _ _ _
  refine e_aloadn (pc := 0) dX6_adds_0 rfl ?_
  refine e_iloadn (pc := 1) dX6_adds_1 rfl ?_
  refine e_cvD (pc := 2) (sf_isClerk h2) dX6_adds_2 kX6_115 rfl rfl rfl rfl rfl (mc_CR_of (Nat.le_of_ble_eq_true rfl) (Nat.le_of_ble_eq_true rfl) (Nat.le_refl _) (Nat.le_refl _)) (Nat.le_of_ble_eq_true rfl) ?_
  refine e_if_ne (pc := 5) dX6_adds_5 (t := 12) (by decide) (fun c_5 => absurd c_5 (by decide)) (fun _ => ?_)
  refine e_ldc2 (pc := 8) dX6_adds_8 qX6_145 ?_
  exact e_lret (pc := 11) dX6_adds_11 rfl (Nat.le_refl _) (Nat.le_refl _) ⟨rfl, rfl⟩
theorem sf_apart {s u m n : Nat → Int32} {a c b d : Nat → List Int32} {q : List (Option Nat)} {h : Nat} {z : mc_W} {k v w : Int32} (h2 : s 2 = 0) : mc_D yX6_apart cX6_apart 8 (some .int) 4 [.ref 0, .int k, .int v, .int w] (WW s a q u c h m b n d z) (some (.int (-5))) (WW s a q u c h m b n d z) := by
  refine mc_start (own := RX6) (ini := false) rfl (by decide +kernel) (fun h => by cases h) (Nat.le_of_ble_eq_true rfl) ?_
  show mc_E _ _ _ _ _ [some (.ref 0), some (.int k), some (.int v), some (.int w), none, none, none, none] [] _ _ _
  refine e_aloadn (pc := 0) dX6_apart_0 rfl ?_
  refine e_iloadn (pc := 1) dX6_apart_1 rfl ?_
  refine e_cvD (pc := 2) (sf_isClerk h2) dX6_apart_2 kX6_115 rfl rfl rfl rfl rfl (mc_CR_of (Nat.le_of_ble_eq_true rfl) (Nat.le_of_ble_eq_true rfl) (Nat.le_refl _) (Nat.le_refl _)) (Nat.le_of_ble_eq_true rfl) ?_
  refine e_if_ne (pc := 5) dX6_apart_5 (t := 11) (by decide) (fun c_5 => absurd c_5 (by decide)) (fun _ => ?_)
  refine e_bipush (v := -5) (pc := 8) dX6_apart_8 (by decide) ?_
  exact e_iret (pc := 10) dX6_apart_10 rfl (Nat.le_refl _) (Nat.le_refl _) ⟨rfl, rfl⟩
theorem sf_slip {s u m n : Nat → Int32} {a c b d : Nat → List Int32} {q : List (Option Nat)} {h : Nat} {z : mc_W} {k v w : Int32} (h2 : s 2 = 0) : mc_D yX6_slip cX6_slip 14 (some .long) 4 [.ref 0, .int k, .int v, .int w] (WW s a q u c h m b n d z) (some (.long (-5))) (WW s a q u c h m b n d z) := by
  refine mc_start (own := RX6) (ini := false) rfl (by decide +kernel) (fun h => by cases h) (Nat.le_of_ble_eq_true rfl) ?_
  show mc_E _ _ _ _ _ [some (.ref 0), some (.int k), some (.int v), some (.int w), none, none, none, none, none, none, none, none, none, none] [] _ _ _
  refine e_aloadn (pc := 0) dX6_slip_0 rfl ?_
  refine e_iloadn (pc := 1) dX6_slip_1 rfl ?_
  refine e_cvD (pc := 2) (sf_isClerk h2) dX6_slip_2 kX6_115 rfl rfl rfl rfl rfl (mc_CR_of (Nat.le_of_ble_eq_true rfl) (Nat.le_of_ble_eq_true rfl) (Nat.le_refl _) (Nat.le_refl _)) (Nat.le_of_ble_eq_true rfl) ?_
  refine e_if_ne (pc := 5) dX6_slip_5 (t := 12) (by decide) (fun c_5 => absurd c_5 (by decide)) (fun _ => ?_)
  refine e_ldc2 (pc := 8) dX6_slip_8 qX6_145 ?_
  exact e_lret (pc := 11) dX6_slip_11 rfl (Nat.le_refl _) (Nat.le_refl _) ⟨rfl, rfl⟩
theorem sf_sure {s u m n : Nat → Int32} {a c b d : Nat → List Int32} {q : List (Option Nat)} {h : Nat} {z : mc_W} {k v : Int32} (h2 : s 2 = 0) : mc_D yX6_sure cX6_sure 9 (some .long) 4 [.ref 0, .int k, .int v] (WW s a q u c h m b n d z) (some (.long (-5))) (WW s a q u c h m b n d z) := by
  refine mc_start (own := RX6) (ini := false) rfl (by decide +kernel) (fun h => by cases h) (Nat.le_of_ble_eq_true rfl) ?_
  show mc_E _ _ _ _ _ [some (.ref 0), some (.int k), some (.int v), none, none, none, none, none, none] [] _ _ _
  refine e_aloadn (pc := 0) dX6_sure_0 rfl ?_
  refine e_iloadn (pc := 1) dX6_sure_1 rfl ?_
  refine e_cvD (pc := 2) (sf_isClerk h2) dX6_sure_2 kX6_115 rfl rfl rfl rfl rfl (mc_CR_of (Nat.le_of_ble_eq_true rfl) (Nat.le_of_ble_eq_true rfl) (Nat.le_refl _) (Nat.le_refl _)) (Nat.le_of_ble_eq_true rfl) ?_
  refine e_if_ne (pc := 5) dX6_sure_5 (t := 12) (by decide) (fun c_5 => absurd c_5 (by decide)) (fun _ => ?_)
  refine e_ldc2 (pc := 8) dX6_sure_8 qX6_145 ?_
  exact e_lret (pc := 11) dX6_sure_11 rfl (Nat.le_refl _) (Nat.le_refl _) ⟨rfl, rfl⟩
theorem sf_pay {s u m n : Nat → Int32} {a c b d : Nat → List Int32} {q : List (Option Nat)} {h : Nat} {z : mc_W} {k v w : Int32} (h2 : s 2 = 0) : mc_D yX6_pay cX6_pay 7 (some .int) 4 [.ref 0, .int k, .int v, .int w] (WW s a q u c h m b n d z) (some (.int (-6))) (WW s a q u c h m b n d z) := by
  refine mc_start (own := RX6) (ini := false) rfl (by decide +kernel) (fun h => by cases h) (Nat.le_of_ble_eq_true rfl) ?_
  show mc_E _ _ _ _ _ [some (.ref 0), some (.int k), some (.int v), some (.int w), none, none, none] [] _ _ _
  refine e_aloadn (pc := 0) dX6_pay_0 rfl ?_
  refine e_iloadn (pc := 1) dX6_pay_1 rfl ?_
  refine e_cvD (pc := 2) (sf_isClerk h2) dX6_pay_2 kX6_115 rfl rfl rfl rfl rfl (mc_CR_of (Nat.le_of_ble_eq_true rfl) (Nat.le_of_ble_eq_true rfl) (Nat.le_refl _) (Nat.le_refl _)) (Nat.le_of_ble_eq_true rfl) ?_
  refine e_if_ne (pc := 5) dX6_pay_5 (t := 11) (by decide) (fun c_5 => absurd c_5 (by decide)) (fun _ => ?_)
  refine e_bipush (v := -6) (pc := 8) dX6_pay_8 (by decide) ?_
  exact e_iret (pc := 10) dX6_pay_10 rfl (Nat.le_refl _) (Nat.le_refl _) ⟨rfl, rfl⟩
theorem sf_alike {s u m n : Nat → Int32} {a c b d : Nat → List Int32} {q : List (Option Nat)} {h : Nat} {z : mc_W} {k v w : Int32} (h2 : s 2 = 0) : mc_D yX6_alike cX6_alike 10 (some .int) 4 [.ref 0, .int k, .int v, .int w] (WW s a q u c h m b n d z) (some (.int (-100005))) (WW s a q u c h m b n d z) := by
  refine mc_start (own := RX6) (ini := false) rfl (by decide +kernel) (fun h => by cases h) (Nat.le_of_ble_eq_true rfl) ?_
  show mc_E _ _ _ _ _ [some (.ref 0), some (.int k), some (.int v), some (.int w), none, none, none, none, none, none] [] _ _ _
  refine e_aloadn (pc := 0) dX6_alike_0 rfl ?_
  refine e_iloadn (pc := 1) dX6_alike_1 rfl ?_
  refine e_cvD (pc := 2) (sf_isClerk h2) dX6_alike_2 kX6_115 rfl rfl rfl rfl rfl (mc_CR_of (Nat.le_of_ble_eq_true rfl) (Nat.le_of_ble_eq_true rfl) (Nat.le_refl _) (Nat.le_refl _)) (Nat.le_of_ble_eq_true rfl) ?_
  refine e_if_ne (pc := 5) dX6_alike_5 (t := 12) (by decide) (fun c_5 => absurd c_5 (by decide)) (fun _ => ?_)
  refine e_ldcw (pc := 8) dX6_alike_8 qX6_269 ?_
  exact e_iret (pc := 11) dX6_alike_11 rfl (Nat.le_refl _) (Nat.le_refl _) ⟨rfl, rfl⟩
theorem sf_drawn {s u m n : Nat → Int32} {a c b d : Nat → List Int32} {q : List (Option Nat)} {h : Nat} {z : mc_W} {k v w : Int32} (h2 : s 2 = 0) : mc_D yX6_drawn cX6_drawn 6 (some .long) 4 [.ref 0, .int k, .int v, .int w] (WW s a q u c h m b n d z) (some (.long (-5))) (WW s a q u c h m b n d z) := by
  refine mc_start (own := RX6) (ini := false) rfl (by decide +kernel) (fun h => by cases h) (Nat.le_of_ble_eq_true rfl) ?_
  show mc_E _ _ _ _ _ [some (.ref 0), some (.int k), some (.int v), some (.int w), none, none] [] _ _ _
  refine e_aloadn (pc := 0) dX6_drawn_0 rfl ?_
  refine e_iloadn (pc := 1) dX6_drawn_1 rfl ?_
  refine e_cvD (pc := 2) (sf_isClerk h2) dX6_drawn_2 kX6_115 rfl rfl rfl rfl rfl (mc_CR_of (Nat.le_of_ble_eq_true rfl) (Nat.le_of_ble_eq_true rfl) (Nat.le_refl _) (Nat.le_refl _)) (Nat.le_of_ble_eq_true rfl) ?_
  refine e_if_ne (pc := 5) dX6_drawn_5 (t := 12) (by decide) (fun c_5 => absurd c_5 (by decide)) (fun _ => ?_)
  refine e_ldc2 (pc := 8) dX6_drawn_8 qX6_145 ?_
  exact e_lret (pc := 11) dX6_drawn_11 rfl (Nat.le_refl _) (Nat.le_refl _) ⟨rfl, rfl⟩
theorem sf_odds {s u m n : Nat → Int32} {a c b d : Nat → List Int32} {q : List (Option Nat)} {h : Nat} {z : mc_W} {e k v w p : Int32} (h2 : s 2 = 0) : mc_D yX6_odds cX6_odds 13 (some .long) 4 [.ref 0, .int e, .int k, .int v, .int w, .int p] (WW s a q u c h m b n d z) (some (.long (-4611686018427387904))) (WW s a q u c h m b n d z) := by
  refine mc_start (own := RX6) (ini := false) rfl (by decide +kernel) (fun h => by cases h) (Nat.le_of_ble_eq_true rfl) ?_
  show mc_E _ _ _ _ _ [some (.ref 0), some (.int e), some (.int k), some (.int v), some (.int w), some (.int p), none, none, none, none, none, none, none] [] _ _ _
  refine e_iloadn (pc := 0) dX6_odds_0 rfl ?_
  refine e_csD (pc := 1) (sp_isNumber) dX6_odds_1 kX6_118 rfl rfl (mc_CR_of (Nat.le_of_ble_eq_true rfl) (Nat.le_of_ble_eq_true rfl) (Nat.le_refl _) (Nat.le_refl _)) (Nat.le_of_ble_eq_true rfl) ?_
  refine e_if_eq (pc := 4) dX6_odds_4 (t := 37) (by decide) (fun c_4 => ?_) (fun c_4 => ?_)
  · skip
    refine e_iconst (v := 0) (pc := 37) dX6_odds_37 (by decide) ?_
    refine e_isw6 (pc := 38) dX6_odds_38 (Nat.le_of_ble_eq_true rfl) rfl ?_
    refine e_iload (pc := 40) dX6_odds_40 rfl ?_
    refine e_if_eq (pc := 42) dX6_odds_42 (t := 53) (by decide) (fun _ => ?_) (fun c_42 => absurd (by decide) c_42)
    refine e_ldc2 (pc := 53) dX6_odds_53 qX6_302 ?_
    exact e_lret (pc := 56) dX6_odds_56 rfl (Nat.le_refl _) (Nat.le_refl _) ⟨rfl, rfl⟩
  · skip
    refine e_iloadn (pc := 7) dX6_odds_7 rfl ?_
    refine e_iconst (v := 1) (pc := 8) dX6_odds_8 (by decide) ?_
    refine e_bipush (v := 60) (pc := 9) dX6_odds_9 (by decide) ?_
    refine e_csD (pc := 11) (sp_isWithin) dX6_odds_11 kX6_86 rfl rfl (mc_CR_of (Nat.le_of_ble_eq_true rfl) (Nat.le_of_ble_eq_true rfl) (Nat.le_refl _) (Nat.le_refl _)) (Nat.le_of_ble_eq_true rfl) ?_
    refine e_if_eq (pc := 14) dX6_odds_14 (t := 37) (by decide) (fun c_14 => ?_) (fun c_14 => ?_)
    · skip
      refine e_iconst (v := 0) (pc := 37) dX6_odds_37 (by decide) ?_
      refine e_isw6 (pc := 38) dX6_odds_38 (Nat.le_of_ble_eq_true rfl) rfl ?_
      refine e_iload (pc := 40) dX6_odds_40 rfl ?_
      refine e_if_eq (pc := 42) dX6_odds_42 (t := 53) (by decide) (fun _ => ?_) (fun c_42 => absurd (by decide) c_42)
      refine e_ldc2 (pc := 53) dX6_odds_53 qX6_302 ?_
      exact e_lret (pc := 56) dX6_odds_56 rfl (Nat.le_refl _) (Nat.le_refl _) ⟨rfl, rfl⟩
    · skip
      refine e_iload (pc := 17) dX6_odds_17 rfl ?_
      refine e_csD (pc := 19) (sp_isNumber) dX6_odds_19 kX6_118 rfl rfl (mc_CR_of (Nat.le_of_ble_eq_true rfl) (Nat.le_of_ble_eq_true rfl) (Nat.le_refl _) (Nat.le_refl _)) (Nat.le_of_ble_eq_true rfl) ?_
      refine e_if_eq (pc := 22) dX6_odds_22 (t := 37) (by decide) (fun c_22 => ?_) (fun c_22 => ?_)
      · skip
        refine e_iconst (v := 0) (pc := 37) dX6_odds_37 (by decide) ?_
        refine e_isw6 (pc := 38) dX6_odds_38 (Nat.le_of_ble_eq_true rfl) rfl ?_
        refine e_iload (pc := 40) dX6_odds_40 rfl ?_
        refine e_if_eq (pc := 42) dX6_odds_42 (t := 53) (by decide) (fun _ => ?_) (fun c_42 => absurd (by decide) c_42)
        refine e_ldc2 (pc := 53) dX6_odds_53 qX6_302 ?_
        exact e_lret (pc := 56) dX6_odds_56 rfl (Nat.le_refl _) (Nat.le_refl _) ⟨rfl, rfl⟩
      · skip
        refine e_iload (pc := 25) dX6_odds_25 rfl ?_
        refine e_csD (pc := 27) (sp_isTwofold) dX6_odds_27 kX6_160 rfl rfl (mc_CR_of (Nat.le_of_ble_eq_true rfl) (Nat.le_of_ble_eq_true rfl) (Nat.le_refl _) (Nat.le_refl _)) (Nat.le_of_ble_eq_true rfl) ?_
        refine e_if_eq (pc := 30) dX6_odds_30 (t := 37) (by decide) (fun c_30 => ?_) (fun c_30 => ?_)
        · skip
          refine e_iconst (v := 0) (pc := 37) dX6_odds_37 (by decide) ?_
          refine e_isw6 (pc := 38) dX6_odds_38 (Nat.le_of_ble_eq_true rfl) rfl ?_
          refine e_iload (pc := 40) dX6_odds_40 rfl ?_
          refine e_if_eq (pc := 42) dX6_odds_42 (t := 53) (by decide) (fun _ => ?_) (fun c_42 => absurd (by decide) c_42)
          refine e_ldc2 (pc := 53) dX6_odds_53 qX6_302 ?_
          exact e_lret (pc := 56) dX6_odds_56 rfl (Nat.le_refl _) (Nat.le_refl _) ⟨rfl, rfl⟩
        · skip
          refine e_iconst (v := 1) (pc := 33) dX6_odds_33 (by decide) ?_
          refine e_goto (pc := 34) dX6_odds_34 (t := 38) (by decide) ?_
          refine e_isw6 (pc := 38) dX6_odds_38 (Nat.le_of_ble_eq_true rfl) rfl ?_
          refine e_iload (pc := 40) dX6_odds_40 rfl ?_
          refine e_if_eq (pc := 42) dX6_odds_42 (t := 53) (by decide) (fun c_42 => absurd c_42 (by decide)) (fun _ => ?_)
          refine e_aloadn (pc := 45) dX6_odds_45 rfl ?_
          refine e_iloadn (pc := 46) dX6_odds_46 rfl ?_
          refine e_cvD (pc := 47) (sf_isClerk h2) dX6_odds_47 kX6_115 rfl rfl rfl rfl rfl (mc_CR_of (Nat.le_of_ble_eq_true rfl) (Nat.le_of_ble_eq_true rfl) (Nat.le_refl _) (Nat.le_refl _)) (Nat.le_of_ble_eq_true rfl) ?_
          refine e_if_ne (pc := 50) dX6_odds_50 (t := 57) (by decide) (fun c_50 => absurd c_50 (by decide)) (fun _ => ?_)
          refine e_ldc2 (pc := 53) dX6_odds_53 qX6_302 ?_
          exact e_lret (pc := 56) dX6_odds_56 rfl (Nat.le_refl _) (Nat.le_refl _) ⟨rfl, rfl⟩
theorem sf_film {s u m n : Nat → Int32} {a c b d : Nat → List Int32} {q : List (Option Nat)} {h : Nat} {z : mc_W} {v k w p : Int32} (h2 : s 2 = 0) : mc_D yX6_film cX6_film 11 (some .int) 4 [.ref 0, .int v, .int k, .int w, .int p] (WW s a q u c h m b n d z) (some (.int (if mc_wi v 0 3 = false then -2 else -5))) (WW s a q u c h m b n d z) := by
  refine mc_start (own := RX6) (ini := false) rfl (by decide +kernel) (fun h => by cases h) (Nat.le_of_ble_eq_true rfl) ?_
  show mc_E _ _ _ _ _ [some (.ref 0), some (.int v), some (.int k), some (.int w), some (.int p), none, none, none, none, none, none] [] _ _ _
  refine e_iloadn (pc := 0) dX6_film_0 rfl ?_
  refine e_csD (pc := 1) (sp_isSheet) dX6_film_1 kX6_289 rfl rfl (mc_CR_of (Nat.le_of_ble_eq_true rfl) (Nat.le_of_ble_eq_true rfl) (Nat.le_refl _) (Nat.le_refl _)) (Nat.le_of_ble_eq_true rfl) ?_
  refine e_if_ne (pc := 4) dX6_film_4 (t := 10) (by decide) (fun c_4 => ?_) (fun c_4 => ?_)
  · skip
    refine e_aloadn (pc := 10) dX6_film_10 rfl ?_
    refine e_iloadn (pc := 11) dX6_film_11 rfl ?_
    refine e_cvD (pc := 12) (sf_isClerk h2) dX6_film_12 kX6_115 rfl rfl rfl rfl rfl (mc_CR_of (Nat.le_of_ble_eq_true rfl) (Nat.le_of_ble_eq_true rfl) (Nat.le_refl _) (Nat.le_refl _)) (Nat.le_of_ble_eq_true rfl) ?_
    refine e_if_ne (pc := 15) dX6_film_15 (t := 21) (by decide) (fun c_15 => absurd c_15 (by decide)) (fun _ => ?_)
    refine e_bipush (v := -5) (pc := 18) dX6_film_18 (by decide) ?_
    exact e_iret (pc := 20) dX6_film_20 rfl (Nat.le_refl _) (Nat.le_refl _) ⟨by simp_all [mc_b0, mc_b1], rfl⟩
  · skip
    refine e_bipush (v := -2) (pc := 7) dX6_film_7 (by decide) ?_
    exact e_iret (pc := 9) dX6_film_9 rfl (Nat.le_refl _) (Nat.le_refl _) ⟨by simp_all [mc_b0, mc_b1], rfl⟩
theorem sf_refSheet {s u m n : Nat → Int32} {a c b d : Nat → List Int32} {q : List (Option Nat)} {h : Nat} {z : mc_W} {v : Int32} (hM : ∀ k, k < 4 → s (11 + 2 * k) = -1) : mc_D yX6_refusalOfSheet cX6_refusalOfSheet 2 (some .int) 4 [.ref 0, .int v] (WW s a q u c h m b n d z) (some (.int (if mc_wi v 0 3 = false then -2 else -11))) (WW s a q u c h m b n d z) := by
  by_cases hv : mc_wi v 0 3 = true
  · rw [if_neg (by rw [hv]; decide)]
    obtain ⟨k, hk, rfl⟩ := wi_k hv
    have K := sp_x_refSheet (s := s) (a := a) (q := q) (u := u) (c := c) (h := h) (m := m) (b := b) (n := n) (d := d) (z := z) hk
    rw [show xmis s k = true by unfold xmis; rw [hM k hk]; rfl, if_pos rfl] at K
    exact K
  · rw [if_pos (by simpa using hv)]
    exact sp_x_refSheet0 (by simpa using hv)
def sfr (v : Int32) : Int32 := if mc_wi v 0 3 = false then -2 else -11
theorem sfr0 (v : Int32) : ¬ sfr v = 0 := by unfold sfr; split <;> decide
theorem sf_refusalOfBook {s u m n : Nat → Int32} {a c b d : Nat → List Int32} {q : List (Option Nat)} {h : Nat} {z : mc_W} {v : Int32} (hM : ∀ k, k < 4 → s (11 + 2 * k) = -1) : mc_D yX6_refusalOfBook cX6_refusalOfBook 5 (some .int) 5 [.ref 0, .int v] (WW s a q u c h m b n d z) (some (.int (sfr v))) (WW s a q u c h m b n d z) := by
  refine mc_start (own := RX6) (ini := false) rfl (by decide +kernel) (fun h => by cases h) (Nat.le_of_ble_eq_true rfl) ?_
  show mc_E _ _ _ _ _ [some (.ref 0), some (.int v), none, none, none] [] _ _ _
  refine e_aloadn (pc := 0) dX6_refusalOfBook_0 rfl ?_
  refine e_iloadn (pc := 1) dX6_refusalOfBook_1 rfl ?_
  refine e_cvD (pc := 2) (sf_refSheet hM) dX6_refusalOfBook_2 kX6_228 rfl rfl rfl rfl rfl (mc_CR_of (Nat.le_of_ble_eq_true rfl) (Nat.le_of_ble_eq_true rfl) (Nat.le_refl _) (Nat.le_refl _)) (Nat.le_of_ble_eq_true rfl) ?_
  refine e_isn2 (pc := 5) dX6_refusalOfBook_5 (Nat.le_of_ble_eq_true rfl) rfl ?_
  refine e_iloadn (pc := 6) dX6_refusalOfBook_6 rfl ?_
  refine e_if_eq (pc := 7) dX6_refusalOfBook_7 (t := 12) (by decide) (fun c_7 => absurd c_7 (sfr0 v)) (fun _ => ?_)
  refine e_iloadn (pc := 10) dX6_refusalOfBook_10 rfl ?_
  exact e_iret (pc := 11) dX6_refusalOfBook_11 rfl (Nat.le_refl _) (Nat.le_refl _) ⟨rfl, rfl⟩
theorem sf_refusalOfRows {s u m n : Nat → Int32} {a c b d : Nat → List Int32} {q : List (Option Nat)} {h : Nat} {z : mc_W} {v : Int32} (hM : ∀ k, k < 4 → s (11 + 2 * k) = -1) : mc_D yX6_refusalOfRows cX6_refusalOfRows 5 (some .int) 5 [.ref 0, .int v] (WW s a q u c h m b n d z) (some (.int (sfr v))) (WW s a q u c h m b n d z) := by
  refine mc_start (own := RX6) (ini := false) rfl (by decide +kernel) (fun h => by cases h) (Nat.le_of_ble_eq_true rfl) ?_
  show mc_E _ _ _ _ _ [some (.ref 0), some (.int v), none, none, none] [] _ _ _
  refine e_aloadn (pc := 0) dX6_refusalOfRows_0 rfl ?_
  refine e_iloadn (pc := 1) dX6_refusalOfRows_1 rfl ?_
  refine e_cvD (pc := 2) (sf_refSheet hM) dX6_refusalOfRows_2 kX6_228 rfl rfl rfl rfl rfl (mc_CR_of (Nat.le_of_ble_eq_true rfl) (Nat.le_of_ble_eq_true rfl) (Nat.le_refl _) (Nat.le_refl _)) (Nat.le_of_ble_eq_true rfl) ?_
  refine e_isn2 (pc := 5) dX6_refusalOfRows_5 (Nat.le_of_ble_eq_true rfl) rfl ?_
  refine e_iloadn (pc := 6) dX6_refusalOfRows_6 rfl ?_
  refine e_if_eq (pc := 7) dX6_refusalOfRows_7 (t := 12) (by decide) (fun c_7 => absurd c_7 (sfr0 v)) (fun _ => ?_)
  refine e_iloadn (pc := 10) dX6_refusalOfRows_10 rfl ?_
  exact e_iret (pc := 11) dX6_refusalOfRows_11 rfl (Nat.le_refl _) (Nat.le_refl _) ⟨rfl, rfl⟩
theorem sf_refusalOfBookBy {s u m n : Nat → Int32} {a c b d : Nat → List Int32} {q : List (Option Nat)} {h : Nat} {z : mc_W} {v k : Int32} (hM : ∀ k, k < 4 → s (11 + 2 * k) = -1) : mc_D yX6_refusalOfBookBy cX6_refusalOfBookBy 4 (some .int) 6 [.ref 0, .int v, .int k] (WW s a q u c h m b n d z) (some (.int (sfr v))) (WW s a q u c h m b n d z) := by
  refine mc_start (own := RX6) (ini := false) rfl (by decide +kernel) (fun h => by cases h) (Nat.le_of_ble_eq_true rfl) ?_
  show mc_E _ _ _ _ _ [some (.ref 0), some (.int v), some (.int k), none] [] _ _ _
  refine e_aloadn (pc := 0) dX6_refusalOfBookBy_0 rfl ?_
  refine e_iloadn (pc := 1) dX6_refusalOfBookBy_1 rfl ?_
  refine e_cvD (pc := 2) (sf_refusalOfBook hM) dX6_refusalOfBookBy_2 kX6_168 rfl rfl rfl rfl rfl (mc_CR_of (Nat.le_of_ble_eq_true rfl) (Nat.le_of_ble_eq_true rfl) (Nat.le_refl _) (Nat.le_refl _)) (Nat.le_of_ble_eq_true rfl) ?_
  refine e_isn3 (pc := 5) dX6_refusalOfBookBy_5 (Nat.le_of_ble_eq_true rfl) rfl ?_
  refine e_iloadn (pc := 6) dX6_refusalOfBookBy_6 rfl ?_
  refine e_if_eq (pc := 7) dX6_refusalOfBookBy_7 (t := 12) (by decide) (fun c_7 => absurd c_7 (sfr0 v)) (fun _ => ?_)
  refine e_iloadn (pc := 10) dX6_refusalOfBookBy_10 rfl ?_
  exact e_iret (pc := 11) dX6_refusalOfBookBy_11 rfl (Nat.le_refl _) (Nat.le_refl _) ⟨rfl, rfl⟩
theorem sf_refusalOfRowsBy {s u m n : Nat → Int32} {a c b d : Nat → List Int32} {q : List (Option Nat)} {h : Nat} {z : mc_W} {v k : Int32} (hM : ∀ k, k < 4 → s (11 + 2 * k) = -1) : mc_D yX6_refusalOfRowsBy cX6_refusalOfRowsBy 4 (some .int) 6 [.ref 0, .int v, .int k] (WW s a q u c h m b n d z) (some (.int (sfr v))) (WW s a q u c h m b n d z) := by
  refine mc_start (own := RX6) (ini := false) rfl (by decide +kernel) (fun h => by cases h) (Nat.le_of_ble_eq_true rfl) ?_
  show mc_E _ _ _ _ _ [some (.ref 0), some (.int v), some (.int k), none] [] _ _ _
  refine e_aloadn (pc := 0) dX6_refusalOfRowsBy_0 rfl ?_
  refine e_iloadn (pc := 1) dX6_refusalOfRowsBy_1 rfl ?_
  refine e_cvD (pc := 2) (sf_refusalOfRows hM) dX6_refusalOfRowsBy_2 kX6_286 rfl rfl rfl rfl rfl (mc_CR_of (Nat.le_of_ble_eq_true rfl) (Nat.le_of_ble_eq_true rfl) (Nat.le_refl _) (Nat.le_refl _)) (Nat.le_of_ble_eq_true rfl) ?_
  refine e_isn3 (pc := 5) dX6_refusalOfRowsBy_5 (Nat.le_of_ble_eq_true rfl) rfl ?_
  refine e_iloadn (pc := 6) dX6_refusalOfRowsBy_6 rfl ?_
  refine e_if_eq (pc := 7) dX6_refusalOfRowsBy_7 (t := 12) (by decide) (fun c_7 => absurd c_7 (sfr0 v)) (fun _ => ?_)
  refine e_iloadn (pc := 10) dX6_refusalOfRowsBy_10 rfl ?_
  exact e_iret (pc := 11) dX6_refusalOfRowsBy_11 rfl (Nat.le_refl _) (Nat.le_refl _) ⟨rfl, rfl⟩
theorem sf_book {s u m n : Nat → Int32} {a c b d : Nat → List Int32} {q : List (Option Nat)} {h : Nat} {z : mc_W} {v k w : Int32} (hM : ∀ k, k < 4 → s (11 + 2 * k) = -1) : mc_D yX6_book cX6_book 13 (some .long) 7 [.ref 0, .int v, .int k, .int w] (WW s a q u c h m b n d z) (some (.long ((sfr v).toInt64))) (WW s a q u c h m b n d z) := by
  refine mc_start (own := RX6) (ini := false) rfl (by decide +kernel) (fun h => by cases h) (Nat.le_of_ble_eq_true rfl) ?_
  show mc_E _ _ _ _ _ [some (.ref 0), some (.int v), some (.int k), some (.int w), none, none, none, none, none, none, none, none, none] [] _ _ _
  refine e_aloadn (pc := 0) dX6_book_0 rfl ?_
  refine e_iloadn (pc := 1) dX6_book_1 rfl ?_
  refine e_cvD (pc := 2) (sf_refusalOfBook hM) dX6_book_2 kX6_168 rfl rfl rfl rfl rfl (mc_CR_of (Nat.le_of_ble_eq_true rfl) (Nat.le_of_ble_eq_true rfl) (Nat.le_refl _) (Nat.le_refl _)) (Nat.le_of_ble_eq_true rfl) ?_
  refine e_isw4 (pc := 5) dX6_book_5 (Nat.le_of_ble_eq_true rfl) rfl ?_
  refine e_iload (pc := 7) dX6_book_7 rfl ?_
  refine e_if_eq (pc := 9) dX6_book_9 (t := 16) (by decide) (fun c_9 => absurd c_9 (sfr0 v)) (fun _ => ?_)
  refine e_iload (pc := 12) dX6_book_12 rfl ?_
  refine e_i2l (pc := 14) dX6_book_14 ?_
  exact e_lret (pc := 15) dX6_book_15 rfl (Nat.le_refl _) (Nat.le_refl _) ⟨rfl, rfl⟩
theorem sf_who {s u m n : Nat → Int32} {a c b d : Nat → List Int32} {q : List (Option Nat)} {h : Nat} {z : mc_W} {v w : Int32} (hM : ∀ k, k < 4 → s (11 + 2 * k) = -1) : mc_D yX6_who cX6_who 13 (some .long) 7 [.ref 0, .int v, .int w] (WW s a q u c h m b n d z) (some (.long ((sfr v).toInt64))) (WW s a q u c h m b n d z) := by
  refine mc_start (own := RX6) (ini := false) rfl (by decide +kernel) (fun h => by cases h) (Nat.le_of_ble_eq_true rfl) ?_
  show mc_E _ _ _ _ _ [some (.ref 0), some (.int v), some (.int w), none, none, none, none, none, none, none, none, none, none] [] _ _ _
  refine e_aloadn (pc := 0) dX6_who_0 rfl ?_
  refine e_iloadn (pc := 1) dX6_who_1 rfl ?_
  refine e_cvD (pc := 2) (sf_refusalOfBook hM) dX6_who_2 kX6_168 rfl rfl rfl rfl rfl (mc_CR_of (Nat.le_of_ble_eq_true rfl) (Nat.le_of_ble_eq_true rfl) (Nat.le_refl _) (Nat.le_refl _)) (Nat.le_of_ble_eq_true rfl) ?_
  refine e_isn3 (pc := 5) dX6_who_5 (Nat.le_of_ble_eq_true rfl) rfl ?_
  refine e_iloadn (pc := 6) dX6_who_6 rfl ?_
  refine e_if_eq (pc := 7) dX6_who_7 (t := 13) (by decide) (fun c_7 => absurd c_7 (sfr0 v)) (fun _ => ?_)
  refine e_iloadn (pc := 10) dX6_who_10 rfl ?_
  refine e_i2l (pc := 11) dX6_who_11 ?_
  exact e_lret (pc := 12) dX6_who_12 rfl (Nat.le_refl _) (Nat.le_refl _) ⟨rfl, rfl⟩
theorem sf_smuggled {s u m n : Nat → Int32} {a c b d : Nat → List Int32} {q : List (Option Nat)} {h : Nat} {z : mc_W} {v k w : Int32} (hM : ∀ k, k < 4 → s (11 + 2 * k) = -1) : mc_D yX6_smuggled cX6_smuggled 15 (some .long) 7 [.ref 0, .int v, .int k, .int w] (WW s a q u c h m b n d z) (some (.long ((sfr v).toInt64))) (WW s a q u c h m b n d z) := by
  refine mc_start (own := RX6) (ini := false) rfl (by decide +kernel) (fun h => by cases h) (Nat.le_of_ble_eq_true rfl) ?_
  show mc_E _ _ _ _ _ [some (.ref 0), some (.int v), some (.int k), some (.int w), none, none, none, none, none, none, none, none, none, none, none] [] _ _ _
  refine e_aloadn (pc := 0) dX6_smuggled_0 rfl ?_
  refine e_iloadn (pc := 1) dX6_smuggled_1 rfl ?_
  refine e_iloadn (pc := 2) dX6_smuggled_2 rfl ?_
  refine e_cvD (pc := 3) (sf_refusalOfBookBy hM) dX6_smuggled_3 kX6_194 rfl rfl rfl rfl rfl (mc_CR_of (Nat.le_of_ble_eq_true rfl) (Nat.le_of_ble_eq_true rfl) (Nat.le_refl _) (Nat.le_refl _)) (Nat.le_of_ble_eq_true rfl) ?_
  refine e_isw4 (pc := 6) dX6_smuggled_6 (Nat.le_of_ble_eq_true rfl) rfl ?_
  refine e_iload (pc := 8) dX6_smuggled_8 rfl ?_
  refine e_if_eq (pc := 10) dX6_smuggled_10 (t := 17) (by decide) (fun c_10 => absurd c_10 (sfr0 v)) (fun _ => ?_)
  refine e_iload (pc := 13) dX6_smuggled_13 rfl ?_
  refine e_i2l (pc := 15) dX6_smuggled_15 ?_
  exact e_lret (pc := 16) dX6_smuggled_16 rfl (Nat.le_refl _) (Nat.le_refl _) ⟨rfl, rfl⟩
theorem sf_shortest {s u m n : Nat → Int32} {a c b d : Nat → List Int32} {q : List (Option Nat)} {h : Nat} {z : mc_W} {v k w : Int32} (hM : ∀ k, k < 4 → s (11 + 2 * k) = -1) : mc_D yX6_shortest cX6_shortest 11 (some .int) 7 [.ref 0, .int v, .int k, .int w] (WW s a q u c h m b n d z) (some (.int (sfr v))) (WW s a q u c h m b n d z) := by
  refine mc_start (own := RX6) (ini := false) rfl (by decide +kernel) (fun h => by cases h) (Nat.le_of_ble_eq_true rfl) ?_
  show mc_E _ _ _ _ _ [some (.ref 0), some (.int v), some (.int k), some (.int w), none, none, none, none, none, none, none] [] _ _ _
  refine e_aloadn (pc := 0) dX6_shortest_0 rfl ?_
  refine e_iloadn (pc := 1) dX6_shortest_1 rfl ?_
  refine e_iloadn (pc := 2) dX6_shortest_2 rfl ?_
  refine e_cvD (pc := 3) (sf_refusalOfBookBy hM) dX6_shortest_3 kX6_194 rfl rfl rfl rfl rfl (mc_CR_of (Nat.le_of_ble_eq_true rfl) (Nat.le_of_ble_eq_true rfl) (Nat.le_refl _) (Nat.le_refl _)) (Nat.le_of_ble_eq_true rfl) ?_
  refine e_isw4 (pc := 6) dX6_shortest_6 (Nat.le_of_ble_eq_true rfl) rfl ?_
  refine e_iload (pc := 8) dX6_shortest_8 rfl ?_
  refine e_if_eq (pc := 10) dX6_shortest_10 (t := 16) (by decide) (fun c_10 => absurd c_10 (sfr0 v)) (fun _ => ?_)
  refine e_iload (pc := 13) dX6_shortest_13 rfl ?_
  exact e_iret (pc := 15) dX6_shortest_15 rfl (Nat.le_refl _) (Nat.le_refl _) ⟨rfl, rfl⟩
theorem sf_judge {s u m n : Nat → Int32} {a c b d : Nat → List Int32} {q : List (Option Nat)} {h : Nat} {z : mc_W} {v k : Int32} (hM : ∀ k, k < 4 → s (11 + 2 * k) = -1) : mc_D yX6_judge cX6_judge 4 (some .int) 7 [.ref 0, .int v, .int k] (WW s a q u c h m b n d z) (some (.int (sfr v))) (WW s a q u c h m b n d z) := by
  refine mc_start (own := RX6) (ini := false) rfl (by decide +kernel) (fun h => by cases h) (Nat.le_of_ble_eq_true rfl) ?_
  show mc_E _ _ _ _ _ [some (.ref 0), some (.int v), some (.int k), none] [] _ _ _
  refine e_aloadn (pc := 0) dX6_judge_0 rfl ?_
  refine e_iloadn (pc := 1) dX6_judge_1 rfl ?_
  refine e_iloadn (pc := 2) dX6_judge_2 rfl ?_
  refine e_cvD (pc := 3) (sf_refusalOfRowsBy hM) dX6_judge_3 kX6_275 rfl rfl rfl rfl rfl (mc_CR_of (Nat.le_of_ble_eq_true rfl) (Nat.le_of_ble_eq_true rfl) (Nat.le_refl _) (Nat.le_refl _)) (Nat.le_of_ble_eq_true rfl) ?_
  refine e_isn3 (pc := 6) dX6_judge_6 (Nat.le_of_ble_eq_true rfl) rfl ?_
  refine e_iloadn (pc := 7) dX6_judge_7 rfl ?_
  refine e_if_eq (pc := 8) dX6_judge_8 (t := 13) (by decide) (fun c_8 => absurd c_8 (sfr0 v)) (fun _ => ?_)
  refine e_iloadn (pc := 11) dX6_judge_11 rfl ?_
  exact e_iret (pc := 12) dX6_judge_12 rfl (Nat.le_refl _) (Nat.le_refl _) ⟨rfl, rfl⟩
theorem sf_kinds {s u m n : Nat → Int32} {a c b d : Nat → List Int32} {q : List (Option Nat)} {h : Nat} {z : mc_W} {v k w : Int32} (hM : ∀ k, k < 4 → s (11 + 2 * k) = -1) : mc_D yX6_kinds cX6_kinds 9 (some .int) 7 [.ref 0, .int v, .int k, .int w] (WW s a q u c h m b n d z) (some (.int (sfr v))) (WW s a q u c h m b n d z) := by
  refine mc_start (own := RX6) (ini := false) rfl (by decide +kernel) (fun h => by cases h) (Nat.le_of_ble_eq_true rfl) ?_
  show mc_E _ _ _ _ _ [some (.ref 0), some (.int v), some (.int k), some (.int w), none, none, none, none, none] [] _ _ _
  refine e_aloadn (pc := 0) dX6_kinds_0 rfl ?_
  refine e_iloadn (pc := 1) dX6_kinds_1 rfl ?_
  refine e_iloadn (pc := 2) dX6_kinds_2 rfl ?_
  refine e_cvD (pc := 3) (sf_refusalOfRowsBy hM) dX6_kinds_3 kX6_275 rfl rfl rfl rfl rfl (mc_CR_of (Nat.le_of_ble_eq_true rfl) (Nat.le_of_ble_eq_true rfl) (Nat.le_refl _) (Nat.le_refl _)) (Nat.le_of_ble_eq_true rfl) ?_
  refine e_isw4 (pc := 6) dX6_kinds_6 (Nat.le_of_ble_eq_true rfl) rfl ?_
  refine e_iload (pc := 8) dX6_kinds_8 rfl ?_
  refine e_if_eq (pc := 10) dX6_kinds_10 (t := 16) (by decide) (fun c_10 => absurd c_10 (sfr0 v)) (fun _ => ?_)
  refine e_iload (pc := 13) dX6_kinds_13 rfl ?_
  exact e_iret (pc := 15) dX6_kinds_15 rfl (Nat.le_refl _) (Nat.le_refl _) ⟨rfl, rfl⟩
theorem sf_whose {s u m n : Nat → Int32} {a c b d : Nat → List Int32} {q : List (Option Nat)} {h : Nat} {z : mc_W} {v : Int32} (hM : ∀ k, k < 4 → s (11 + 2 * k) = -1) : mc_D yX6_whose cX6_whose 5 (some .int) 7 [.ref 0, .int v] (WW s a q u c h m b n d z) (some (.int (sfr v))) (WW s a q u c h m b n d z) := by
  refine mc_start (own := RX6) (ini := false) rfl (by decide +kernel) (fun h => by cases h) (Nat.le_of_ble_eq_true rfl) ?_
  show mc_E _ _ _ _ _ [some (.ref 0), some (.int v), none, none, none] [] _ _ _
  refine e_aloadn (pc := 0) dX6_whose_0 rfl ?_
  refine e_iloadn (pc := 1) dX6_whose_1 rfl ?_
  refine e_cvD (pc := 2) (sf_refusalOfRows hM) dX6_whose_2 kX6_286 rfl rfl rfl rfl rfl (mc_CR_of (Nat.le_of_ble_eq_true rfl) (Nat.le_of_ble_eq_true rfl) (Nat.le_refl _) (Nat.le_refl _)) (Nat.le_of_ble_eq_true rfl) ?_
  refine e_isn2 (pc := 5) dX6_whose_5 (Nat.le_of_ble_eq_true rfl) rfl ?_
  refine e_iloadn (pc := 6) dX6_whose_6 rfl ?_
  refine e_if_eq (pc := 7) dX6_whose_7 (t := 12) (by decide) (fun c_7 => absurd c_7 (sfr0 v)) (fun _ => ?_)
  refine e_iloadn (pc := 10) dX6_whose_10 rfl ?_
  exact e_iret (pc := 11) dX6_whose_11 rfl (Nat.le_refl _) (Nat.le_refl _) ⟨rfl, rfl⟩
theorem sf_laws {s u m n : Nat → Int32} {a c b d : Nat → List Int32} {q : List (Option Nat)} {h : Nat} {z : mc_W} {v k : Int32} (hM : ∀ k, k < 4 → s (11 + 2 * k) = -1) : mc_D yX6_laws cX6_laws 7 (some .int) 7 [.ref 0, .int v, .int k] (WW s a q u c h m b n d z) (some (.int (sfr v))) (WW s a q u c h m b n d z) := by
  refine mc_start (own := RX6) (ini := false) rfl (by decide +kernel) (fun h => by cases h) (Nat.le_of_ble_eq_true rfl) ?_
  show mc_E _ _ _ _ _ [some (.ref 0), some (.int v), some (.int k), none, none, none, none] [] _ _ _
  refine e_aloadn (pc := 0) dX6_laws_0 rfl ?_
  refine e_iloadn (pc := 1) dX6_laws_1 rfl ?_
  refine e_iloadn (pc := 2) dX6_laws_2 rfl ?_
  refine e_cvD (pc := 3) (sf_refusalOfRowsBy hM) dX6_laws_3 kX6_275 rfl rfl rfl rfl rfl (mc_CR_of (Nat.le_of_ble_eq_true rfl) (Nat.le_of_ble_eq_true rfl) (Nat.le_refl _) (Nat.le_refl _)) (Nat.le_of_ble_eq_true rfl) ?_
  refine e_isn3 (pc := 6) dX6_laws_6 (Nat.le_of_ble_eq_true rfl) rfl ?_
  refine e_iloadn (pc := 7) dX6_laws_7 rfl ?_
  refine e_if_eq (pc := 8) dX6_laws_8 (t := 13) (by decide) (fun c_8 => absurd c_8 (sfr0 v)) (fun _ => ?_)
  refine e_iloadn (pc := 11) dX6_laws_11 rfl ?_
  exact e_iret (pc := 12) dX6_laws_12 rfl (Nat.le_refl _) (Nat.le_refl _) ⟨rfl, rfl⟩
theorem sf_cell {s u m n : Nat → Int32} {a c b d : Nat → List Int32} {q : List (Option Nat)} {h : Nat} {z : mc_W} {v k w : Int32} (hM : ∀ k, k < 4 → s (11 + 2 * k) = -1) : mc_D yX6_cell cX6_cell 6 (some .int) 7 [.ref 0, .int v, .int k, .int w] (WW s a q u c h m b n d z) (some (.int (sfr v))) (WW s a q u c h m b n d z) := by
  refine mc_start (own := RX6) (ini := false) rfl (by decide +kernel) (fun h => by cases h) (Nat.le_of_ble_eq_true rfl) ?_
  show mc_E _ _ _ _ _ [some (.ref 0), some (.int v), some (.int k), some (.int w), none, none] [] _ _ _
  refine e_aloadn (pc := 0) dX6_cell_0 rfl ?_
  refine e_iloadn (pc := 1) dX6_cell_1 rfl ?_
  refine e_cvD (pc := 2) (sf_refSheet hM) dX6_cell_2 kX6_228 rfl rfl rfl rfl rfl (mc_CR_of (Nat.le_of_ble_eq_true rfl) (Nat.le_of_ble_eq_true rfl) (Nat.le_refl _) (Nat.le_refl _)) (Nat.le_of_ble_eq_true rfl) ?_
  refine e_isw4 (pc := 5) dX6_cell_5 (Nat.le_of_ble_eq_true rfl) rfl ?_
  refine e_iload (pc := 7) dX6_cell_7 rfl ?_
  refine e_if_eq (pc := 9) dX6_cell_9 (t := 15) (by decide) (fun c_9 => absurd c_9 (sfr0 v)) (fun _ => ?_)
  refine e_iload (pc := 12) dX6_cell_12 rfl ?_
  exact e_iret (pc := 14) dX6_cell_14 rfl (Nat.le_refl _) (Nat.le_refl _) ⟨rfl, rfl⟩
def sfc (v w : Int32) : Int32 := if (mc_wi v 0 3 && mc_wi w 0 3) = false then -2 else -11
theorem sf_copy0 {s u m n : Nat → Int32} {a c b d : Nat → List Int32} {q : List (Option Nat)} {h : Nat} {z : mc_W} {v i w j p : Int32} (hv : (mc_wi v 0 3 && mc_wi w 0 3) = false) : mc_D yX6_copy cX6_copy 8 (some .int) 7 [.ref 0, .int v, .int i, .int w, .int j, .int p] (WW s a q u c h m b n d z) (some (.int (-2))) (WW s a q u c h m b n d z) := by
  refine mc_start (own := RX6) (ini := false) rfl (by decide +kernel) (fun h => by cases h) (Nat.le_of_ble_eq_true rfl) ?_
  show mc_E _ _ _ _ _ [some (.ref 0), some (.int v), some (.int i), some (.int w), some (.int j), some (.int p), none, none] [] _ _ _
  refine e_iloadn (pc := 0) dX6_copy_0 rfl ?_
  refine e_csD (pc := 1) (sp_isSheet) dX6_copy_1 kX6_289 rfl rfl (mc_CR_of (Nat.le_of_ble_eq_true rfl) (Nat.le_of_ble_eq_true rfl) (Nat.le_refl _) (Nat.le_refl _)) (Nat.le_of_ble_eq_true rfl) ?_
  refine e_if_eq (pc := 4) dX6_copy_4 (t := 14) (by decide) (fun c_4 => ?_) (fun c_4 => ?_)
  · skip
    refine e_bipush (v := -2) (pc := 14) dX6_copy_14 (by decide) ?_
    exact e_iret (pc := 16) dX6_copy_16 rfl (Nat.le_refl _) (Nat.le_refl _) ⟨rfl, rfl⟩
  · skip
    refine e_iloadn (pc := 7) dX6_copy_7 rfl ?_
    refine e_csD (pc := 8) (sp_isSheet) dX6_copy_8 kX6_289 rfl rfl (mc_CR_of (Nat.le_of_ble_eq_true rfl) (Nat.le_of_ble_eq_true rfl) (Nat.le_refl _) (Nat.le_refl _)) (Nat.le_of_ble_eq_true rfl) ?_
    refine e_if_ne (pc := 11) dX6_copy_11 (t := 17) (by decide) (fun c_11 => ?_) (fun c_11 => ?_)
    · skip
      exact absurd hv (by rw [mc_b1.mp c_4, mc_b1.mp c_11]; decide)
    · skip
      refine e_bipush (v := -2) (pc := 14) dX6_copy_14 (by decide) ?_
      exact e_iret (pc := 16) dX6_copy_16 rfl (Nat.le_refl _) (Nat.le_refl _) ⟨rfl, rfl⟩
theorem sf_copy1 {s u m n : Nat → Int32} {a c b d : Nat → List Int32} {q : List (Option Nat)} {h : Nat} {z : mc_W} {k l : Nat} (hk : k < 4) (hl : l < 4) {i j p : Int32} (hM : ∀ k, k < 4 → s (11 + 2 * k) = -1) : mc_D yX6_copy cX6_copy 8 (some .int) 7 [.ref 0, .int (nI k), .int i, .int (nI l), .int j, .int p] (WW s a q u c h m b n d z) (some (.int (-11))) (WW s a q u c h m b n d z) := by
  refine mc_start (own := RX6) (ini := false) rfl (by decide +kernel) (fun h => by cases h) (Nat.le_of_ble_eq_true rfl) ?_
  show mc_E _ _ _ _ _ [some (.ref 0), some (.int (nI k)), some (.int i), some (.int (nI l)), some (.int j), some (.int p), none, none] [] _ _ _
  refine e_iloadn (pc := 0) dX6_copy_0 rfl ?_
  refine e_csD (pc := 1) (sp_isSheet) dX6_copy_1 kX6_289 rfl rfl (mc_CR_of (Nat.le_of_ble_eq_true rfl) (Nat.le_of_ble_eq_true rfl) (Nat.le_refl _) (Nat.le_refl _)) (Nat.le_of_ble_eq_true rfl) ?_
  refine e_if_eq (pc := 4) dX6_copy_4 (t := 14) (by decide) (fun c_4 => absurd c_4 (mc_b1.mpr (wi_nk hk))) (fun _ => ?_)
  refine e_iloadn (pc := 7) dX6_copy_7 rfl ?_
  refine e_csD (pc := 8) (sp_isSheet) dX6_copy_8 kX6_289 rfl rfl (mc_CR_of (Nat.le_of_ble_eq_true rfl) (Nat.le_of_ble_eq_true rfl) (Nat.le_refl _) (Nat.le_refl _)) (Nat.le_of_ble_eq_true rfl) ?_
  refine e_if_ne (pc := 11) dX6_copy_11 (t := 17) (by decide) (fun _ => ?_) (fun c_11 => absurd c_11 (mc_b1.mpr (wi_nk hl)))
  refine e_aloadn (pc := 17) dX6_copy_17 rfl ?_
  refine e_iloadn (pc := 18) dX6_copy_18 rfl ?_
  refine e_cvD (pc := 19) (sp_x_sheetAt hk) dX6_copy_19 kX6_171 rfl rfl rfl rfl rfl (mc_CR_of (Nat.le_of_ble_eq_true rfl) (Nat.le_of_ble_eq_true rfl) (Nat.le_refl _) (Nat.le_refl _)) (Nat.le_of_ble_eq_true rfl) ?_
  refine e_asw6 (pc := 22) dX6_copy_22 (Nat.le_of_ble_eq_true rfl) rfl ?_
  refine e_aloadn (pc := 24) dX6_copy_24 rfl ?_
  refine e_iloadn (pc := 25) dX6_copy_25 rfl ?_
  refine e_cvD (pc := 26) (sp_x_sheetAt hl) dX6_copy_26 kX6_171 rfl rfl rfl rfl rfl (mc_CR_of (Nat.le_of_ble_eq_true rfl) (Nat.le_of_ble_eq_true rfl) (Nat.le_refl _) (Nat.le_refl _)) (Nat.le_of_ble_eq_true rfl) ?_
  refine e_asw7 (pc := 29) dX6_copy_29 (Nat.le_of_ble_eq_true rfl) rfl ?_
  refine e_aload (pc := 31) dX6_copy_31 rfl ?_
  refine e_cvD (pc := 33) (sp_x_missing hk) dX6_copy_33 kX6_332 (WW_sh hk) rfl rfl rfl rfl (mc_CR_of (Nat.le_of_ble_eq_true rfl) (Nat.le_of_ble_eq_true rfl) (Nat.le_refl _) (Nat.le_refl _)) (Nat.le_of_ble_eq_true rfl) ?_
  refine e_if_ne (pc := 36) dX6_copy_36 (t := 47) (by decide) (fun _ => ?_) (fun c_36 => absurd c_36 (mc_b1.mpr (by rw [hM k hk]; rfl)))
  refine e_bipush (v := -11) (pc := 47) dX6_copy_47 (by decide) ?_
  exact e_iret (pc := 49) dX6_copy_49 rfl (Nat.le_refl _) (Nat.le_refl _) ⟨rfl, rfl⟩
theorem sf_copy {s u m n : Nat → Int32} {a c b d : Nat → List Int32} {q : List (Option Nat)} {h : Nat} {z : mc_W} {v i w j p : Int32} (hM : ∀ k, k < 4 → s (11 + 2 * k) = -1) : mc_D yX6_copy cX6_copy 8 (some .int) 7 [.ref 0, .int v, .int i, .int w, .int j, .int p] (WW s a q u c h m b n d z) (some (.int (sfc v w))) (WW s a q u c h m b n d z) := by
  unfold sfc
  by_cases hv : (mc_wi v 0 3 && mc_wi w 0 3) = true
  · rw [if_neg (by rw [hv]; decide)]
    rw [Bool.and_eq_true] at hv
    obtain ⟨k, hk, rfl⟩ := wi_k hv.1
    obtain ⟨l, hl, rfl⟩ := wi_k hv.2
    exact sf_copy1 hk hl hM
  · rw [if_pos (by simpa using hv)]
    exact sf_copy0 (by simpa using hv)
theorem sf_cby0 {s u m n : Nat → Int32} {a c b d : Nat → List Int32} {q : List (Option Nat)} {h : Nat} {z : mc_W} {v so i p : Int32} (hv : (mc_wi v 0 3 && mc_wi so 0 2 && mc_wi p 0 5) = false) : mc_D yX6_clerksBy cX6_clerksBy 9 (some .int) 7 [.ref 0, .int v, .int so, .int i, .int p] (WW s a q u c h m b n d z) (some (.int (-2))) (WW s a q u c h m b n d z) := by
  refine mc_start (own := RX6) (ini := false) rfl (by decide +kernel) (fun h => by cases h) (Nat.le_of_ble_eq_true rfl) ?_
  show mc_E _ _ _ _ _ [some (.ref 0), some (.int v), some (.int so), some (.int i), some (.int p), none, none, none, none] [] _ _ _
  refine e_iloadn (pc := 0) dX6_clerksBy_0 rfl ?_
  refine e_csD (pc := 1) (sp_isSheet) dX6_clerksBy_1 kX6_289 rfl rfl (mc_CR_of (Nat.le_of_ble_eq_true rfl) (Nat.le_of_ble_eq_true rfl) (Nat.le_refl _) (Nat.le_refl _)) (Nat.le_of_ble_eq_true rfl) ?_
  refine e_if_eq (pc := 4) dX6_clerksBy_4 (t := 26) (by decide) (fun c_4 => ?_) (fun c_4 => ?_)
  · skip
    refine e_bipush (v := -2) (pc := 26) dX6_clerksBy_26 (by decide) ?_
    exact e_iret (pc := 28) dX6_clerksBy_28 rfl (Nat.le_refl _) (Nat.le_refl _) ⟨rfl, rfl⟩
  · skip
    refine e_iloadn (pc := 7) dX6_clerksBy_7 rfl ?_
    refine e_iconst (v := 0) (pc := 8) dX6_clerksBy_8 (by decide) ?_
    refine e_iconst (v := 2) (pc := 9) dX6_clerksBy_9 (by decide) ?_
    refine e_csD (pc := 10) (sp_isWithin) dX6_clerksBy_10 kX6_86 rfl rfl (mc_CR_of (Nat.le_of_ble_eq_true rfl) (Nat.le_of_ble_eq_true rfl) (Nat.le_refl _) (Nat.le_refl _)) (Nat.le_of_ble_eq_true rfl) ?_
    refine e_if_eq (pc := 13) dX6_clerksBy_13 (t := 26) (by decide) (fun c_13 => ?_) (fun c_13 => ?_)
    · skip
      refine e_bipush (v := -2) (pc := 26) dX6_clerksBy_26 (by decide) ?_
      exact e_iret (pc := 28) dX6_clerksBy_28 rfl (Nat.le_refl _) (Nat.le_refl _) ⟨rfl, rfl⟩
    · skip
      refine e_iload (pc := 16) dX6_clerksBy_16 rfl ?_
      refine e_iconst (v := 0) (pc := 18) dX6_clerksBy_18 (by decide) ?_
      refine e_iconst (v := 5) (pc := 19) dX6_clerksBy_19 (by decide) ?_
      refine e_csD (pc := 20) (sp_isWithin) dX6_clerksBy_20 kX6_86 rfl rfl (mc_CR_of (Nat.le_of_ble_eq_true rfl) (Nat.le_of_ble_eq_true rfl) (Nat.le_refl _) (Nat.le_refl _)) (Nat.le_of_ble_eq_true rfl) ?_
      refine e_if_ne (pc := 23) dX6_clerksBy_23 (t := 29) (by decide) (fun c_23 => ?_) (fun c_23 => ?_)
      · skip
        exact absurd hv (by rw [mc_b1.mp c_4, mc_b1.mp c_13, mc_b1.mp c_23]; decide)
      · skip
        refine e_bipush (v := -2) (pc := 26) dX6_clerksBy_26 (by decide) ?_
        exact e_iret (pc := 28) dX6_clerksBy_28 rfl (Nat.le_refl _) (Nat.le_refl _) ⟨rfl, rfl⟩
theorem sf_cby1 {s u m n : Nat → Int32} {a c b d : Nat → List Int32} {q : List (Option Nat)} {h : Nat} {z : mc_W} {k : Nat} (hk : k < 4) {so i p : Int32} (hM : ∀ k, k < 4 → s (11 + 2 * k) = -1) (h1 : mc_wi so 0 2 = true) (h2 : mc_wi p 0 5 = true) : mc_D yX6_clerksBy cX6_clerksBy 9 (some .int) 7 [.ref 0, .int (nI k), .int so, .int i, .int p] (WW s a q u c h m b n d z) (some (.int (-11))) (WW s a q u c h m b n d z) := by
  refine mc_start (own := RX6) (ini := false) rfl (by decide +kernel) (fun h => by cases h) (Nat.le_of_ble_eq_true rfl) ?_
  show mc_E _ _ _ _ _ [some (.ref 0), some (.int (nI k)), some (.int so), some (.int i), some (.int p), none, none, none, none] [] _ _ _
  refine e_iloadn (pc := 0) dX6_clerksBy_0 rfl ?_
  refine e_csD (pc := 1) (sp_isSheet) dX6_clerksBy_1 kX6_289 rfl rfl (mc_CR_of (Nat.le_of_ble_eq_true rfl) (Nat.le_of_ble_eq_true rfl) (Nat.le_refl _) (Nat.le_refl _)) (Nat.le_of_ble_eq_true rfl) ?_
  refine e_if_eq (pc := 4) dX6_clerksBy_4 (t := 26) (by decide) (fun c_4 => absurd c_4 (mc_b1.mpr (wi_nk hk))) (fun _ => ?_)
  refine e_iloadn (pc := 7) dX6_clerksBy_7 rfl ?_
  refine e_iconst (v := 0) (pc := 8) dX6_clerksBy_8 (by decide) ?_
  refine e_iconst (v := 2) (pc := 9) dX6_clerksBy_9 (by decide) ?_
  refine e_csD (pc := 10) (sp_isWithin) dX6_clerksBy_10 kX6_86 rfl rfl (mc_CR_of (Nat.le_of_ble_eq_true rfl) (Nat.le_of_ble_eq_true rfl) (Nat.le_refl _) (Nat.le_refl _)) (Nat.le_of_ble_eq_true rfl) ?_
  refine e_if_eq (pc := 13) dX6_clerksBy_13 (t := 26) (by decide) (fun c_13 => absurd c_13 (mc_b1.mpr h1)) (fun _ => ?_)
  refine e_iload (pc := 16) dX6_clerksBy_16 rfl ?_
  refine e_iconst (v := 0) (pc := 18) dX6_clerksBy_18 (by decide) ?_
  refine e_iconst (v := 5) (pc := 19) dX6_clerksBy_19 (by decide) ?_
  refine e_csD (pc := 20) (sp_isWithin) dX6_clerksBy_20 kX6_86 rfl rfl (mc_CR_of (Nat.le_of_ble_eq_true rfl) (Nat.le_of_ble_eq_true rfl) (Nat.le_refl _) (Nat.le_refl _)) (Nat.le_of_ble_eq_true rfl) ?_
  refine e_if_ne (pc := 23) dX6_clerksBy_23 (t := 29) (by decide) (fun _ => ?_) (fun c_23 => absurd c_23 (mc_b1.mpr h2))
  refine e_aloadn (pc := 29) dX6_clerksBy_29 rfl ?_
  refine e_iloadn (pc := 30) dX6_clerksBy_30 rfl ?_
  refine e_cvD (pc := 31) (sp_x_sheetAt hk) dX6_clerksBy_31 kX6_171 rfl rfl rfl rfl rfl (mc_CR_of (Nat.le_of_ble_eq_true rfl) (Nat.le_of_ble_eq_true rfl) (Nat.le_refl _) (Nat.le_refl _)) (Nat.le_of_ble_eq_true rfl) ?_
  refine e_asw5 (pc := 34) dX6_clerksBy_34 (Nat.le_of_ble_eq_true rfl) rfl ?_
  refine e_aload (pc := 36) dX6_clerksBy_36 rfl ?_
  refine e_cvD (pc := 38) (sp_x_missing hk) dX6_clerksBy_38 kX6_332 (WW_sh hk) rfl rfl rfl rfl (mc_CR_of (Nat.le_of_ble_eq_true rfl) (Nat.le_of_ble_eq_true rfl) (Nat.le_refl _) (Nat.le_refl _)) (Nat.le_of_ble_eq_true rfl) ?_
  refine e_if_eq (pc := 41) dX6_clerksBy_41 (t := 47) (by decide) (fun c_41 => absurd c_41 (mc_b1.mpr (by rw [hM k hk]; rfl))) (fun _ => ?_)
  refine e_bipush (v := -11) (pc := 44) dX6_clerksBy_44 (by decide) ?_
  exact e_iret (pc := 46) dX6_clerksBy_46 rfl (Nat.le_refl _) (Nat.le_refl _) ⟨rfl, rfl⟩
theorem sf_clerksBy {s u m n : Nat → Int32} {a c b d : Nat → List Int32} {q : List (Option Nat)} {h : Nat} {z : mc_W} {v so i p : Int32} (hM : ∀ k, k < 4 → s (11 + 2 * k) = -1) : mc_D yX6_clerksBy cX6_clerksBy 9 (some .int) 7 [.ref 0, .int v, .int so, .int i, .int p] (WW s a q u c h m b n d z) (some (.int (if (mc_wi v 0 3 && mc_wi so 0 2 && mc_wi p 0 5) = false then -2 else -11))) (WW s a q u c h m b n d z) := by
  by_cases hv : (mc_wi v 0 3 && mc_wi so 0 2 && mc_wi p 0 5) = true
  · rw [if_neg (by rw [hv]; decide)]
    rw [Bool.and_eq_true, Bool.and_eq_true] at hv
    obtain ⟨k, hk, rfl⟩ := wi_k hv.1.1
    exact sf_cby1 hk hM hv.1.2 hv.2
  · rw [if_pos (by simpa using hv)]
    exact sf_cby0 (by simpa using hv)
theorem sf_byteAt {s u m n : Nat → Int32} {a c b d : Nat → List Int32} {q : List (Option Nat)} {h : Nat} {z : mc_W} {i : Int32} (hi : i = 0) (h5 : s 5 = 0) : mc_D yX4_byteAt cX4_byteAt 2 (some .int) 1 [.ref 6, .int i] (WW s a q u c h m b n d z) (some (.int (-1))) (WW s a q u c h m b n d z) := by
  refine mc_start (own := RX4) (ini := false) rfl (by decide +kernel) (fun h => by cases h) (Nat.le_of_ble_eq_true rfl) ?_
  show mc_E _ _ _ _ _ [some (.ref 6), some (.int i)] [] _ _ _
  refine e_iloadn (pc := 0) dX4_byteAt_0 rfl ?_
  refine e_if_lt (pc := 1) dX4_byteAt_1 (t := 30) (by decide) (fun c_1 => absurd c_1 (by rw [hi]; decide)) (fun _ => ?_)
  refine e_iloadn (pc := 4) dX4_byteAt_4 rfl ?_
  refine e_aloadn (pc := 5) dX4_byteAt_5 rfl ?_
  refine e_get (pc := 6) dX4_byteAt_6 fX4_18 rfl rfl ?_
  refine e_icmp_ge (pc := 9) dX4_byteAt_9 (t := 30) (by decide) (fun _ => ?_) (fun c_9 => absurd (by rw [h5, hi]; decide) c_9)
  refine e_iconst (v := -1) (pc := 30) dX4_byteAt_30 (by decide) ?_
  exact e_iret (pc := 31) dX4_byteAt_31 rfl (Nat.le_refl _) (Nat.le_refl _) ⟨rfl, rfl⟩
theorem sf_goOn {s u m n : Nat → Int32} {a c b d : Nat → List Int32} {q : List (Option Nat)} {h : Nat} {z : mc_W} (h5 : s 5 = 0) (h1 : u 1 = 0) : mc_D yX4_goOn cX4_goOn 2 none 2 [.ref 6] (WW s a q u c h m b n d z) none (WW s a q (mc_up (mc_up (mc_up u 0 (u 1)) 1 (u 1)) 2 (-26)) c h m b n d z) := by
  refine mc_start (own := RX4) (ini := false) rfl (by decide +kernel) (fun h => by cases h) (Nat.le_of_ble_eq_true rfl) ?_
  show mc_E _ _ _ _ _ [some (.ref 6), none] [] _ _ _
  refine e_aloadn (pc := 0) dX4_goOn_0 rfl ?_
  refine e_aloadn (pc := 1) dX4_goOn_1 rfl ?_
  refine e_get (pc := 2) dX4_goOn_2 fX4_22 rfl rfl ?_
  refine put_tape_at (pc := 5) dX4_goOn_5 pX4_44 ?_
  refine e_aloadn (pc := 8) dX4_goOn_8 rfl ?_
  refine e_get (pc := 9) dX4_goOn_9 fX4_44 rfl rfl ?_
  refine e_aloadn (pc := 12) dX4_goOn_12 rfl ?_
  refine e_get (pc := 13) dX4_goOn_13 fX4_18 rfl rfl ?_
  refine e_icmp_ge (pc := 16) dX4_goOn_16 (t := 46) (by decide) (fun _ => ?_) (fun c_16 => absurd (by rw [h5]; show (0 : Int32) ≤ u 1; rw [h1]; decide) c_16)
  refine e_aloadn (pc := 46) dX4_goOn_46 rfl ?_
  refine e_aloadn (pc := 47) dX4_goOn_47 rfl ?_
  refine e_get (pc := 48) dX4_goOn_48 fX4_44 rfl rfl ?_
  refine put_tape_next (pc := 51) dX4_goOn_51 pX4_22 ?_
  refine e_aloadn (pc := 54) dX4_goOn_54 rfl ?_
  refine e_aloadn (pc := 55) dX4_goOn_55 rfl ?_
  refine e_get (pc := 56) dX4_goOn_56 fX4_44 rfl rfl ?_
  refine e_cvD (pc := 59) (sf_byteAt (show u 1 = 0 from h1) h5) dX4_goOn_59 kX4_92 rfl rfl rfl rfl rfl (mc_CR_of (Nat.le_of_ble_eq_true rfl) (Nat.le_of_ble_eq_true rfl) (Nat.le_refl _) (Nat.le_refl _)) (Nat.le_of_ble_eq_true rfl) ?_
  refine e_isn1 (pc := 62) dX4_goOn_62 (Nat.le_of_ble_eq_true rfl) rfl ?_
  refine e_aloadn (pc := 63) dX4_goOn_63 rfl ?_
  refine e_get (pc := 64) dX4_goOn_64 fX4_44 rfl rfl ?_
  refine e_aloadn (pc := 67) dX4_goOn_67 rfl ?_
  refine e_get (pc := 68) dX4_goOn_68 fX4_18 rfl rfl ?_
  refine e_icmp_lt (pc := 71) dX4_goOn_71 (t := 83) (by decide) (fun c_71 => absurd c_71 (by rw [h5]; show ¬ u 1 < 0; rw [h1]; decide)) (fun _ => ?_)
  refine e_aloadn (pc := 74) dX4_goOn_74 rfl ?_
  refine e_bipush (v := -26) (pc := 75) dX4_goOn_75 (by decide) ?_
  refine put_tape_token (pc := 77) dX4_goOn_77 pX4_41 ?_
  refine e_goto (pc := 80) dX4_goOn_80 (t := 137) (by decide) ?_
  exact e_vret (pc := 137) dX4_goOn_137 rfl (Nat.le_refl _) (Nat.le_refl _) ⟨rfl, rfl⟩
theorem sf_isNext {s u m n : Nat → Int32} {a c b d : Nat → List Int32} {q : List (Option Nat)} {h : Nat} {z : mc_W} {v : Int32} (h2 : ¬ u 2 = v) : mc_D yX4_isNext cX4_isNext 2 (some .boolean) 3 [.ref 6, .int v] (WW s a q u c h m b n d z) (some (.int (0))) (WW s a q u c h m b n d z) := by
  refine mc_start (own := RX4) (ini := false) rfl (by decide +kernel) (fun h => by cases h) (Nat.le_of_ble_eq_true rfl) ?_
  show mc_E _ _ _ _ _ [some (.ref 6), some (.int v)] [] _ _ _
  refine e_aloadn (pc := 0) dX4_isNext_0 rfl ?_
  refine e_get (pc := 1) dX4_isNext_1 fX4_41 rfl rfl ?_
  refine e_iloadn (pc := 4) dX4_isNext_4 rfl ?_
  refine e_icmp_eq (pc := 5) dX4_isNext_5 (t := 10) (by decide) (fun c_5 => absurd c_5 h2) (fun _ => ?_)
  refine e_iconst (v := 0) (pc := 8) dX4_isNext_8 (by decide) ?_
  exact e_zret (pc := 9) dX4_isNext_9 rfl (by rfl) (Nat.le_refl _) (Nat.le_refl _) ⟨rfl, rfl⟩
theorem sf_isPart {s u m n : Nat → Int32} {a c b d : Nat → List Int32} {q : List (Option Nat)} {h : Nat} {z : mc_W} {v : Int32} (h2 : ¬ u 2 = v) : mc_D yX4_isPart cX4_isPart 2 (some .boolean) 4 [.ref 6, .int v] (WW s a q u c h m b n d z) (some (.int (0))) (WW s a q u c h m b n d z) := by
  refine mc_start (own := RX4) (ini := false) rfl (by decide +kernel) (fun h => by cases h) (Nat.le_of_ble_eq_true rfl) ?_
  show mc_E _ _ _ _ _ [some (.ref 6), some (.int v)] [] _ _ _
  refine e_aloadn (pc := 0) dX4_isPart_0 rfl ?_
  refine e_iloadn (pc := 1) dX4_isPart_1 rfl ?_
  refine e_cvD (pc := 2) (sf_isNext h2) dX4_isPart_2 kX4_67 rfl rfl rfl rfl rfl (mc_CR_of (Nat.le_of_ble_eq_true rfl) (Nat.le_of_ble_eq_true rfl) (Nat.le_refl _) (Nat.le_refl _)) (Nat.le_of_ble_eq_true rfl) ?_
  refine e_if_eq (pc := 5) dX4_isPart_5 (t := 29) (by decide) (fun _ => ?_) (fun c_5 => absurd (by decide) c_5)
  refine e_iconst (v := 0) (pc := 29) dX4_isPart_29 (by decide) ?_
  exact e_zret (pc := 30) dX4_isPart_30 rfl (by rfl) (Nat.le_refl _) (Nat.le_refl _) ⟨rfl, rfl⟩
theorem sf_isText {s u m n : Nat → Int32} {a c b d : Nat → List Int32} {q : List (Option Nat)} {h : Nat} {z : mc_W} (h5 : s 5 = 0) : mc_D yX4_isText cX4_isText 1 (some .boolean) 5 [.ref 6] (WW s a q u c h m b n d z) (some (.int (0))) (WW s a q (mc_up (mc_up (mc_up (mc_up (mc_up u 1 0) 3 0) 0 0) 1 0) 2 (-26)) c h m b n d z) := by
  refine mc_start (own := RX4) (ini := false) rfl (by decide +kernel) (fun h => by cases h) (Nat.le_of_ble_eq_true rfl) ?_
  show mc_E _ _ _ _ _ [some (.ref 6)] [] _ _ _
  refine e_aloadn (pc := 0) dX4_isText_0 rfl ?_
  refine e_iconst (v := 0) (pc := 1) dX4_isText_1 (by decide) ?_
  refine put_tape_next (pc := 2) dX4_isText_2 pX4_22 ?_
  refine e_aloadn (pc := 5) dX4_isText_5 rfl ?_
  refine e_iconst (v := 0) (pc := 6) dX4_isText_6 (by decide) ?_
  refine put_tape_codeSize (pc := 7) dX4_isText_7 pX4_25 ?_
  refine e_aloadn (pc := 10) dX4_isText_10 rfl ?_
  refine e_cvU (pc := 11) (sf_goOn (u := (mc_up (mc_up u 1 0) 3 0)) h5 rfl) dX4_isText_11 kX4_28 rfl rfl rfl rfl rfl (mc_CR_of (Nat.le_of_ble_eq_true rfl) (Nat.le_of_ble_eq_true rfl) (Nat.le_refl _) (Nat.le_refl _)) (Nat.le_of_ble_eq_true rfl) ?_
  refine e_w (w2 := (WW s a q (mc_up (mc_up (mc_up (mc_up (mc_up u 1 0) 3 0) 0 0) 1 0) 2 (-26)) c h m b n d z)) rfl ?_
  refine e_aloadn (pc := 14) dX4_isText_14 rfl ?_
  refine e_bipush (v := -23) (pc := 15) dX4_isText_15 (by decide) ?_
  refine e_cvD (pc := 17) (sf_isPart (u := (mc_up (mc_up (mc_up (mc_up (mc_up u 1 0) 3 0) 0 0) 1 0) 2 (-26))) (by rw [up_at]; decide)) dX4_isText_17 kX4_31 rfl rfl rfl rfl rfl (mc_CR_of (Nat.le_of_ble_eq_true rfl) (Nat.le_of_ble_eq_true rfl) (Nat.le_refl _) (Nat.le_refl _)) (Nat.le_of_ble_eq_true rfl) ?_
  refine e_if_ne (pc := 20) dX4_isText_20 (t := 25) (by decide) (fun c_20 => absurd c_20 (by decide)) (fun _ => ?_)
  refine e_iconst (v := 0) (pc := 23) dX4_isText_23 (by decide) ?_
  exact e_zret (pc := 24) dX4_isText_24 rfl (by rfl) (Nat.le_refl _) (Nat.le_refl _) ⟨rfl, rfl⟩
theorem sf_fault {s u m n : Nat → Int32} {a c b d : Nat → List Int32} {q : List (Option Nat)} {h : Nat} {z : mc_W} : mc_D yX4_faultPlace cX4_faultPlace 1 (some .int) 1 [.ref 6] (WW s a q u c h m b n d z) (some (.int (u 0))) (WW s a q u c h m b n d z) := by
  refine mc_start (own := RX4) (ini := false) rfl (by decide +kernel) (fun h => by cases h) (Nat.le_of_ble_eq_true rfl) ?_
  show mc_E _ _ _ _ _ [some (.ref 6)] [] _ _ _
  refine e_aloadn (pc := 0) dX4_faultPlace_0 rfl ?_
  refine e_get (pc := 1) dX4_faultPlace_1 fX4_44 rfl rfl ?_
  exact e_iret (pc := 4) dX4_faultPlace_4 rfl (Nat.le_refl _) (Nat.le_refl _) ⟨rfl, rfl⟩
theorem sf_text {s u m n : Nat → Int32} {a c b d : Nat → List Int32} {q : List (Option Nat)} {h : Nat} {z : mc_W} (h3 : s 3 = 1) (h5 : s 5 = 0) : mc_D yX6_text cX6_text 3 (some .int) 6 [.ref 0] (WW s a q u c h m b n d z) (some (.int (-100))) (WW (mc_up s 5 0) a q (mc_up (mc_up (mc_up (mc_up (mc_up u 1 0) 3 0) 0 0) 1 0) 2 (-26)) c h m b n d z) := by
  refine mc_start (own := RX6) (ini := false) rfl (by decide +kernel) (fun h => by cases h) (Nat.le_of_ble_eq_true rfl) ?_
  show mc_E _ _ _ _ _ [some (.ref 0), none, none] [] _ _ _
  refine e_aloadn (pc := 0) dX6_text_0 rfl ?_
  refine e_get (pc := 1) dX6_text_1 fX6_36 rfl rfl ?_
  refine e_bipush (v := 6) (pc := 4) dX6_text_4 (by decide) ?_
  refine e_icmp_lt (pc := 6) dX6_text_6 (t := 12) (by decide) (fun _ => ?_) (fun c_6 => absurd (by rw [h3]; decide) c_6)
  refine e_aloadn (pc := 12) dX6_text_12 rfl ?_
  refine e_get (pc := 13) dX6_text_13 fX6_42 rfl rfl ?_
  refine e_cvD (pc := 16) (sf_isText h5) dX6_text_16 kX6_101 rfl rfl rfl rfl rfl (mc_CR_of (Nat.le_of_ble_eq_true rfl) (Nat.le_of_ble_eq_true rfl) (Nat.le_refl _) (Nat.le_refl _)) (Nat.le_of_ble_eq_true rfl) ?_
  refine e_isn1 (pc := 19) dX6_text_19 (Nat.le_of_ble_eq_true rfl) rfl ?_
  refine e_aloadn (pc := 20) dX6_text_20 rfl ?_
  refine e_get (pc := 21) dX6_text_21 fX6_42 rfl rfl ?_
  refine e_cvU (pc := 24) (sp_x_tempty) dX6_text_24 kX6_105 rfl rfl rfl rfl rfl (mc_CR_of (Nat.le_of_ble_eq_true rfl) (Nat.le_of_ble_eq_true rfl) (Nat.le_refl _) (Nat.le_refl _)) (Nat.le_of_ble_eq_true rfl) ?_
  refine e_iloadn (pc := 27) dX6_text_27 rfl ?_
  refine e_if_ne (pc := 28) dX6_text_28 (t := 42) (by decide) (fun c_28 => absurd c_28 (by decide)) (fun _ => ?_)
  refine e_bipush (v := -100) (pc := 31) dX6_text_31 (by decide) ?_
  refine e_aloadn (pc := 33) dX6_text_33 rfl ?_
  refine e_get (pc := 34) dX6_text_34 fX6_42 rfl rfl ?_
  refine e_cvD (pc := 37) (sf_fault) dX6_text_37 kX6_108 rfl rfl rfl rfl rfl (mc_CR_of (Nat.le_of_ble_eq_true rfl) (Nat.le_of_ble_eq_true rfl) (Nat.le_refl _) (Nat.le_refl _)) (Nat.le_of_ble_eq_true rfl) ?_
  refine e_isub (pc := 40) dX6_text_40 ?_
  exact e_iret (pc := 41) dX6_text_41 rfl (Nat.le_refl _) (Nat.le_refl _) ⟨by simp [mc_up], rfl⟩
