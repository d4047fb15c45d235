/-! ===== kinds, the host ===== -/
theorem kd_cases {K : Int32} (h0 : 0 ≤ K.toInt) (h5 : K.toInt ≤ 5) : K = 0 ∨ K = 1 ∨ K = 2 ∨ K = 3 ∨ K = 4 ∨ K = 5 := by
  have : K.toInt = 0 ∨ K.toInt = 1 ∨ K.toInt = 2 ∨ K.toInt = 3 ∨ K.toInt = 4 ∨ K.toInt = 5 := by omega
  rcases this with h | h | h | h | h | h
  · exact Or.inl (Int32.toInt_inj.mp h)
  · exact Or.inr (Or.inl (Int32.toInt_inj.mp h))
  · exact Or.inr (Or.inr (Or.inl (Int32.toInt_inj.mp h)))
  · exact Or.inr (Or.inr (Or.inr (Or.inl (Int32.toInt_inj.mp h))))
  · exact Or.inr (Or.inr (Or.inr (Or.inr (Or.inl (Int32.toInt_inj.mp h)))))
  · exact Or.inr (Or.inr (Or.inr (Or.inr (Or.inr (Int32.toInt_inj.mp h)))))
theorem sp_ok0 {w : mc_W} {v : Int32} : mc_D yX6_isOfKind cX6_isOfKind 4 (some .boolean) 1 [.int 0, .int v] w (some (.int (mc_b (yy_un 0 v)))) w := by
  refine mc_start (own := RX6) (ini := false) rfl (by decide +kernel) (fun h => by cases h) (Nat.le_of_ble_eq_true rfl) ?_
  show mc_E _ _ _ _ _ [some (.int 0), some (.int v), none, none] [] _ _ _
  refine e_iloadn (pc := 0) dX6_isOfKind_0 rfl ?_
  refine e_isn2 (pc := 1) dX6_isOfKind_1 (Nat.le_of_ble_eq_true rfl) rfl ?_
  refine e_iconst (v := 0) (pc := 2) dX6_isOfKind_2 (by decide) ?_
  refine e_isn3 (pc := 3) dX6_isOfKind_3 (Nat.le_of_ble_eq_true rfl) rfl ?_
  refine e_iloadn (pc := 4) dX6_isOfKind_4 rfl ?_
  refine e_getsKA (pc := 5) dX6_isOfKind_5 sX6_358 ?_
  refine e_alenKA (pc := 8) dX6_isOfKind_8 ?_
  refine e_icmp_ge (pc := 9) dX6_isOfKind_9 (t := 43) (by decide) (fun c => absurd c (by decide)) (fun _ => ?_)
  refine e_iloadn (pc := 12) dX6_isOfKind_12 rfl ?_
  refine e_if_lt (pc := 13) dX6_isOfKind_13 (t := 43) (by decide) (fun c => absurd c (by decide)) (fun _ => ?_)
  refine e_iloadn (pc := 16) dX6_isOfKind_16 rfl ?_
  refine e_getsKA (pc := 17) dX6_isOfKind_17 sX6_358 ?_
  refine e_alenKA (pc := 20) dX6_isOfKind_20 ?_
  refine e_icmp_ge (pc := 21) dX6_isOfKind_21 (t := 43) (by decide) (fun c => absurd c (by decide)) (fun _ => ?_)
  refine e_iloadn (pc := 24) dX6_isOfKind_24 rfl ?_
  refine e_iloadn (pc := 25) dX6_isOfKind_25 rfl ?_
  refine e_icmp_ne (pc := 26) dX6_isOfKind_26 (t := 31) (by decide) (fun c_0 => ?_) (fun c_0 => ?_)
  rotate_left
  · refine e_iconst (v := 1) (pc := 29) dX6_isOfKind_29 (by decide) ?_
    exact e_zret (pc := 30) dX6_isOfKind_30 rfl (by rfl) (Nat.le_refl _) (Nat.le_refl _) ⟨by subst c_0; rfl, rfl⟩
  have e_0 : ¬ v = 0 := fun q => c_0 q.symm
  refine e_getsKA (pc := 31) dX6_isOfKind_31 sX6_358 ?_
  refine e_iloadn (pc := 34) dX6_isOfKind_34 rfl ?_
  refine e_ialdKA (x := (-1)) (pc := 35) dX6_isOfKind_35 (vi_of (by decide +kernel)) (by decide +kernel) ?_
  refine e_isn2 (pc := 36) dX6_isOfKind_36 (Nat.le_of_ble_eq_true rfl) rfl ?_
  refine e_incC3 (pc := 37) (v := 1) dX6_isOfKind_37 (by decide) (Nat.le_of_ble_eq_true rfl) rfl ?_
  refine e_goto (pc := 40) dX6_isOfKind_40 (t := 4) (by decide) ?_
  refine e_iloadn (pc := 4) dX6_isOfKind_4 rfl ?_
  refine e_getsKA (pc := 5) dX6_isOfKind_5 sX6_358 ?_
  refine e_alenKA (pc := 8) dX6_isOfKind_8 ?_
  refine e_icmp_ge (pc := 9) dX6_isOfKind_9 (t := 43) (by decide) (fun c => absurd c (by decide)) (fun _ => ?_)
  refine e_iloadn (pc := 12) dX6_isOfKind_12 rfl ?_
  refine e_if_lt (pc := 13) dX6_isOfKind_13 (t := 43) (by decide) (fun _ => ?_) (fun c => absurd (by decide) c)
  refine e_iconst (v := 0) (pc := 43) dX6_isOfKind_43 (by decide) ?_
  exact e_zret (pc := 44) dX6_isOfKind_44 rfl (by rfl) (Nat.le_refl _) (Nat.le_refl _) ⟨by rw [show yy_un 0 v = false by simp_all [yy_un]]; rfl, rfl⟩
theorem sp_ok1 {w : mc_W} {v : Int32} : mc_D yX6_isOfKind cX6_isOfKind 4 (some .boolean) 1 [.int 1, .int v] w (some (.int (mc_b (yy_un 1 v)))) w := by
  refine mc_start (own := RX6) (ini := false) rfl (by decide +kernel) (fun h => by cases h) (Nat.le_of_ble_eq_true rfl) ?_
  show mc_E _ _ _ _ _ [some (.int 1), some (.int v), none, none] [] _ _ _
  refine e_iloadn (pc := 0) dX6_isOfKind_0 rfl ?_
  refine e_isn2 (pc := 1) dX6_isOfKind_1 (Nat.le_of_ble_eq_true rfl) rfl ?_
  refine e_iconst (v := 0) (pc := 2) dX6_isOfKind_2 (by decide) ?_
  refine e_isn3 (pc := 3) dX6_isOfKind_3 (Nat.le_of_ble_eq_true rfl) rfl ?_
  refine e_iloadn (pc := 4) dX6_isOfKind_4 rfl ?_
  refine e_getsKA (pc := 5) dX6_isOfKind_5 sX6_358 ?_
  refine e_alenKA (pc := 8) dX6_isOfKind_8 ?_
  refine e_icmp_ge (pc := 9) dX6_isOfKind_9 (t := 43) (by decide) (fun c => absurd c (by decide)) (fun _ => ?_)
  refine e_iloadn (pc := 12) dX6_isOfKind_12 rfl ?_
  refine e_if_lt (pc := 13) dX6_isOfKind_13 (t := 43) (by decide) (fun c => absurd c (by decide)) (fun _ => ?_)
  refine e_iloadn (pc := 16) dX6_isOfKind_16 rfl ?_
  refine e_getsKA (pc := 17) dX6_isOfKind_17 sX6_358 ?_
  refine e_alenKA (pc := 20) dX6_isOfKind_20 ?_
  refine e_icmp_ge (pc := 21) dX6_isOfKind_21 (t := 43) (by decide) (fun c => absurd c (by decide)) (fun _ => ?_)
  refine e_iloadn (pc := 24) dX6_isOfKind_24 rfl ?_
  refine e_iloadn (pc := 25) dX6_isOfKind_25 rfl ?_
  refine e_icmp_ne (pc := 26) dX6_isOfKind_26 (t := 31) (by decide) (fun c_0 => ?_) (fun c_0 => ?_)
  rotate_left
  · refine e_iconst (v := 1) (pc := 29) dX6_isOfKind_29 (by decide) ?_
    exact e_zret (pc := 30) dX6_isOfKind_30 rfl (by rfl) (Nat.le_refl _) (Nat.le_refl _) ⟨by subst c_0; rfl, rfl⟩
  have e_0 : ¬ v = 1 := fun q => c_0 q.symm
  refine e_getsKA (pc := 31) dX6_isOfKind_31 sX6_358 ?_
  refine e_iloadn (pc := 34) dX6_isOfKind_34 rfl ?_
  refine e_ialdKA (x := 0) (pc := 35) dX6_isOfKind_35 (vi_of (by decide +kernel)) (by decide +kernel) ?_
  refine e_isn2 (pc := 36) dX6_isOfKind_36 (Nat.le_of_ble_eq_true rfl) rfl ?_
  refine e_incC3 (pc := 37) (v := 1) dX6_isOfKind_37 (by decide) (Nat.le_of_ble_eq_true rfl) rfl ?_
  refine e_goto (pc := 40) dX6_isOfKind_40 (t := 4) (by decide) ?_
  refine e_iloadn (pc := 4) dX6_isOfKind_4 rfl ?_
  refine e_getsKA (pc := 5) dX6_isOfKind_5 sX6_358 ?_
  refine e_alenKA (pc := 8) dX6_isOfKind_8 ?_
  refine e_icmp_ge (pc := 9) dX6_isOfKind_9 (t := 43) (by decide) (fun c => absurd c (by decide)) (fun _ => ?_)
  refine e_iloadn (pc := 12) dX6_isOfKind_12 rfl ?_
  refine e_if_lt (pc := 13) dX6_isOfKind_13 (t := 43) (by decide) (fun c => absurd c (by decide)) (fun _ => ?_)
  refine e_iloadn (pc := 16) dX6_isOfKind_16 rfl ?_
  refine e_getsKA (pc := 17) dX6_isOfKind_17 sX6_358 ?_
  refine e_alenKA (pc := 20) dX6_isOfKind_20 ?_
  refine e_icmp_ge (pc := 21) dX6_isOfKind_21 (t := 43) (by decide) (fun c => absurd c (by decide)) (fun _ => ?_)
  refine e_iloadn (pc := 24) dX6_isOfKind_24 rfl ?_
  refine e_iloadn (pc := 25) dX6_isOfKind_25 rfl ?_
  refine e_icmp_ne (pc := 26) dX6_isOfKind_26 (t := 31) (by decide) (fun c_1 => ?_) (fun c_1 => ?_)
  rotate_left
  · refine e_iconst (v := 1) (pc := 29) dX6_isOfKind_29 (by decide) ?_
    exact e_zret (pc := 30) dX6_isOfKind_30 rfl (by rfl) (Nat.le_refl _) (Nat.le_refl _) ⟨by subst c_1; rfl, rfl⟩
  have e_1 : ¬ v = 0 := fun q => c_1 q.symm
  refine e_getsKA (pc := 31) dX6_isOfKind_31 sX6_358 ?_
  refine e_iloadn (pc := 34) dX6_isOfKind_34 rfl ?_
  refine e_ialdKA (x := (-1)) (pc := 35) dX6_isOfKind_35 (vi_of (by decide +kernel)) (by decide +kernel) ?_
  refine e_isn2 (pc := 36) dX6_isOfKind_36 (Nat.le_of_ble_eq_true rfl) rfl ?_
  refine e_incC3 (pc := 37) (v := 2) dX6_isOfKind_37 (by decide) (Nat.le_of_ble_eq_true rfl) rfl ?_
  refine e_goto (pc := 40) dX6_isOfKind_40 (t := 4) (by decide) ?_
  refine e_iloadn (pc := 4) dX6_isOfKind_4 rfl ?_
  refine e_getsKA (pc := 5) dX6_isOfKind_5 sX6_358 ?_
  refine e_alenKA (pc := 8) dX6_isOfKind_8 ?_
  refine e_icmp_ge (pc := 9) dX6_isOfKind_9 (t := 43) (by decide) (fun c => absurd c (by decide)) (fun _ => ?_)
  refine e_iloadn (pc := 12) dX6_isOfKind_12 rfl ?_
  refine e_if_lt (pc := 13) dX6_isOfKind_13 (t := 43) (by decide) (fun _ => ?_) (fun c => absurd (by decide) c)
  refine e_iconst (v := 0) (pc := 43) dX6_isOfKind_43 (by decide) ?_
  exact e_zret (pc := 44) dX6_isOfKind_44 rfl (by rfl) (Nat.le_refl _) (Nat.le_refl _) ⟨by rw [show yy_un 1 v = false by simp_all [yy_un]]; rfl, rfl⟩
theorem sp_ok2 {w : mc_W} {v : Int32} : mc_D yX6_isOfKind cX6_isOfKind 4 (some .boolean) 1 [.int 2, .int v] w (some (.int (mc_b (yy_un 2 v)))) w := by
  refine mc_start (own := RX6) (ini := false) rfl (by decide +kernel) (fun h => by cases h) (Nat.le_of_ble_eq_true rfl) ?_
  show mc_E _ _ _ _ _ [some (.int 2), some (.int v), none, none] [] _ _ _
  refine e_iloadn (pc := 0) dX6_isOfKind_0 rfl ?_
  refine e_isn2 (pc := 1) dX6_isOfKind_1 (Nat.le_of_ble_eq_true rfl) rfl ?_
  refine e_iconst (v := 0) (pc := 2) dX6_isOfKind_2 (by decide) ?_
  refine e_isn3 (pc := 3) dX6_isOfKind_3 (Nat.le_of_ble_eq_true rfl) rfl ?_
  refine e_iloadn (pc := 4) dX6_isOfKind_4 rfl ?_
  refine e_getsKA (pc := 5) dX6_isOfKind_5 sX6_358 ?_
  refine e_alenKA (pc := 8) dX6_isOfKind_8 ?_
  refine e_icmp_ge (pc := 9) dX6_isOfKind_9 (t := 43) (by decide) (fun c => absurd c (by decide)) (fun _ => ?_)
  refine e_iloadn (pc := 12) dX6_isOfKind_12 rfl ?_
  refine e_if_lt (pc := 13) dX6_isOfKind_13 (t := 43) (by decide) (fun c => absurd c (by decide)) (fun _ => ?_)
  refine e_iloadn (pc := 16) dX6_isOfKind_16 rfl ?_
  refine e_getsKA (pc := 17) dX6_isOfKind_17 sX6_358 ?_
  refine e_alenKA (pc := 20) dX6_isOfKind_20 ?_
  refine e_icmp_ge (pc := 21) dX6_isOfKind_21 (t := 43) (by decide) (fun c => absurd c (by decide)) (fun _ => ?_)
  refine e_iloadn (pc := 24) dX6_isOfKind_24 rfl ?_
  refine e_iloadn (pc := 25) dX6_isOfKind_25 rfl ?_
  refine e_icmp_ne (pc := 26) dX6_isOfKind_26 (t := 31) (by decide) (fun c_0 => ?_) (fun c_0 => ?_)
  rotate_left
  · refine e_iconst (v := 1) (pc := 29) dX6_isOfKind_29 (by decide) ?_
    exact e_zret (pc := 30) dX6_isOfKind_30 rfl (by rfl) (Nat.le_refl _) (Nat.le_refl _) ⟨by subst c_0; rfl, rfl⟩
  have e_0 : ¬ v = 2 := fun q => c_0 q.symm
  refine e_getsKA (pc := 31) dX6_isOfKind_31 sX6_358 ?_
  refine e_iloadn (pc := 34) dX6_isOfKind_34 rfl ?_
  refine e_ialdKA (x := 0) (pc := 35) dX6_isOfKind_35 (vi_of (by decide +kernel)) (by decide +kernel) ?_
  refine e_isn2 (pc := 36) dX6_isOfKind_36 (Nat.le_of_ble_eq_true rfl) rfl ?_
  refine e_incC3 (pc := 37) (v := 1) dX6_isOfKind_37 (by decide) (Nat.le_of_ble_eq_true rfl) rfl ?_
  refine e_goto (pc := 40) dX6_isOfKind_40 (t := 4) (by decide) ?_
  refine e_iloadn (pc := 4) dX6_isOfKind_4 rfl ?_
  refine e_getsKA (pc := 5) dX6_isOfKind_5 sX6_358 ?_
  refine e_alenKA (pc := 8) dX6_isOfKind_8 ?_
  refine e_icmp_ge (pc := 9) dX6_isOfKind_9 (t := 43) (by decide) (fun c => absurd c (by decide)) (fun _ => ?_)
  refine e_iloadn (pc := 12) dX6_isOfKind_12 rfl ?_
  refine e_if_lt (pc := 13) dX6_isOfKind_13 (t := 43) (by decide) (fun c => absurd c (by decide)) (fun _ => ?_)
  refine e_iloadn (pc := 16) dX6_isOfKind_16 rfl ?_
  refine e_getsKA (pc := 17) dX6_isOfKind_17 sX6_358 ?_
  refine e_alenKA (pc := 20) dX6_isOfKind_20 ?_
  refine e_icmp_ge (pc := 21) dX6_isOfKind_21 (t := 43) (by decide) (fun c => absurd c (by decide)) (fun _ => ?_)
  refine e_iloadn (pc := 24) dX6_isOfKind_24 rfl ?_
  refine e_iloadn (pc := 25) dX6_isOfKind_25 rfl ?_
  refine e_icmp_ne (pc := 26) dX6_isOfKind_26 (t := 31) (by decide) (fun c_1 => ?_) (fun c_1 => ?_)
  rotate_left
  · refine e_iconst (v := 1) (pc := 29) dX6_isOfKind_29 (by decide) ?_
    exact e_zret (pc := 30) dX6_isOfKind_30 rfl (by rfl) (Nat.le_refl _) (Nat.le_refl _) ⟨by subst c_1; rfl, rfl⟩
  have e_1 : ¬ v = 0 := fun q => c_1 q.symm
  refine e_getsKA (pc := 31) dX6_isOfKind_31 sX6_358 ?_
  refine e_iloadn (pc := 34) dX6_isOfKind_34 rfl ?_
  refine e_ialdKA (x := (-1)) (pc := 35) dX6_isOfKind_35 (vi_of (by decide +kernel)) (by decide +kernel) ?_
  refine e_isn2 (pc := 36) dX6_isOfKind_36 (Nat.le_of_ble_eq_true rfl) rfl ?_
  refine e_incC3 (pc := 37) (v := 2) dX6_isOfKind_37 (by decide) (Nat.le_of_ble_eq_true rfl) rfl ?_
  refine e_goto (pc := 40) dX6_isOfKind_40 (t := 4) (by decide) ?_
  refine e_iloadn (pc := 4) dX6_isOfKind_4 rfl ?_
  refine e_getsKA (pc := 5) dX6_isOfKind_5 sX6_358 ?_
  refine e_alenKA (pc := 8) dX6_isOfKind_8 ?_
  refine e_icmp_ge (pc := 9) dX6_isOfKind_9 (t := 43) (by decide) (fun c => absurd c (by decide)) (fun _ => ?_)
  refine e_iloadn (pc := 12) dX6_isOfKind_12 rfl ?_
  refine e_if_lt (pc := 13) dX6_isOfKind_13 (t := 43) (by decide) (fun _ => ?_) (fun c => absurd (by decide) c)
  refine e_iconst (v := 0) (pc := 43) dX6_isOfKind_43 (by decide) ?_
  exact e_zret (pc := 44) dX6_isOfKind_44 rfl (by rfl) (Nat.le_refl _) (Nat.le_refl _) ⟨by rw [show yy_un 2 v = false by simp_all [yy_un]]; rfl, rfl⟩
theorem sp_ok3 {w : mc_W} {v : Int32} : mc_D yX6_isOfKind cX6_isOfKind 4 (some .boolean) 1 [.int 3, .int v] w (some (.int (mc_b (yy_un 3 v)))) w := by
  refine mc_start (own := RX6) (ini := false) rfl (by decide +kernel) (fun h => by cases h) (Nat.le_of_ble_eq_true rfl) ?_
  show mc_E _ _ _ _ _ [some (.int 3), some (.int v), none, none] [] _ _ _
  refine e_iloadn (pc := 0) dX6_isOfKind_0 rfl ?_
  refine e_isn2 (pc := 1) dX6_isOfKind_1 (Nat.le_of_ble_eq_true rfl) rfl ?_
  refine e_iconst (v := 0) (pc := 2) dX6_isOfKind_2 (by decide) ?_
  refine e_isn3 (pc := 3) dX6_isOfKind_3 (Nat.le_of_ble_eq_true rfl) rfl ?_
  refine e_iloadn (pc := 4) dX6_isOfKind_4 rfl ?_
  refine e_getsKA (pc := 5) dX6_isOfKind_5 sX6_358 ?_
  refine e_alenKA (pc := 8) dX6_isOfKind_8 ?_
  refine e_icmp_ge (pc := 9) dX6_isOfKind_9 (t := 43) (by decide) (fun c => absurd c (by decide)) (fun _ => ?_)
  refine e_iloadn (pc := 12) dX6_isOfKind_12 rfl ?_
  refine e_if_lt (pc := 13) dX6_isOfKind_13 (t := 43) (by decide) (fun c => absurd c (by decide)) (fun _ => ?_)
  refine e_iloadn (pc := 16) dX6_isOfKind_16 rfl ?_
  refine e_getsKA (pc := 17) dX6_isOfKind_17 sX6_358 ?_
  refine e_alenKA (pc := 20) dX6_isOfKind_20 ?_
  refine e_icmp_ge (pc := 21) dX6_isOfKind_21 (t := 43) (by decide) (fun c => absurd c (by decide)) (fun _ => ?_)
  refine e_iloadn (pc := 24) dX6_isOfKind_24 rfl ?_
  refine e_iloadn (pc := 25) dX6_isOfKind_25 rfl ?_
  refine e_icmp_ne (pc := 26) dX6_isOfKind_26 (t := 31) (by decide) (fun c_0 => ?_) (fun c_0 => ?_)
  rotate_left
  · refine e_iconst (v := 1) (pc := 29) dX6_isOfKind_29 (by decide) ?_
    exact e_zret (pc := 30) dX6_isOfKind_30 rfl (by rfl) (Nat.le_refl _) (Nat.le_refl _) ⟨by subst c_0; rfl, rfl⟩
  have e_0 : ¬ v = 3 := fun q => c_0 q.symm
  refine e_getsKA (pc := 31) dX6_isOfKind_31 sX6_358 ?_
  refine e_iloadn (pc := 34) dX6_isOfKind_34 rfl ?_
  refine e_ialdKA (x := 1) (pc := 35) dX6_isOfKind_35 (vi_of (by decide +kernel)) (by decide +kernel) ?_
  refine e_isn2 (pc := 36) dX6_isOfKind_36 (Nat.le_of_ble_eq_true rfl) rfl ?_
  refine e_incC3 (pc := 37) (v := 1) dX6_isOfKind_37 (by decide) (Nat.le_of_ble_eq_true rfl) rfl ?_
  refine e_goto (pc := 40) dX6_isOfKind_40 (t := 4) (by decide) ?_
  refine e_iloadn (pc := 4) dX6_isOfKind_4 rfl ?_
  refine e_getsKA (pc := 5) dX6_isOfKind_5 sX6_358 ?_
  refine e_alenKA (pc := 8) dX6_isOfKind_8 ?_
  refine e_icmp_ge (pc := 9) dX6_isOfKind_9 (t := 43) (by decide) (fun c => absurd c (by decide)) (fun _ => ?_)
  refine e_iloadn (pc := 12) dX6_isOfKind_12 rfl ?_
  refine e_if_lt (pc := 13) dX6_isOfKind_13 (t := 43) (by decide) (fun c => absurd c (by decide)) (fun _ => ?_)
  refine e_iloadn (pc := 16) dX6_isOfKind_16 rfl ?_
  refine e_getsKA (pc := 17) dX6_isOfKind_17 sX6_358 ?_
  refine e_alenKA (pc := 20) dX6_isOfKind_20 ?_
  refine e_icmp_ge (pc := 21) dX6_isOfKind_21 (t := 43) (by decide) (fun c => absurd c (by decide)) (fun _ => ?_)
  refine e_iloadn (pc := 24) dX6_isOfKind_24 rfl ?_
  refine e_iloadn (pc := 25) dX6_isOfKind_25 rfl ?_
  refine e_icmp_ne (pc := 26) dX6_isOfKind_26 (t := 31) (by decide) (fun c_1 => ?_) (fun c_1 => ?_)
  rotate_left
  · refine e_iconst (v := 1) (pc := 29) dX6_isOfKind_29 (by decide) ?_
    exact e_zret (pc := 30) dX6_isOfKind_30 rfl (by rfl) (Nat.le_refl _) (Nat.le_refl _) ⟨by subst c_1; rfl, rfl⟩
  have e_1 : ¬ v = 1 := fun q => c_1 q.symm
  refine e_getsKA (pc := 31) dX6_isOfKind_31 sX6_358 ?_
  refine e_iloadn (pc := 34) dX6_isOfKind_34 rfl ?_
  refine e_ialdKA (x := 0) (pc := 35) dX6_isOfKind_35 (vi_of (by decide +kernel)) (by decide +kernel) ?_
  refine e_isn2 (pc := 36) dX6_isOfKind_36 (Nat.le_of_ble_eq_true rfl) rfl ?_
  refine e_incC3 (pc := 37) (v := 2) dX6_isOfKind_37 (by decide) (Nat.le_of_ble_eq_true rfl) rfl ?_
  refine e_goto (pc := 40) dX6_isOfKind_40 (t := 4) (by decide) ?_
  refine e_iloadn (pc := 4) dX6_isOfKind_4 rfl ?_
  refine e_getsKA (pc := 5) dX6_isOfKind_5 sX6_358 ?_
  refine e_alenKA (pc := 8) dX6_isOfKind_8 ?_
  refine e_icmp_ge (pc := 9) dX6_isOfKind_9 (t := 43) (by decide) (fun c => absurd c (by decide)) (fun _ => ?_)
  refine e_iloadn (pc := 12) dX6_isOfKind_12 rfl ?_
  refine e_if_lt (pc := 13) dX6_isOfKind_13 (t := 43) (by decide) (fun c => absurd c (by decide)) (fun _ => ?_)
  refine e_iloadn (pc := 16) dX6_isOfKind_16 rfl ?_
  refine e_getsKA (pc := 17) dX6_isOfKind_17 sX6_358 ?_
  refine e_alenKA (pc := 20) dX6_isOfKind_20 ?_
  refine e_icmp_ge (pc := 21) dX6_isOfKind_21 (t := 43) (by decide) (fun c => absurd c (by decide)) (fun _ => ?_)
  refine e_iloadn (pc := 24) dX6_isOfKind_24 rfl ?_
  refine e_iloadn (pc := 25) dX6_isOfKind_25 rfl ?_
  refine e_icmp_ne (pc := 26) dX6_isOfKind_26 (t := 31) (by decide) (fun c_2 => ?_) (fun c_2 => ?_)
  rotate_left
  · refine e_iconst (v := 1) (pc := 29) dX6_isOfKind_29 (by decide) ?_
    exact e_zret (pc := 30) dX6_isOfKind_30 rfl (by rfl) (Nat.le_refl _) (Nat.le_refl _) ⟨by subst c_2; rfl, rfl⟩
  have e_2 : ¬ v = 0 := fun q => c_2 q.symm
  refine e_getsKA (pc := 31) dX6_isOfKind_31 sX6_358 ?_
  refine e_iloadn (pc := 34) dX6_isOfKind_34 rfl ?_
  refine e_ialdKA (x := (-1)) (pc := 35) dX6_isOfKind_35 (vi_of (by decide +kernel)) (by decide +kernel) ?_
  refine e_isn2 (pc := 36) dX6_isOfKind_36 (Nat.le_of_ble_eq_true rfl) rfl ?_
  refine e_incC3 (pc := 37) (v := 3) dX6_isOfKind_37 (by decide) (Nat.le_of_ble_eq_true rfl) rfl ?_
  refine e_goto (pc := 40) dX6_isOfKind_40 (t := 4) (by decide) ?_
  refine e_iloadn (pc := 4) dX6_isOfKind_4 rfl ?_
  refine e_getsKA (pc := 5) dX6_isOfKind_5 sX6_358 ?_
  refine e_alenKA (pc := 8) dX6_isOfKind_8 ?_
  refine e_icmp_ge (pc := 9) dX6_isOfKind_9 (t := 43) (by decide) (fun c => absurd c (by decide)) (fun _ => ?_)
  refine e_iloadn (pc := 12) dX6_isOfKind_12 rfl ?_
  refine e_if_lt (pc := 13) dX6_isOfKind_13 (t := 43) (by decide) (fun _ => ?_) (fun c => absurd (by decide) c)
  refine e_iconst (v := 0) (pc := 43) dX6_isOfKind_43 (by decide) ?_
  exact e_zret (pc := 44) dX6_isOfKind_44 rfl (by rfl) (Nat.le_refl _) (Nat.le_refl _) ⟨by rw [show yy_un 3 v = false by simp_all [yy_un]]; rfl, rfl⟩
theorem sp_ok4 {w : mc_W} {v : Int32} : mc_D yX6_isOfKind cX6_isOfKind 4 (some .boolean) 1 [.int 4, .int v] w (some (.int (mc_b (yy_un 4 v)))) w := by
  refine mc_start (own := RX6) (ini := false) rfl (by decide +kernel) (fun h => by cases h) (Nat.le_of_ble_eq_true rfl) ?_
  show mc_E _ _ _ _ _ [some (.int 4), some (.int v), none, none] [] _ _ _
  refine e_iloadn (pc := 0) dX6_isOfKind_0 rfl ?_
  refine e_isn2 (pc := 1) dX6_isOfKind_1 (Nat.le_of_ble_eq_true rfl) rfl ?_
  refine e_iconst (v := 0) (pc := 2) dX6_isOfKind_2 (by decide) ?_
  refine e_isn3 (pc := 3) dX6_isOfKind_3 (Nat.le_of_ble_eq_true rfl) rfl ?_
  refine e_iloadn (pc := 4) dX6_isOfKind_4 rfl ?_
  refine e_getsKA (pc := 5) dX6_isOfKind_5 sX6_358 ?_
  refine e_alenKA (pc := 8) dX6_isOfKind_8 ?_
  refine e_icmp_ge (pc := 9) dX6_isOfKind_9 (t := 43) (by decide) (fun c => absurd c (by decide)) (fun _ => ?_)
  refine e_iloadn (pc := 12) dX6_isOfKind_12 rfl ?_
  refine e_if_lt (pc := 13) dX6_isOfKind_13 (t := 43) (by decide) (fun c => absurd c (by decide)) (fun _ => ?_)
  refine e_iloadn (pc := 16) dX6_isOfKind_16 rfl ?_
  refine e_getsKA (pc := 17) dX6_isOfKind_17 sX6_358 ?_
  refine e_alenKA (pc := 20) dX6_isOfKind_20 ?_
  refine e_icmp_ge (pc := 21) dX6_isOfKind_21 (t := 43) (by decide) (fun c => absurd c (by decide)) (fun _ => ?_)
  refine e_iloadn (pc := 24) dX6_isOfKind_24 rfl ?_
  refine e_iloadn (pc := 25) dX6_isOfKind_25 rfl ?_
  refine e_icmp_ne (pc := 26) dX6_isOfKind_26 (t := 31) (by decide) (fun c_0 => ?_) (fun c_0 => ?_)
  rotate_left
  · refine e_iconst (v := 1) (pc := 29) dX6_isOfKind_29 (by decide) ?_
    exact e_zret (pc := 30) dX6_isOfKind_30 rfl (by rfl) (Nat.le_refl _) (Nat.le_refl _) ⟨by subst c_0; rfl, rfl⟩
  have e_0 : ¬ v = 4 := fun q => c_0 q.symm
  refine e_getsKA (pc := 31) dX6_isOfKind_31 sX6_358 ?_
  refine e_iloadn (pc := 34) dX6_isOfKind_34 rfl ?_
  refine e_ialdKA (x := 2) (pc := 35) dX6_isOfKind_35 (vi_of (by decide +kernel)) (by decide +kernel) ?_
  refine e_isn2 (pc := 36) dX6_isOfKind_36 (Nat.le_of_ble_eq_true rfl) rfl ?_
  refine e_incC3 (pc := 37) (v := 1) dX6_isOfKind_37 (by decide) (Nat.le_of_ble_eq_true rfl) rfl ?_
  refine e_goto (pc := 40) dX6_isOfKind_40 (t := 4) (by decide) ?_
  refine e_iloadn (pc := 4) dX6_isOfKind_4 rfl ?_
  refine e_getsKA (pc := 5) dX6_isOfKind_5 sX6_358 ?_
  refine e_alenKA (pc := 8) dX6_isOfKind_8 ?_
  refine e_icmp_ge (pc := 9) dX6_isOfKind_9 (t := 43) (by decide) (fun c => absurd c (by decide)) (fun _ => ?_)
  refine e_iloadn (pc := 12) dX6_isOfKind_12 rfl ?_
  refine e_if_lt (pc := 13) dX6_isOfKind_13 (t := 43) (by decide) (fun c => absurd c (by decide)) (fun _ => ?_)
  refine e_iloadn (pc := 16) dX6_isOfKind_16 rfl ?_
  refine e_getsKA (pc := 17) dX6_isOfKind_17 sX6_358 ?_
  refine e_alenKA (pc := 20) dX6_isOfKind_20 ?_
  refine e_icmp_ge (pc := 21) dX6_isOfKind_21 (t := 43) (by decide) (fun c => absurd c (by decide)) (fun _ => ?_)
  refine e_iloadn (pc := 24) dX6_isOfKind_24 rfl ?_
  refine e_iloadn (pc := 25) dX6_isOfKind_25 rfl ?_
  refine e_icmp_ne (pc := 26) dX6_isOfKind_26 (t := 31) (by decide) (fun c_1 => ?_) (fun c_1 => ?_)
  rotate_left
  · refine e_iconst (v := 1) (pc := 29) dX6_isOfKind_29 (by decide) ?_
    exact e_zret (pc := 30) dX6_isOfKind_30 rfl (by rfl) (Nat.le_refl _) (Nat.le_refl _) ⟨by subst c_1; rfl, rfl⟩
  have e_1 : ¬ v = 2 := fun q => c_1 q.symm
  refine e_getsKA (pc := 31) dX6_isOfKind_31 sX6_358 ?_
  refine e_iloadn (pc := 34) dX6_isOfKind_34 rfl ?_
  refine e_ialdKA (x := 0) (pc := 35) dX6_isOfKind_35 (vi_of (by decide +kernel)) (by decide +kernel) ?_
  refine e_isn2 (pc := 36) dX6_isOfKind_36 (Nat.le_of_ble_eq_true rfl) rfl ?_
  refine e_incC3 (pc := 37) (v := 2) dX6_isOfKind_37 (by decide) (Nat.le_of_ble_eq_true rfl) rfl ?_
  refine e_goto (pc := 40) dX6_isOfKind_40 (t := 4) (by decide) ?_
  refine e_iloadn (pc := 4) dX6_isOfKind_4 rfl ?_
  refine e_getsKA (pc := 5) dX6_isOfKind_5 sX6_358 ?_
  refine e_alenKA (pc := 8) dX6_isOfKind_8 ?_
  refine e_icmp_ge (pc := 9) dX6_isOfKind_9 (t := 43) (by decide) (fun c => absurd c (by decide)) (fun _ => ?_)
  refine e_iloadn (pc := 12) dX6_isOfKind_12 rfl ?_
  refine e_if_lt (pc := 13) dX6_isOfKind_13 (t := 43) (by decide) (fun c => absurd c (by decide)) (fun _ => ?_)
  refine e_iloadn (pc := 16) dX6_isOfKind_16 rfl ?_
  refine e_getsKA (pc := 17) dX6_isOfKind_17 sX6_358 ?_
  refine e_alenKA (pc := 20) dX6_isOfKind_20 ?_
  refine e_icmp_ge (pc := 21) dX6_isOfKind_21 (t := 43) (by decide) (fun c => absurd c (by decide)) (fun _ => ?_)
  refine e_iloadn (pc := 24) dX6_isOfKind_24 rfl ?_
  refine e_iloadn (pc := 25) dX6_isOfKind_25 rfl ?_
  refine e_icmp_ne (pc := 26) dX6_isOfKind_26 (t := 31) (by decide) (fun c_2 => ?_) (fun c_2 => ?_)
  rotate_left
  · refine e_iconst (v := 1) (pc := 29) dX6_isOfKind_29 (by decide) ?_
    exact e_zret (pc := 30) dX6_isOfKind_30 rfl (by rfl) (Nat.le_refl _) (Nat.le_refl _) ⟨by subst c_2; rfl, rfl⟩
  have e_2 : ¬ v = 0 := fun q => c_2 q.symm
  refine e_getsKA (pc := 31) dX6_isOfKind_31 sX6_358 ?_
  refine e_iloadn (pc := 34) dX6_isOfKind_34 rfl ?_
  refine e_ialdKA (x := (-1)) (pc := 35) dX6_isOfKind_35 (vi_of (by decide +kernel)) (by decide +kernel) ?_
  refine e_isn2 (pc := 36) dX6_isOfKind_36 (Nat.le_of_ble_eq_true rfl) rfl ?_
  refine e_incC3 (pc := 37) (v := 3) dX6_isOfKind_37 (by decide) (Nat.le_of_ble_eq_true rfl) rfl ?_
  refine e_goto (pc := 40) dX6_isOfKind_40 (t := 4) (by decide) ?_
  refine e_iloadn (pc := 4) dX6_isOfKind_4 rfl ?_
  refine e_getsKA (pc := 5) dX6_isOfKind_5 sX6_358 ?_
  refine e_alenKA (pc := 8) dX6_isOfKind_8 ?_
  refine e_icmp_ge (pc := 9) dX6_isOfKind_9 (t := 43) (by decide) (fun c => absurd c (by decide)) (fun _ => ?_)
  refine e_iloadn (pc := 12) dX6_isOfKind_12 rfl ?_
  refine e_if_lt (pc := 13) dX6_isOfKind_13 (t := 43) (by decide) (fun _ => ?_) (fun c => absurd (by decide) c)
  refine e_iconst (v := 0) (pc := 43) dX6_isOfKind_43 (by decide) ?_
  exact e_zret (pc := 44) dX6_isOfKind_44 rfl (by rfl) (Nat.le_refl _) (Nat.le_refl _) ⟨by rw [show yy_un 4 v = false by simp_all [yy_un]]; rfl, rfl⟩
theorem sp_ok5 {w : mc_W} {v : Int32} : mc_D yX6_isOfKind cX6_isOfKind 4 (some .boolean) 1 [.int 5, .int v] w (some (.int (mc_b (yy_un 5 v)))) w := by
  refine mc_start (own := RX6) (ini := false) rfl (by decide +kernel) (fun h => by cases h) (Nat.le_of_ble_eq_true rfl) ?_
  show mc_E _ _ _ _ _ [some (.int 5), some (.int v), none, none] [] _ _ _
  refine e_iloadn (pc := 0) dX6_isOfKind_0 rfl ?_
  refine e_isn2 (pc := 1) dX6_isOfKind_1 (Nat.le_of_ble_eq_true rfl) rfl ?_
  refine e_iconst (v := 0) (pc := 2) dX6_isOfKind_2 (by decide) ?_
  refine e_isn3 (pc := 3) dX6_isOfKind_3 (Nat.le_of_ble_eq_true rfl) rfl ?_
  refine e_iloadn (pc := 4) dX6_isOfKind_4 rfl ?_
  refine e_getsKA (pc := 5) dX6_isOfKind_5 sX6_358 ?_
  refine e_alenKA (pc := 8) dX6_isOfKind_8 ?_
  refine e_icmp_ge (pc := 9) dX6_isOfKind_9 (t := 43) (by decide) (fun c => absurd c (by decide)) (fun _ => ?_)
  refine e_iloadn (pc := 12) dX6_isOfKind_12 rfl ?_
  refine e_if_lt (pc := 13) dX6_isOfKind_13 (t := 43) (by decide) (fun c => absurd c (by decide)) (fun _ => ?_)
  refine e_iloadn (pc := 16) dX6_isOfKind_16 rfl ?_
  refine e_getsKA (pc := 17) dX6_isOfKind_17 sX6_358 ?_
  refine e_alenKA (pc := 20) dX6_isOfKind_20 ?_
  refine e_icmp_ge (pc := 21) dX6_isOfKind_21 (t := 43) (by decide) (fun c => absurd c (by decide)) (fun _ => ?_)
  refine e_iloadn (pc := 24) dX6_isOfKind_24 rfl ?_
  refine e_iloadn (pc := 25) dX6_isOfKind_25 rfl ?_
  refine e_icmp_ne (pc := 26) dX6_isOfKind_26 (t := 31) (by decide) (fun c_0 => ?_) (fun c_0 => ?_)
  rotate_left
  · refine e_iconst (v := 1) (pc := 29) dX6_isOfKind_29 (by decide) ?_
    exact e_zret (pc := 30) dX6_isOfKind_30 rfl (by rfl) (Nat.le_refl _) (Nat.le_refl _) ⟨by subst c_0; rfl, rfl⟩
  have e_0 : ¬ v = 5 := fun q => c_0 q.symm
  refine e_getsKA (pc := 31) dX6_isOfKind_31 sX6_358 ?_
  refine e_iloadn (pc := 34) dX6_isOfKind_34 rfl ?_
  refine e_ialdKA (x := 0) (pc := 35) dX6_isOfKind_35 (vi_of (by decide +kernel)) (by decide +kernel) ?_
  refine e_isn2 (pc := 36) dX6_isOfKind_36 (Nat.le_of_ble_eq_true rfl) rfl ?_
  refine e_incC3 (pc := 37) (v := 1) dX6_isOfKind_37 (by decide) (Nat.le_of_ble_eq_true rfl) rfl ?_
  refine e_goto (pc := 40) dX6_isOfKind_40 (t := 4) (by decide) ?_
  refine e_iloadn (pc := 4) dX6_isOfKind_4 rfl ?_
  refine e_getsKA (pc := 5) dX6_isOfKind_5 sX6_358 ?_
  refine e_alenKA (pc := 8) dX6_isOfKind_8 ?_
  refine e_icmp_ge (pc := 9) dX6_isOfKind_9 (t := 43) (by decide) (fun c => absurd c (by decide)) (fun _ => ?_)
  refine e_iloadn (pc := 12) dX6_isOfKind_12 rfl ?_
  refine e_if_lt (pc := 13) dX6_isOfKind_13 (t := 43) (by decide) (fun c => absurd c (by decide)) (fun _ => ?_)
  refine e_iloadn (pc := 16) dX6_isOfKind_16 rfl ?_
  refine e_getsKA (pc := 17) dX6_isOfKind_17 sX6_358 ?_
  refine e_alenKA (pc := 20) dX6_isOfKind_20 ?_
  refine e_icmp_ge (pc := 21) dX6_isOfKind_21 (t := 43) (by decide) (fun c => absurd c (by decide)) (fun _ => ?_)
  refine e_iloadn (pc := 24) dX6_isOfKind_24 rfl ?_
  refine e_iloadn (pc := 25) dX6_isOfKind_25 rfl ?_
  refine e_icmp_ne (pc := 26) dX6_isOfKind_26 (t := 31) (by decide) (fun c_1 => ?_) (fun c_1 => ?_)
  rotate_left
  · refine e_iconst (v := 1) (pc := 29) dX6_isOfKind_29 (by decide) ?_
    exact e_zret (pc := 30) dX6_isOfKind_30 rfl (by rfl) (Nat.le_refl _) (Nat.le_refl _) ⟨by subst c_1; rfl, rfl⟩
  have e_1 : ¬ v = 0 := fun q => c_1 q.symm
  refine e_getsKA (pc := 31) dX6_isOfKind_31 sX6_358 ?_
  refine e_iloadn (pc := 34) dX6_isOfKind_34 rfl ?_
  refine e_ialdKA (x := (-1)) (pc := 35) dX6_isOfKind_35 (vi_of (by decide +kernel)) (by decide +kernel) ?_
  refine e_isn2 (pc := 36) dX6_isOfKind_36 (Nat.le_of_ble_eq_true rfl) rfl ?_
  refine e_incC3 (pc := 37) (v := 2) dX6_isOfKind_37 (by decide) (Nat.le_of_ble_eq_true rfl) rfl ?_
  refine e_goto (pc := 40) dX6_isOfKind_40 (t := 4) (by decide) ?_
  refine e_iloadn (pc := 4) dX6_isOfKind_4 rfl ?_
  refine e_getsKA (pc := 5) dX6_isOfKind_5 sX6_358 ?_
  refine e_alenKA (pc := 8) dX6_isOfKind_8 ?_
  refine e_icmp_ge (pc := 9) dX6_isOfKind_9 (t := 43) (by decide) (fun c => absurd c (by decide)) (fun _ => ?_)
  refine e_iloadn (pc := 12) dX6_isOfKind_12 rfl ?_
  refine e_if_lt (pc := 13) dX6_isOfKind_13 (t := 43) (by decide) (fun _ => ?_) (fun c => absurd (by decide) c)
  refine e_iconst (v := 0) (pc := 43) dX6_isOfKind_43 (by decide) ?_
  exact e_zret (pc := 44) dX6_isOfKind_44 rfl (by rfl) (Nat.le_refl _) (Nat.le_refl _) ⟨by rw [show yy_un 5 v = false by simp_all [yy_un]]; rfl, rfl⟩
theorem sp_isOfKind {w : mc_W} {K v : Int32} (h0 : 0 ≤ K.toInt) (h5 : K.toInt ≤ 5) : mc_D yX6_isOfKind cX6_isOfKind 4 (some .boolean) 1 [.int K, .int v] w (some (.int (mc_b (yy_un K v)))) w := by
  rcases kd_cases h0 h5 with rfl | rfl | rfl | rfl | rfl | rfl
  · exact sp_ok0
  · exact sp_ok1
  · exact sp_ok2
  · exact sp_ok3
  · exact sp_ok4
  · exact sp_ok5
theorem sp_x_clerk {s u m n : Nat → Int32} {a c b d : Nat → List Int32} {q : List (Option Nat)} {h : Nat} {z : mc_W} {k mo : Int32} (hL : xL a) (hC : yC s) : mc_D yX6_clerk cX6_clerk 4 (some .int) 2 [.ref 0, .int k, .int mo] (WW s a q u c h m b n d z) (some (.int (yy_ck1 s k mo))) (WW (yy_ckm s k mo) (yy_ckb s a k mo) q u c h m b n d z) := by
  refine mc_start (own := RX6) (ini := false) rfl (by decide +kernel) (fun h => by cases h) (Nat.le_of_ble_eq_true rfl) ?_
  show mc_E _ _ _ _ _ [some (.ref 0), some (.int k), some (.int mo), none] [] _ _ _
  have hv : s 2 < 5 → ∀ l : List Int32, l.length = 5 → vp_in (s 2) l.length := by
    intro h l hl
    rw [vp_in_iff, hl]
    rw [Int32.lt_iff_toInt_lt, show (5 : Int32).toInt = 5 from rfl] at h
    have := hC.1
    omega
  have h5 : ¬ s 2 < 5 → s 2 = 5 := fun q => by
    rw [Int32.lt_iff_toInt_lt, show (5 : Int32).toInt = 5 from rfl] at q
    have := hC.2
    exact Int32.toInt_inj.mp (by rw [show (5 : Int32).toInt = 5 from rfl]; omega)
  have h6 : s 2 < 5 → ¬ s 2 = 5 := fun q e => by rw [e] at q; exact absurd q (by decide)
  refine e_iloadn (pc := 0) dX6_clerk_0 rfl ?_
  refine e_iconst (v := 0) (pc := 1) dX6_clerk_1 (by decide) ?_
  refine e_iconst (v := 5) (pc := 2) dX6_clerk_2 (by decide) ?_
  refine e_csD (pc := 3) (sp_isWithin) dX6_clerk_3 kX6_86 rfl rfl (mc_CR_of (Nat.le_of_ble_eq_true rfl) (Nat.le_of_ble_eq_true rfl) (Nat.le_refl _) (Nat.le_refl _)) (Nat.le_of_ble_eq_true rfl) ?_
  refine e_if_eq (pc := 6) dX6_clerk_6 (t := 19) (by decide) (fun c_6 => ?_) (fun c_6 => ?_)
  · skip
    refine e_bipush (v := -2) (pc := 19) dX6_clerk_19 (by decide) ?_
    exact e_iret (pc := 21) dX6_clerk_21 rfl (Nat.le_refl _) (Nat.le_refl _) ⟨by first | (simp_all [yy_ck1, yy_ck, mc_b0, mc_b1, Int32.add_sub_cancel]; done) | (simp [yy_ck1, yy_ck, mc_b0.mp (by assumption)]; done), by first | (simp_all [yy_ckm, yy_ckb, yy_ck, mc_b0, mc_b1]; done) | (simp_all [yy_ckm, yy_ckb, yy_ck, mc_b0, mc_b1]; rfl)⟩
  · skip
    refine e_iloadn (pc := 9) dX6_clerk_9 rfl ?_
    refine e_iconst (v := 0) (pc := 10) dX6_clerk_10 (by decide) ?_
    refine e_bipush (v := 9) (pc := 11) dX6_clerk_11 (by decide) ?_
    refine e_csD (pc := 13) (sp_isWithin) dX6_clerk_13 kX6_86 rfl rfl (mc_CR_of (Nat.le_of_ble_eq_true rfl) (Nat.le_of_ble_eq_true rfl) (Nat.le_refl _) (Nat.le_refl _)) (Nat.le_of_ble_eq_true rfl) ?_
    refine e_if_ne (pc := 16) dX6_clerk_16 (t := 22) (by decide) (fun c_16 => ?_) (fun c_16 => ?_)
    · skip
      refine e_aloadn (pc := 22) dX6_clerk_22 rfl ?_
      refine e_get (pc := 23) dX6_clerk_23 fX6_76 rfl rfl ?_
      refine e_iconst (v := 5) (pc := 26) dX6_clerk_26 (by decide) ?_
      refine e_icmp_lt (pc := 27) dX6_clerk_27 (t := 33) (by decide) (fun c_27 => ?_) (fun c_27 => ?_)
      · skip
        refine e_aloadn (pc := 33) dX6_clerk_33 rfl ?_
        refine e_get (pc := 34) dX6_clerk_34 fX6_76 rfl rfl ?_
        refine e_isn3 (pc := 37) dX6_clerk_37 (Nat.le_of_ble_eq_true rfl) rfl ?_
        refine e_aloadn (pc := 38) dX6_clerk_38 rfl ?_
        refine e_get (pc := 39) dX6_clerk_39 fX6_16 rfl rfl ?_
        refine e_iloadn (pc := 42) dX6_clerk_42 rfl ?_
        refine e_iloadn (pc := 43) dX6_clerk_43 rfl ?_
        refine ast_kindOf (pc := 44) dX6_clerk_44 (hv (by assumption) _ hL.1) ?_
        refine e_aloadn (pc := 45) dX6_clerk_45 rfl ?_
        refine e_get (pc := 46) dX6_clerk_46 fX6_20 rfl rfl ?_
        refine e_iloadn (pc := 49) dX6_clerk_49 rfl ?_
        refine e_iloadn (pc := 50) dX6_clerk_50 rfl ?_
        refine ast_moreOf (pc := 51) dX6_clerk_51 (hv (by assumption) _ hL.2.1) ?_
        refine e_aloadn (pc := 52) dX6_clerk_52 rfl ?_
        refine e_dup (pc := 53) dX6_clerk_53 rfl ?_
        refine e_get (pc := 54) dX6_clerk_54 fX6_76 rfl rfl ?_
        refine e_iconst (v := 1) (pc := 57) dX6_clerk_57 (by decide) ?_
        refine e_iadd (pc := 58) dX6_clerk_58 ?_
        refine put_x_clerks (pc := 59) dX6_clerk_59 pX6_76 ?_
        refine e_iloadn (pc := 62) dX6_clerk_62 rfl ?_
        exact e_iret (pc := 63) dX6_clerk_63 rfl (Nat.le_refl _) (Nat.le_refl _) ⟨by first | (simp_all [yy_ck1, yy_ck, mc_b0, mc_b1, Int32.add_sub_cancel]; done) | (simp [yy_ck1, yy_ck, mc_b0.mp (by assumption)]; done), by first | (simp_all [yy_ckm, yy_ckb, yy_ck, mc_b0, mc_b1]; done) | (simp_all [yy_ckm, yy_ckb, yy_ck, mc_b0, mc_b1]; rfl)⟩
      · skip
        refine e_bipush (v := -4) (pc := 30) dX6_clerk_30 (by decide) ?_
        exact e_iret (pc := 32) dX6_clerk_32 rfl (Nat.le_refl _) (Nat.le_refl _) ⟨by first | (simp_all [yy_ck1, yy_ck, mc_b0, mc_b1, Int32.add_sub_cancel]; done) | (simp [yy_ck1, yy_ck, mc_b0.mp (by assumption)]; done), by first | (simp_all [yy_ckm, yy_ckb, yy_ck, mc_b0, mc_b1]; done) | (simp_all [yy_ckm, yy_ckb, yy_ck, mc_b0, mc_b1]; rfl)⟩
    · skip
      refine e_bipush (v := -2) (pc := 19) dX6_clerk_19 (by decide) ?_
      exact e_iret (pc := 21) dX6_clerk_21 rfl (Nat.le_refl _) (Nat.le_refl _) ⟨by first | (simp_all [yy_ck1, yy_ck, mc_b0, mc_b1, Int32.add_sub_cancel]; done) | (simp [yy_ck1, yy_ck, mc_b0.mp (by assumption)]; done), by first | (simp_all [yy_ckm, yy_ckb, yy_ck, mc_b0, mc_b1]; done) | (simp_all [yy_ckm, yy_ckb, yy_ck, mc_b0, mc_b1]; rfl)⟩
theorem vp_ck {k : Int32} {s2 : Int32} {l : List Int32} (hl : l.length = 5) (h : mc_wi k 0 (s2 - 1) = true) (h0 : 0 ≤ s2.toInt) (h5 : s2.toInt ≤ 5) : vp_in k l.length := by
  rw [hl]; exact vp_in_wi h h0 h5 (by decide)
/-- the kinds that there are -/
def xK (s : Nat → Int32) (a : Nat → List Int32) : Prop := ∀ i, i < 5 → 0 ≤ ((a 0).getD i 0).toInt ∧ ((a 0).getD i 0).toInt ≤ 5
def xtk (s : Nat → Int32) (a : Nat → List Int32) (i k : Int32) : Int32 :=
  if mc_wi k 0 6 = false then -2 else if mc_wi i 0 10 = false then -12 else if i < 5 then (if mc_wi i 0 (s 2 - 1) = false then -11 else if yy_un (gt (a 0) i) k = true then i else -13)
  else if xall (a 3) (i - 5) = 0 then -11 else if k = 6 then xall (a 3) (i - 5) else -13
theorem sp_x_taken {s u m n : Nat → Int32} {a c b d : Nat → List Int32} {q : List (Option Nat)} {h : Nat} {z : mc_W} {i k : Int32} (hL : xL a) (hC : yC s) (hK : xK s a) : mc_D yX6_taken cX6_taken 4 (some .int) 5 [.ref 0, .int i, .int k] (WW s a q u c h m b n d z) (some (.int (xtk s a i k))) (WW s a q u c h m b n d z) := by
  refine mc_start (own := RX6) (ini := false) rfl (by decide +kernel) (fun h => by cases h) (Nat.le_of_ble_eq_true rfl) ?_
  show mc_E _ _ _ _ _ [some (.ref 0), some (.int i), some (.int k), none] [] _ _ _
  have hk5 : mc_wi i 0 (s 2 - 1) = true → 0 ≤ (gt (a 0) i).toInt ∧ (gt (a 0) i).toInt ≤ 5 := fun h => by
    have := vp_ck hL.1 h hC.1 hC.2
    exact hK _ (by rw [vp_in_iff, hL.1] at this; have := tnc this.1; omega)
  refine e_iloadn (pc := 0) dX6_taken_0 rfl ?_
  refine e_iconst (v := 0) (pc := 1) dX6_taken_1 (by decide) ?_
  refine e_bipush (v := 6) (pc := 2) dX6_taken_2 (by decide) ?_
  refine e_csD (pc := 4) (sp_isWithin) dX6_taken_4 kX6_86 rfl rfl (mc_CR_of (Nat.le_of_ble_eq_true rfl) (Nat.le_of_ble_eq_true rfl) (Nat.le_refl _) (Nat.le_refl _)) (Nat.le_of_ble_eq_true rfl) ?_
  refine e_if_ne (pc := 7) dX6_taken_7 (t := 13) (by decide) (fun c_7 => ?_) (fun c_7 => ?_)
  · skip
    refine e_iloadn (pc := 13) dX6_taken_13 rfl ?_
    refine e_iconst (v := 0) (pc := 14) dX6_taken_14 (by decide) ?_
    refine e_bipush (v := 10) (pc := 15) dX6_taken_15 (by decide) ?_
    refine e_csD (pc := 17) (sp_isWithin) dX6_taken_17 kX6_86 rfl rfl (mc_CR_of (Nat.le_of_ble_eq_true rfl) (Nat.le_of_ble_eq_true rfl) (Nat.le_refl _) (Nat.le_refl _)) (Nat.le_of_ble_eq_true rfl) ?_
    refine e_if_ne (pc := 20) dX6_taken_20 (t := 26) (by decide) (fun c_20 => ?_) (fun c_20 => ?_)
    · skip
      refine e_iloadn (pc := 26) dX6_taken_26 rfl ?_
      refine e_iconst (v := 5) (pc := 27) dX6_taken_27 (by decide) ?_
      refine e_icmp_lt (pc := 28) dX6_taken_28 (t := 62) (by decide) (fun c_28 => ?_) (fun c_28 => ?_)
      · skip
        refine e_aloadn (pc := 62) dX6_taken_62 rfl ?_
        refine e_iloadn (pc := 63) dX6_taken_63 rfl ?_
        refine e_cvD (pc := 64) (sp_x_isClerk hC) dX6_taken_64 kX6_115 rfl rfl rfl rfl rfl (mc_CR_of (Nat.le_of_ble_eq_true rfl) (Nat.le_of_ble_eq_true rfl) (Nat.le_refl _) (Nat.le_refl _)) (Nat.le_of_ble_eq_true rfl) ?_
        refine e_if_ne (pc := 67) dX6_taken_67 (t := 73) (by decide) (fun c_67 => ?_) (fun c_67 => ?_)
        · skip
          refine e_aloadn (pc := 73) dX6_taken_73 rfl ?_
          refine e_get (pc := 74) dX6_taken_74 fX6_16 rfl rfl ?_
          refine e_iloadn (pc := 77) dX6_taken_77 rfl ?_
          refine ald_kindOf (pc := 78) dX6_taken_78 (vp_ck hL.1 (mc_b1.mp c_67) hC.1 hC.2) ?_
          refine e_iloadn (pc := 79) dX6_taken_79 rfl ?_
          refine e_csD (pc := 80) (sp_isOfKind (hk5 (mc_b1.mp c_67)).1 (hk5 (mc_b1.mp c_67)).2) dX6_taken_80 kX6_351 rfl rfl (mc_CR_of (Nat.le_of_ble_eq_true rfl) (Nat.le_of_ble_eq_true rfl) (Nat.le_refl _) (Nat.le_refl _)) (Nat.le_of_ble_eq_true rfl) ?_
          refine e_if_eq (pc := 83) dX6_taken_83 (t := 90) (by decide) (fun c_83 => ?_) (fun c_83 => ?_)
          · skip
            refine e_bipush (v := -13) (pc := 90) dX6_taken_90 (by decide) ?_
            exact e_iret (pc := 92) dX6_taken_92 rfl (Nat.le_refl _) (Nat.le_refl _) ⟨by simp only [mc_b0, mc_b1, Bool.not_eq_false, Bool.not_eq_true, Int32.not_lt] at *; simp_all [xtk, gt, ← Int32.not_lt], rfl⟩
          · skip
            refine e_iloadn (pc := 86) dX6_taken_86 rfl ?_
            refine e_goto (pc := 87) dX6_taken_87 (t := 92) (by decide) ?_
            exact e_iret (pc := 92) dX6_taken_92 rfl (Nat.le_refl _) (Nat.le_refl _) ⟨by simp only [mc_b0, mc_b1, Bool.not_eq_false, Bool.not_eq_true, Int32.not_lt] at *; simp_all [xtk, gt, ← Int32.not_lt], rfl⟩
        · skip
          refine e_bipush (v := -11) (pc := 70) dX6_taken_70 (by decide) ?_
          exact e_iret (pc := 72) dX6_taken_72 rfl (Nat.le_refl _) (Nat.le_refl _) ⟨by simp only [mc_b0, mc_b1, Bool.not_eq_false, Bool.not_eq_true, Int32.not_lt] at *; simp_all [xtk, gt, ← Int32.not_lt], rfl⟩
      · skip
        refine e_aloadn (pc := 31) dX6_taken_31 rfl ?_
        refine e_get (pc := 32) dX6_taken_32 fX6_55 rfl rfl ?_
        refine e_iloadn (pc := 35) dX6_taken_35 rfl ?_
        refine e_iconst (v := 5) (pc := 36) dX6_taken_36 (by decide) ?_
        refine e_isub (pc := 37) dX6_taken_37 ?_
        refine e_cvD (pc := 38) (sp_x_allOf hL.2.2.2.1) dX6_taken_38 kX6_348 rfl rfl rfl rfl rfl (mc_CR_of (Nat.le_of_ble_eq_true rfl) (Nat.le_of_ble_eq_true rfl) (Nat.le_refl _) (Nat.le_refl _)) (Nat.le_of_ble_eq_true rfl) ?_
        refine e_isn3 (pc := 41) dX6_taken_41 (Nat.le_of_ble_eq_true rfl) rfl ?_
        refine e_iloadn (pc := 42) dX6_taken_42 rfl ?_
        refine e_if_ne (pc := 43) dX6_taken_43 (t := 49) (by decide) (fun c_43 => ?_) (fun c_43 => ?_)
        · skip
          refine e_iloadn (pc := 49) dX6_taken_49 rfl ?_
          refine e_bipush (v := 6) (pc := 50) dX6_taken_50 (by decide) ?_
          refine e_icmp_ne (pc := 52) dX6_taken_52 (t := 59) (by decide) (fun c_52 => ?_) (fun c_52 => ?_)
          · skip
            refine e_bipush (v := -13) (pc := 59) dX6_taken_59 (by decide) ?_
            exact e_iret (pc := 61) dX6_taken_61 rfl (Nat.le_refl _) (Nat.le_refl _) ⟨by simp only [mc_b0, mc_b1, Bool.not_eq_false, Bool.not_eq_true, Int32.not_lt] at *; simp_all [xtk, gt, ← Int32.not_lt], rfl⟩
          · skip
            refine e_iloadn (pc := 55) dX6_taken_55 rfl ?_
            refine e_goto (pc := 56) dX6_taken_56 (t := 61) (by decide) ?_
            exact e_iret (pc := 61) dX6_taken_61 rfl (Nat.le_refl _) (Nat.le_refl _) ⟨by simp only [mc_b0, mc_b1, Bool.not_eq_false, Bool.not_eq_true, Int32.not_lt] at *; simp_all [xtk, gt, ← Int32.not_lt], rfl⟩
        · skip
          refine e_bipush (v := -11) (pc := 46) dX6_taken_46 (by decide) ?_
          exact e_iret (pc := 48) dX6_taken_48 rfl (Nat.le_refl _) (Nat.le_refl _) ⟨by simp only [mc_b0, mc_b1, Bool.not_eq_false, Bool.not_eq_true, Int32.not_lt] at *; simp_all [xtk, gt, ← Int32.not_lt], rfl⟩
    · skip
      refine e_bipush (v := -12) (pc := 23) dX6_taken_23 (by decide) ?_
      exact e_iret (pc := 25) dX6_taken_25 rfl (Nat.le_refl _) (Nat.le_refl _) ⟨by simp only [mc_b0, mc_b1, Bool.not_eq_false, Bool.not_eq_true, Int32.not_lt] at *; simp_all [xtk, gt, ← Int32.not_lt], rfl⟩
  · skip
    refine e_bipush (v := -2) (pc := 10) dX6_taken_10 (by decide) ?_
    exact e_iret (pc := 12) dX6_taken_12 rfl (Nat.le_refl _) (Nat.le_refl _) ⟨by simp only [mc_b0, mc_b1, Bool.not_eq_false, Bool.not_eq_true, Int32.not_lt] at *; simp_all [xtk, gt, ← Int32.not_lt], rfl⟩
theorem mc_cpy_all {xs ys : List Int32} {n : Nat} (hx : xs.length = n) (hy : ys.length = n) : mc_cpy xs ys 0 0 n = xs := by
  apply List.ext_getElem?
  intro j
  unfold mc_cpy
  rw [List.getElem?_map]
  by_cases hj : j < n
  · rw [List.getElem?_range (by omega)]
    show some (if 0 ≤ j ∧ j < 0 + n then xs.getD (0 + (j - 0)) 0 else ys.getD j 0) = _
    rw [if_pos (by omega), show 0 + (j - 0) = j by omega, List.getD_eq_getElem?_getD, List.getElem?_eq_getElem (by omega)]
    rfl
  · rw [List.getElem?_eq_none (by simp; omega), List.getElem?_eq_none (by omega)]
    rfl
theorem sp_x_dkeep {s u m n : Nat → Int32} {a c b d : Nat → List Int32} {q : List (Option Nat)} {h : Nat} {z : mc_W} (hL : xL a) : mc_D yX0_copyTo cX0_copyTo 2 none 2 [.ref 10, .ref 14] (WW s a q u c h m b n d z) none (WW s (mc_up a 4 (a 3)) q u c h m b n d z) := by
  refine mc_start (own := RX0) (ini := false) rfl (by decide +kernel) (fun h => by cases h) (Nat.le_of_ble_eq_true rfl) ?_
  show mc_E _ _ _ _ _ [some (.ref 10), some (.ref 14)] [] _ _ _
  refine e_aloadn (pc := 0) dX0_copyTo_0 rfl ?_
  refine e_get (pc := 1) dX0_copyTo_1 fX0_9 rfl rfl ?_
  refine e_iconst (v := 0) (pc := 4) dX0_copyTo_4 (by decide) ?_
  refine e_aloadn (pc := 5) dX0_copyTo_5 rfl ?_
  refine e_get (pc := 6) dX0_copyTo_6 fX0_9 rfl rfl ?_
  refine e_iconst (v := 0) (pc := 9) dX0_copyTo_9 (by decide) ?_
  refine e_aloadn (pc := 10) dX0_copyTo_10 rfl ?_
  refine e_get (pc := 11) dX0_copyTo_11 fX0_9 rfl rfl ?_
  refine e_alen (pc := 14) dX0_copyTo_14 rfl (show Int32.ofNat (a 3).length = 36 by rw [hL.2.2.2.1]; rfl) ?_
  refine e_w (w2 := (WW s a q u c h m b n d z)) rfl ?_
  refine e_copy (pc := 15) (a0 := 11) (a := 15) (xs := a 3) (ys := a 4) (sp := 0) (dp := 0) (n := 36) dX0_copyTo_15 oX0_56 nat_cpy sta_cpy ini_Sys rfl rfl (by decide) (by decide) (by decide) (by rw [hL.2.2.2.1]; decide) (by rw [hL.2.2.2.2.1]; decide) ⟨Nat.le_of_ble_eq_true rfl, Nat.le_of_ble_eq_true rfl⟩ (Nat.le_of_ble_eq_true rfl) ?_
  exact e_vret (pc := 18) dX0_copyTo_18 rfl (Nat.le_refl _) (Nat.le_refl _) ⟨rfl, by rw [show (0 : Int32).toNatClampNeg = 0 from rfl, show (36 : Int32).toNatClampNeg = 36 from rfl, mc_cpy_all hL.2.2.2.1 hL.2.2.2.2.1]; rfl⟩
theorem sp_x_dback {s u m n : Nat → Int32} {a c b d : Nat → List Int32} {q : List (Option Nat)} {h : Nat} {z : mc_W} (hL : xL a) : mc_D yX0_copyTo cX0_copyTo 2 none 2 [.ref 14, .ref 10] (WW s a q u c h m b n d z) none (WW s (mc_up a 3 (a 4)) q u c h m b n d z) := by
  refine mc_start (own := RX0) (ini := false) rfl (by decide +kernel) (fun h => by cases h) (Nat.le_of_ble_eq_true rfl) ?_
  show mc_E _ _ _ _ _ [some (.ref 14), some (.ref 10)] [] _ _ _
  refine e_aloadn (pc := 0) dX0_copyTo_0 rfl ?_
  refine e_get (pc := 1) dX0_copyTo_1 fX0_9 rfl rfl ?_
  refine e_iconst (v := 0) (pc := 4) dX0_copyTo_4 (by decide) ?_
  refine e_aloadn (pc := 5) dX0_copyTo_5 rfl ?_
  refine e_get (pc := 6) dX0_copyTo_6 fX0_9 rfl rfl ?_
  refine e_iconst (v := 0) (pc := 9) dX0_copyTo_9 (by decide) ?_
  refine e_aloadn (pc := 10) dX0_copyTo_10 rfl ?_
  refine e_get (pc := 11) dX0_copyTo_11 fX0_9 rfl rfl ?_
  refine e_alen (pc := 14) dX0_copyTo_14 rfl (show Int32.ofNat (a 4).length = 36 by rw [hL.2.2.2.2.1]; rfl) ?_
  refine e_w (w2 := (WW s a q u c h m b n d z)) rfl ?_
  refine e_copy (pc := 15) (a0 := 15) (a := 11) (xs := a 4) (ys := a 3) (sp := 0) (dp := 0) (n := 36) dX0_copyTo_15 oX0_56 nat_cpy sta_cpy ini_Sys rfl rfl (by decide) (by decide) (by decide) (by rw [hL.2.2.2.2.1]; decide) (by rw [hL.2.2.2.1]; decide) ⟨Nat.le_of_ble_eq_true rfl, Nat.le_of_ble_eq_true rfl⟩ (Nat.le_of_ble_eq_true rfl) ?_
  exact e_vret (pc := 18) dX0_copyTo_18 rfl (Nat.le_refl _) (Nat.le_refl _) ⟨rfl, by rw [show (0 : Int32).toNatClampNeg = 0 from rfl, show (36 : Int32).toNatClampNeg = 36 from rfl, mc_cpy_all hL.2.2.2.2.1 hL.2.2.2.1]; rfl⟩
def ximm (s : Nat → Int32) : Nat → Int32 := mc_up (mc_up (mc_up (mc_up (mc_up s 6 1) 7 (s 0)) 8 (s 1)) 9 (s 2)) 10 (s 4)
def xbkm (s : Nat → Int32) : Nat → Int32 := if s 6 = 0 then s else mc_up (mc_up (mc_up (mc_up s 0 (s 7)) 1 (s 8)) 2 (s 9)) 4 (s 10)
def xbka (s : Nat → Int32) (a : Nat → List Int32) : Nat → List Int32 := if s 6 = 0 then a else mc_up a 3 (a 4)
theorem sp_x_keep {s u m n : Nat → Int32} {a c b d : Nat → List Int32} {q : List (Option Nat)} {h : Nat} {z : mc_W} {x0 x1 x2 x3 : Int32} (hL : xL a) : mc_D yX2_keep cX2_keep 6 none 3 [.ref 13, .int x0, .int x1, .int x2, .int x3, .ref 10] (WW s a q u c h m b n d z) none (WW (mc_up (mc_up (mc_up (mc_up (mc_up s 6 1) 7 x0) 8 x1) 9 x2) 10 x3) (mc_up a 4 (a 3)) q u c h m b n d z) := by
  refine mc_start (own := RX2) (ini := false) rfl (by decide +kernel) (fun h => by cases h) (Nat.le_of_ble_eq_true rfl) ?_
  show mc_E _ _ _ _ _ [some (.ref 13), some (.int x0), some (.int x1), some (.int x2), some (.int x3), some (.ref 10)] [] _ _ _
  refine e_aloadn (pc := 0) dX2_keep_0 rfl ?_
  refine e_iconst (v := 1) (pc := 1) dX2_keep_1 (by decide) ?_
  refine put_kept_there (pc := 2) dX2_keep_2 pX2_16 rfl ?_
  refine e_aloadn (pc := 5) dX2_keep_5 rfl ?_
  refine e_iloadn (pc := 6) dX2_keep_6 rfl ?_
  refine put_kept_base (pc := 7) dX2_keep_7 pX2_20 ?_
  refine e_aloadn (pc := 10) dX2_keep_10 rfl ?_
  refine e_iloadn (pc := 11) dX2_keep_11 rfl ?_
  refine put_kept_year (pc := 12) dX2_keep_12 pX2_24 ?_
  refine e_aloadn (pc := 15) dX2_keep_15 rfl ?_
  refine e_iloadn (pc := 16) dX2_keep_16 rfl ?_
  refine put_kept_clerks (pc := 17) dX2_keep_17 pX2_27 ?_
  refine e_aloadn (pc := 20) dX2_keep_20 rfl ?_
  refine e_iload (pc := 21) dX2_keep_21 rfl ?_
  refine put_kept_lawNumber (pc := 23) dX2_keep_23 pX2_30 ?_
  refine e_aload (pc := 26) dX2_keep_26 rfl ?_
  refine e_aloadn (pc := 28) dX2_keep_28 rfl ?_
  refine e_get (pc := 29) dX2_keep_29 fX2_10 rfl rfl ?_
  refine e_cvU (pc := 32) (sp_x_dkeep hL) dX2_keep_32 kX2_33 rfl rfl rfl rfl rfl (mc_CR_of (Nat.le_of_ble_eq_true rfl) (Nat.le_of_ble_eq_true rfl) (Nat.le_refl _) (Nat.le_refl _)) (Nat.le_of_ble_eq_true rfl) ?_
  exact e_vret (pc := 35) dX2_keep_35 rfl (Nat.le_refl _) (Nat.le_refl _) ⟨rfl, rfl⟩
theorem sp_x_restore {s u m n : Nat → Int32} {a c b d : Nat → List Int32} {q : List (Option Nat)} {h : Nat} {z : mc_W} (hL : xL a) : mc_D yX2_restore cX2_restore 2 none 3 [.ref 13, .ref 10] (WW s a q u c h m b n d z) none (WW s (mc_up a 3 (a 4)) q u c h m b n d z) := by
  refine mc_start (own := RX2) (ini := false) rfl (by decide +kernel) (fun h => by cases h) (Nat.le_of_ble_eq_true rfl) ?_
  show mc_E _ _ _ _ _ [some (.ref 13), some (.ref 10)] [] _ _ _
  refine e_aloadn (pc := 0) dX2_restore_0 rfl ?_
  refine e_get (pc := 1) dX2_restore_1 fX2_10 rfl rfl ?_
  refine e_aloadn (pc := 4) dX2_restore_4 rfl ?_
  refine e_cvU (pc := 5) (sp_x_dback hL) dX2_restore_5 kX2_33 rfl rfl rfl rfl rfl (mc_CR_of (Nat.le_of_ble_eq_true rfl) (Nat.le_of_ble_eq_true rfl) (Nat.le_refl _) (Nat.le_refl _)) (Nat.le_of_ble_eq_true rfl) ?_
  exact e_vret (pc := 8) dX2_restore_8 rfl (Nat.le_refl _) (Nat.le_refl _) ⟨rfl, rfl⟩
theorem sp_x_kisThere {s u m n : Nat → Int32} {a c b d : Nat → List Int32} {q : List (Option Nat)} {h : Nat} {z : mc_W} (h6 : s 6 = 0 ∨ s 6 = 1) : mc_D yX2_isThere cX2_isThere 1 (some .boolean) 1 [.ref 13] (WW s a q u c h m b n d z) (some (.int (s 6))) (WW s a q u c h m b n d z) := by
  refine mc_start (own := RX2) (ini := false) rfl (by decide +kernel) (fun h => by cases h) (Nat.le_of_ble_eq_true rfl) ?_
  show mc_E _ _ _ _ _ [some (.ref 13)] [] _ _ _
  refine e_aloadn (pc := 0) dX2_isThere_0 rfl ?_
  refine e_get (pc := 1) dX2_isThere_1 fX2_16 rfl rfl ?_
  exact e_zret (pc := 4) dX2_isThere_4 rfl (by rcases h6 with h | h <;> rw [h] <;> rfl) (Nat.le_refl _) (Nat.le_refl _) ⟨rfl, rfl⟩
theorem sp_x_kbase {s u m n : Nat → Int32} {a c b d : Nat → List Int32} {q : List (Option Nat)} {h : Nat} {z : mc_W} : mc_D yX2_base cX2_base 1 (some .int) 1 [.ref 13] (WW s a q u c h m b n d z) (some (.int (s 7))) (WW s a q u c h m b n d z) := by
  refine mc_start (own := RX2) (ini := false) rfl (by decide +kernel) (fun h => by cases h) (Nat.le_of_ble_eq_true rfl) ?_
  show mc_E _ _ _ _ _ [some (.ref 13)] [] _ _ _
  refine e_aloadn (pc := 0) dX2_base_0 rfl ?_
  refine e_get (pc := 1) dX2_base_1 fX2_20 rfl rfl ?_
  exact e_iret (pc := 4) dX2_base_4 rfl (Nat.le_refl _) (Nat.le_refl _) ⟨rfl, rfl⟩
theorem sp_x_kyear {s u m n : Nat → Int32} {a c b d : Nat → List Int32} {q : List (Option Nat)} {h : Nat} {z : mc_W} : mc_D yX2_year cX2_year 1 (some .int) 1 [.ref 13] (WW s a q u c h m b n d z) (some (.int (s 8))) (WW s a q u c h m b n d z) := by
  refine mc_start (own := RX2) (ini := false) rfl (by decide +kernel) (fun h => by cases h) (Nat.le_of_ble_eq_true rfl) ?_
  show mc_E _ _ _ _ _ [some (.ref 13)] [] _ _ _
  refine e_aloadn (pc := 0) dX2_year_0 rfl ?_
  refine e_get (pc := 1) dX2_year_1 fX2_24 rfl rfl ?_
  exact e_iret (pc := 4) dX2_year_4 rfl (Nat.le_refl _) (Nat.le_refl _) ⟨rfl, rfl⟩
theorem sp_x_kclerks {s u m n : Nat → Int32} {a c b d : Nat → List Int32} {q : List (Option Nat)} {h : Nat} {z : mc_W} : mc_D yX2_clerks cX2_clerks 1 (some .int) 1 [.ref 13] (WW s a q u c h m b n d z) (some (.int (s 9))) (WW s a q u c h m b n d z) := by
  refine mc_start (own := RX2) (ini := false) rfl (by decide +kernel) (fun h => by cases h) (Nat.le_of_ble_eq_true rfl) ?_
  show mc_E _ _ _ _ _ [some (.ref 13)] [] _ _ _
  refine e_aloadn (pc := 0) dX2_clerks_0 rfl ?_
  refine e_get (pc := 1) dX2_clerks_1 fX2_27 rfl rfl ?_
  exact e_iret (pc := 4) dX2_clerks_4 rfl (Nat.le_refl _) (Nat.le_refl _) ⟨rfl, rfl⟩
theorem sp_x_klawNumber {s u m n : Nat → Int32} {a c b d : Nat → List Int32} {q : List (Option Nat)} {h : Nat} {z : mc_W} : mc_D yX2_lawNumber cX2_lawNumber 1 (some .int) 1 [.ref 13] (WW s a q u c h m b n d z) (some (.int (s 10))) (WW s a q u c h m b n d z) := by
  refine mc_start (own := RX2) (ini := false) rfl (by decide +kernel) (fun h => by cases h) (Nat.le_of_ble_eq_true rfl) ?_
  show mc_E _ _ _ _ _ [some (.ref 13)] [] _ _ _
  refine e_aloadn (pc := 0) dX2_lawNumber_0 rfl ?_
  refine e_get (pc := 1) dX2_lawNumber_1 fX2_30 rfl rfl ?_
  exact e_iret (pc := 4) dX2_lawNumber_4 rfl (Nat.le_refl _) (Nat.le_refl _) ⟨rfl, rfl⟩
theorem sp_x_image {s u m n : Nat → Int32} {a c b d : Nat → List Int32} {q : List (Option Nat)} {h : Nat} {z : mc_W} (hL : xL a) : mc_D yX6_image cX6_image 1 (some .int) 4 [.ref 0] (WW s a q u c h m b n d z) (some (.int (s 2))) (WW (ximm s) (mc_up a 4 (a 3)) q u c h m b n d z) := by
  refine mc_start (own := RX6) (ini := false) rfl (by decide +kernel) (fun h => by cases h) (Nat.le_of_ble_eq_true rfl) ?_
  show mc_E _ _ _ _ _ [some (.ref 0)] [] _ _ _
  refine e_aloadn (pc := 0) dX6_image_0 rfl ?_
  refine e_get (pc := 1) dX6_image_1 fX6_62 rfl rfl ?_
  refine e_aloadn (pc := 4) dX6_image_4 rfl ?_
  refine e_get (pc := 5) dX6_image_5 fX6_7 rfl rfl ?_
  refine e_aloadn (pc := 8) dX6_image_8 rfl ?_
  refine e_get (pc := 9) dX6_image_9 fX6_13 rfl rfl ?_
  refine e_aloadn (pc := 12) dX6_image_12 rfl ?_
  refine e_get (pc := 13) dX6_image_13 fX6_76 rfl rfl ?_
  refine e_aloadn (pc := 16) dX6_image_16 rfl ?_
  refine e_get (pc := 17) dX6_image_17 fX6_79 rfl rfl ?_
  refine e_aloadn (pc := 20) dX6_image_20 rfl ?_
  refine e_get (pc := 21) dX6_image_21 fX6_55 rfl rfl ?_
  refine e_cvU (pc := 24) (sp_x_keep hL) dX6_image_24 kX6_310 rfl rfl rfl rfl rfl (mc_CR_of (Nat.le_of_ble_eq_true rfl) (Nat.le_of_ble_eq_true rfl) (Nat.le_refl _) (Nat.le_refl _)) (Nat.le_of_ble_eq_true rfl) ?_
  refine e_aloadn (pc := 27) dX6_image_27 rfl ?_
  refine e_get (pc := 28) dX6_image_28 fX6_76 rfl rfl ?_
  exact e_iret (pc := 31) dX6_image_31 rfl (Nat.le_refl _) (Nat.le_refl _) ⟨rfl, rfl⟩
theorem sp_x_back {s u m n : Nat → Int32} {a c b d : Nat → List Int32} {q : List (Option Nat)} {h : Nat} {z : mc_W} (hL : xL a) (h6 : s 6 = 0 ∨ s 6 = 1) : mc_D yX6_back cX6_back 1 (some .int) 4 [.ref 0] (WW s a q u c h m b n d z) (some (.int (if s 6 = 0 then -3 else s 9))) (WW (xbkm s) (xbka s a) q u c h m b n d z) := by
  refine mc_start (own := RX6) (ini := false) rfl (by decide +kernel) (fun h => by cases h) (Nat.le_of_ble_eq_true rfl) ?_
  show mc_E _ _ _ _ _ [some (.ref 0)] [] _ _ _
  refine e_aloadn (pc := 0) dX6_back_0 rfl ?_
  refine e_get (pc := 1) dX6_back_1 fX6_62 rfl rfl ?_
  refine e_cvD (pc := 4) (sp_x_kisThere h6) dX6_back_4 kX6_314 rfl rfl rfl rfl rfl (mc_CR_of (Nat.le_of_ble_eq_true rfl) (Nat.le_of_ble_eq_true rfl) (Nat.le_refl _) (Nat.le_refl _)) (Nat.le_of_ble_eq_true rfl) ?_
  refine e_if_ne (pc := 7) dX6_back_7 (t := 13) (by decide) (fun c_7 => ?_) (fun c_7 => ?_)
  · skip
    refine e_aloadn (pc := 13) dX6_back_13 rfl ?_
    refine e_aloadn (pc := 14) dX6_back_14 rfl ?_
    refine e_get (pc := 15) dX6_back_15 fX6_62 rfl rfl ?_
    refine e_cvD (pc := 18) (sp_x_kbase) dX6_back_18 kX6_317 rfl rfl rfl rfl rfl (mc_CR_of (Nat.le_of_ble_eq_true rfl) (Nat.le_of_ble_eq_true rfl) (Nat.le_refl _) (Nat.le_refl _)) (Nat.le_of_ble_eq_true rfl) ?_
    refine put_x_base (pc := 21) dX6_back_21 pX6_7 ?_
    refine e_aloadn (pc := 24) dX6_back_24 rfl ?_
    refine e_aloadn (pc := 25) dX6_back_25 rfl ?_
    refine e_get (pc := 26) dX6_back_26 fX6_62 rfl rfl ?_
    refine e_cvD (pc := 29) (sp_x_kyear) dX6_back_29 kX6_319 rfl rfl rfl rfl rfl (mc_CR_of (Nat.le_of_ble_eq_true rfl) (Nat.le_of_ble_eq_true rfl) (Nat.le_refl _) (Nat.le_refl _)) (Nat.le_of_ble_eq_true rfl) ?_
    refine put_x_year (pc := 32) dX6_back_32 pX6_13 ?_
    refine e_aloadn (pc := 35) dX6_back_35 rfl ?_
    refine e_aloadn (pc := 36) dX6_back_36 rfl ?_
    refine e_get (pc := 37) dX6_back_37 fX6_62 rfl rfl ?_
    refine e_cvD (pc := 40) (sp_x_kclerks) dX6_back_40 kX6_321 rfl rfl rfl rfl rfl (mc_CR_of (Nat.le_of_ble_eq_true rfl) (Nat.le_of_ble_eq_true rfl) (Nat.le_refl _) (Nat.le_refl _)) (Nat.le_of_ble_eq_true rfl) ?_
    refine put_x_clerks (pc := 43) dX6_back_43 pX6_76 ?_
    refine e_aloadn (pc := 46) dX6_back_46 rfl ?_
    refine e_aloadn (pc := 47) dX6_back_47 rfl ?_
    refine e_get (pc := 48) dX6_back_48 fX6_62 rfl rfl ?_
    refine e_cvD (pc := 51) (sp_x_klawNumber) dX6_back_51 kX6_323 rfl rfl rfl rfl rfl (mc_CR_of (Nat.le_of_ble_eq_true rfl) (Nat.le_of_ble_eq_true rfl) (Nat.le_refl _) (Nat.le_refl _)) (Nat.le_of_ble_eq_true rfl) ?_
    refine put_x_lawNumber (pc := 54) dX6_back_54 pX6_79 ?_
    refine e_aloadn (pc := 57) dX6_back_57 rfl ?_
    refine e_get (pc := 58) dX6_back_58 fX6_62 rfl rfl ?_
    refine e_aloadn (pc := 61) dX6_back_61 rfl ?_
    refine e_get (pc := 62) dX6_back_62 fX6_55 rfl rfl ?_
    refine e_cvU (pc := 65) (sp_x_restore hL) dX6_back_65 kX6_325 rfl rfl rfl rfl rfl (mc_CR_of (Nat.le_of_ble_eq_true rfl) (Nat.le_of_ble_eq_true rfl) (Nat.le_refl _) (Nat.le_refl _)) (Nat.le_of_ble_eq_true rfl) ?_
    refine e_aloadn (pc := 68) dX6_back_68 rfl ?_
    refine e_get (pc := 69) dX6_back_69 fX6_76 rfl rfl ?_
    exact e_iret (pc := 72) dX6_back_72 rfl (Nat.le_refl _) (Nat.le_refl _) ⟨by simp_all [mc_up], by simp_all [xbkm, xbka, mc_up]⟩
  · skip
    refine e_bipush (v := -3) (pc := 10) dX6_back_10 (by decide) ?_
    exact e_iret (pc := 12) dX6_back_12 rfl (Nat.le_refl _) (Nat.le_refl _) ⟨by simp_all [mc_up], by simp_all [xbkm, xbka, mc_up]⟩
def xshs (s : Nat → Int32) (v so N : Int32) : Nat → Int32 := if ysh1 v so N = 1 then xbs s v.toNatClampNeg so (if so = -1 then 0 else N) else s
def xsha (a : Nat → List Int32) (v so N : Int32) : Nat → List Int32 := if ysh1 v so N = 1 then xba a v.toNatClampNeg else a
theorem sp_x_sheet0 {s u m n : Nat → Int32} {a c b d : Nat → List Int32} {q : List (Option Nat)} {h : Nat} {z : mc_W} {v so N : Int32} (hv : mc_wi v 0 3 = false) : mc_D yX6_sheet cX6_sheet 5 (some .int) 4 [.ref 0, .int v, .int so, .int N] (WW s a q u c h m b n d z) (some (.int (ysh1 v so N))) (WW (xshs s v so N) (xsha a v so N) q u c h m b n d z) := by
  refine mc_start (own := RX6) (ini := false) rfl (by decide +kernel) (fun h => by cases h) (Nat.le_of_ble_eq_true rfl) ?_
  show mc_E _ _ _ _ _ [some (.ref 0), some (.int v), some (.int so), some (.int N), none] [] _ _ _
  refine e_iloadn (pc := 0) dX6_sheet_0 rfl ?_
  refine e_csD (pc := 1) (sp_isSheet) dX6_sheet_1 kX6_289 rfl rfl (mc_CR_of (Nat.le_of_ble_eq_true rfl) (Nat.le_of_ble_eq_true rfl) (Nat.le_refl _) (Nat.le_refl _)) (Nat.le_of_ble_eq_true rfl) ?_
  refine e_if_eq (pc := 4) dX6_sheet_4 (t := 16) (by decide) (fun _ => ?_) (fun c_4 => absurd (mc_b0.mpr hv) c_4)
  refine e_bipush (v := -2) (pc := 16) dX6_sheet_16 (by decide) ?_
  exact e_iret (pc := 18) dX6_sheet_18 rfl (Nat.le_refl _) (Nat.le_refl _) ⟨by simp [ysh1, hv], by simp [xshs, xsha, ysh1, hv]⟩
theorem sp_x_sheet1 {s u m n : Nat → Int32} {a c b d : Nat → List Int32} {q : List (Option Nat)} {h : Nat} {z : mc_W} {k : Nat} (hk : k < 4) {so N : Int32} (hL : xL a) : mc_D yX6_sheet cX6_sheet 5 (some .int) 4 [.ref 0, .int (nI k), .int so, .int N] (WW s a q u c h m b n d z) (some (.int (ysh1 (nI k) so N))) (WW (xshs s (nI k) so N) (xsha a (nI k) so N) q u c h m b n d z) := by
  refine mc_start (own := RX6) (ini := false) rfl (by decide +kernel) (fun h => by cases h) (Nat.le_of_ble_eq_true rfl) ?_
  show mc_E _ _ _ _ _ [some (.ref 0), some (.int (nI k)), some (.int so), some (.int N), none] [] _ _ _
  have hv := wi_nk hk
  have hc : (nI k).toNatClampNeg = k := nIc (by omega)
  refine e_iloadn (pc := 0) dX6_sheet_0 rfl ?_
  refine e_csD (pc := 1) (sp_isSheet) dX6_sheet_1 kX6_289 rfl rfl (mc_CR_of (Nat.le_of_ble_eq_true rfl) (Nat.le_of_ble_eq_true rfl) (Nat.le_refl _) (Nat.le_refl _)) (Nat.le_of_ble_eq_true rfl) ?_
  refine e_if_eq (pc := 4) dX6_sheet_4 (t := 16) (by decide) (fun c_4 => absurd c_4 (mc_b1.mpr (wi_nk hk))) (fun _ => ?_)
  refine e_iloadn (pc := 7) dX6_sheet_7 rfl ?_
  refine e_iconst (v := -1) (pc := 8) dX6_sheet_8 (by decide) ?_
  refine e_iconst (v := 2) (pc := 9) dX6_sheet_9 (by decide) ?_
  refine e_csD (pc := 10) (sp_isWithin) dX6_sheet_10 kX6_86 rfl rfl (mc_CR_of (Nat.le_of_ble_eq_true rfl) (Nat.le_of_ble_eq_true rfl) (Nat.le_refl _) (Nat.le_refl _)) (Nat.le_of_ble_eq_true rfl) ?_
  refine e_if_ne (pc := 13) dX6_sheet_13 (t := 19) (by decide) (fun c_13 => ?_) (fun c_13 => ?_)
  · skip
    refine e_aloadn (pc := 19) dX6_sheet_19 rfl ?_
    refine e_iloadn (pc := 20) dX6_sheet_20 rfl ?_
    refine e_cvD (pc := 21) (sp_x_sheetAt hk) dX6_sheet_21 kX6_171 rfl rfl rfl rfl rfl (mc_CR_of (Nat.le_of_ble_eq_true rfl) (Nat.le_of_ble_eq_true rfl) (Nat.le_refl _) (Nat.le_refl _)) (Nat.le_of_ble_eq_true rfl) ?_
    refine e_asw4 (pc := 24) dX6_sheet_24 (Nat.le_of_ble_eq_true rfl) rfl ?_
    refine e_iloadn (pc := 26) dX6_sheet_26 rfl ?_
    refine e_iconst (v := -1) (pc := 27) dX6_sheet_27 (by decide) ?_
    refine e_icmp_ne (pc := 28) dX6_sheet_28 (t := 40) (by decide) (fun c_28 => ?_) (fun c_28 => ?_)
    · skip
      refine e_iloadn (pc := 40) dX6_sheet_40 rfl ?_
      refine e_bipush (v := 40) (pc := 41) dX6_sheet_41 (by decide) ?_
      refine e_icmp_le (pc := 43) dX6_sheet_43 (t := 49) (by decide) (fun c_43 => ?_) (fun c_43 => ?_)
      · skip
        refine e_iloadn (pc := 49) dX6_sheet_49 rfl ?_
        refine e_if_ge (pc := 50) dX6_sheet_50 (t := 56) (by decide) (fun c_50 => ?_) (fun c_50 => ?_)
        · skip
          refine e_aload (pc := 56) dX6_sheet_56 rfl ?_
          refine e_iloadn (pc := 58) dX6_sheet_58 rfl ?_
          refine e_iloadn (pc := 59) dX6_sheet_59 rfl ?_
          refine e_cvU (pc := 60) (sp_x_sbecome hk hL) dX6_sheet_60 kX6_292 (WW_sh hk) rfl rfl rfl rfl (mc_CR_of (Nat.le_of_ble_eq_true rfl) (Nat.le_of_ble_eq_true rfl) (Nat.le_refl _) (Nat.le_refl _)) (Nat.le_of_ble_eq_true rfl) ?_
          refine e_iconst (v := 1) (pc := 63) dX6_sheet_63 (by decide) ?_
          exact e_iret (pc := 64) dX6_sheet_64 rfl (Nat.le_refl _) (Nat.le_refl _) ⟨by (try simp only [cle, clt] at *); simp_all [ysh1, mc_b0, mc_b1, ← Int32.not_lt], by (try simp only [cle, clt] at *); simp_all [xshs, xsha, ysh1, mc_b0, mc_b1, ← Int32.not_lt]⟩
        · skip
          refine e_bipush (v := -14) (pc := 53) dX6_sheet_53 (by decide) ?_
          exact e_iret (pc := 55) dX6_sheet_55 rfl (Nat.le_refl _) (Nat.le_refl _) ⟨by (try simp only [cle, clt] at *); simp_all [ysh1, mc_b0, mc_b1, ← Int32.not_lt], by (try simp only [cle, clt] at *); simp_all [xshs, xsha, ysh1, mc_b0, mc_b1, ← Int32.not_lt]⟩
      · skip
        refine e_bipush (v := -2) (pc := 46) dX6_sheet_46 (by decide) ?_
        exact e_iret (pc := 48) dX6_sheet_48 rfl (Nat.le_refl _) (Nat.le_refl _) ⟨by (try simp only [cle, clt] at *); simp_all [ysh1, mc_b0, mc_b1, ← Int32.not_lt], by (try simp only [cle, clt] at *); simp_all [xshs, xsha, ysh1, mc_b0, mc_b1, ← Int32.not_lt]⟩
    · skip
      refine e_aload (pc := 31) dX6_sheet_31 rfl ?_
      refine e_iconst (v := -1) (pc := 33) dX6_sheet_33 (by decide) ?_
      refine e_iconst (v := 0) (pc := 34) dX6_sheet_34 (by decide) ?_
      refine e_cvU (pc := 35) (sp_x_sbecome hk hL) dX6_sheet_35 kX6_292 (WW_sh hk) rfl rfl rfl rfl (mc_CR_of (Nat.le_of_ble_eq_true rfl) (Nat.le_of_ble_eq_true rfl) (Nat.le_refl _) (Nat.le_refl _)) (Nat.le_of_ble_eq_true rfl) ?_
      refine e_iconst (v := 1) (pc := 38) dX6_sheet_38 (by decide) ?_
      exact e_iret (pc := 39) dX6_sheet_39 rfl (Nat.le_refl _) (Nat.le_refl _) ⟨by (try simp only [cle, clt] at *); simp_all [ysh1, mc_b0, mc_b1, ← Int32.not_lt], by (try simp only [cle, clt] at *); simp_all [xshs, xsha, ysh1, mc_b0, mc_b1, ← Int32.not_lt]⟩
  · skip
    refine e_bipush (v := -2) (pc := 16) dX6_sheet_16 (by decide) ?_
    exact e_iret (pc := 18) dX6_sheet_18 rfl (Nat.le_refl _) (Nat.le_refl _) ⟨by (try simp only [cle, clt] at *); simp_all [ysh1, mc_b0, mc_b1, ← Int32.not_lt], by (try simp only [cle, clt] at *); simp_all [xshs, xsha, ysh1, mc_b0, mc_b1, ← Int32.not_lt]⟩
theorem sp_x_sheet {s u m n : Nat → Int32} {a c b d : Nat → List Int32} {q : List (Option Nat)} {h : Nat} {z : mc_W} {v so N : Int32} (hL : xL a) : mc_D yX6_sheet cX6_sheet 5 (some .int) 4 [.ref 0, .int v, .int so, .int N] (WW s a q u c h m b n d z) (some (.int (ysh1 v so N))) (WW (xshs s v so N) (xsha a v so N) q u c h m b n d z) := by
  by_cases hv : mc_wi v 0 3 = true
  · obtain ⟨k, hk, rfl⟩ := wi_k hv
    exact sp_x_sheet1 hk hL
  · exact sp_x_sheet0 (by simpa using hv)
