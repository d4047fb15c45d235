theorem sp_x_tinit {w : mc_W} {A0 B0 : Nat} {x y : Int32} (hw : w[A0]? = some (.inl (5, [.null, .int 0, .int 0]))) : mc_S yX5_init cX5_init 4 none 2 0 0 [.ref A0, .ref B0, .int x, .int y] w (fun r w1 => r = none ∧ w1 = w.set A0 (.inl (5, [.ref B0, .int x, .int y]))) := by
  refine mc_start (own := RX5) (ini := true) rfl (by decide +kernel) (fun _ => rfl) (Nat.le_of_ble_eq_true rfl) ?_
  show mc_E _ _ _ _ _ [some (.ref A0), some (.ref B0), some (.int x), some (.int y)] [] _ _ _
  have hl : A0 < w.length := by
    rcases Nat.lt_or_ge A0 w.length with q | q
    · exact q
    · rw [List.getElem?_eq_none q] at hw; cases hw
  have g : ∀ v : mc_C, (w.set A0 v)[A0]? = some v := fun v => by rw [List.getElem?_set, if_pos rfl, if_pos hl]
  refine e_aloadn (pc := 0) dX5_init_0 rfl ?_
  refine e_objInit (pc := 1) dX5_init_1 oX5_3 obj_inst obj_code (mc_JR_of (Nat.le_of_ble_eq_true rfl) (Nat.le_of_ble_eq_true rfl) (Nat.le_of_ble_eq_true rfl) (Nat.le_of_ble_eq_true rfl)) ?_
  refine e_aloadn (pc := 4) dX5_init_4 rfl ?_
  refine e_aloadn (pc := 5) dX5_init_5 rfl ?_
  refine e_putF (pc := 6) dX5_init_6 pX5_9 rfl hw (Nat.le_of_ble_eq_true rfl) rfl ?_
  refine e_aloadn (pc := 9) dX5_init_9 rfl ?_
  refine e_iloadn (pc := 10) dX5_init_10 rfl ?_
  refine e_putF (pc := 11) dX5_init_11 pX5_15 rfl (g _) (Nat.le_of_ble_eq_true rfl) rfl ?_
  rw [List.set_set]
  refine e_aloadn (pc := 14) dX5_init_14 rfl ?_
  refine e_iloadn (pc := 15) dX5_init_15 rfl ?_
  refine e_putF (pc := 16) dX5_init_16 pX5_19 rfl (g _) (Nat.le_of_ble_eq_true rfl) rfl ?_
  rw [List.set_set]
  exact e_vret (pc := 19) dX5_init_19 rfl (Nat.le_refl _) (Nat.le_refl _) ⟨rfl, rfl⟩
theorem set_app2 {α : Type} {l : List α} {x y x2 : α} : (l ++ [x, x2]).set l.length y = l ++ [y, x2] := by
  rw [List.set_append_right _ _ (Nat.le_refl _)]; simp
