theorem sp_x_faultPlace {s u m n : Nat → Int32} {a c b d : Nat → List Int32} {q : List (Option Nat)} {h : Nat} {z : mc_W} : mc_D yX4_faultPlace cX4_faultPlace 1 (some .int) 1 [.ref 6] (WW s a q u c h m b n d z) (some (.int (u 0))) (WW s a q u c h m b n d z) := by
  refine mc_start (own := RX4) (ini := false) rfl (by decide +kernel) (fun h => by cases h) (Nat.le_of_ble_eq_true rfl) ?_
  show mc_E _ _ _ _ _ [some (.ref 6)] [] _ _ _
  refine e_aloadn (pc := 0) dX4_faultPlace_0 rfl ?_
  refine e_get (pc := 1) dX4_faultPlace_1 fX4_44 rfl rfl ?_
  exact e_iret (pc := 4) dX4_faultPlace_4 rfl (Nat.le_refl _) (Nat.le_refl _) ⟨rfl, rfl⟩
def xtxt (T : Nat → Int32) (N t : Nat) : Int32 := if t = 6 then -4 else if (xtv T N).1 = true then nI t else -100 - nI (xtv T N).2
