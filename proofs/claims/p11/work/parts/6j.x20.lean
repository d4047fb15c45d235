/-! ===== the texts that stand in the class ===== -/
section Strs
variable {own : String} {cc : ByteArray} {nL : Nat} {J : mc_J} {pc : Nat} {L : List (Option Value)} {st st0 : List Value} {w w1 : mc_W} {kc ks : Nat}
variable {y : MethodName} {c2 : ByteArray} {n2 : Nat} {ret2 : Option FieldType} {d n i j : Nat} {As : List Value} {v : Value}
theorem e_ctD (hS : mc_D y c2 n2 ret2 d (.ref (1000000 + (1 + j)) :: As) w (some v) w1) (hd : decode cc pc = .ok (.invokevirtual i, 3)) (hf : mc_CV own i y c2 n2 ret2 n) (hj : j < 12) (hC : y.cls = "java/lang/String") (hn : As.length = n) (hR : mc_CR J d 0 0 n2 kc ks) (hst : st0 = As.reverse ++ .ref (1000000 + (1 + j)) :: st) (hs : (st.map fun v => v.category).sum ≤ 8)
    (kk : mc_E own cc nL J (pc + 3) L (v :: st) w1 kc ks) : mc_E own cc nL J pc L st0 w kc ks :=
  e_callT hS hd hf hj hC hn hR hst hs (fun r w' h => by obtain ⟨rfl, rfl⟩ := h; exact kk)
end Strs
/-- letter i of word j -/
def wb (j i : Nat) : Int32 := (mc_byt.getD j []).getD i 0
def wl (j : Nat) : Nat := mc_len.getD j 0
theorem wl_le {j : Nat} : wl j ≤ 6 := by
  by_cases h : j < 12
  · exact (by decide : ∀ j, j < 12 → wl j ≤ 6) j h
  · unfold wl; rw [List.getD_eq_getElem?_getD, List.getElem?_eq_none (show mc_len.length ≤ j by simp [mc_len]; omega)]; decide
theorem wl_sh : ∀ j, j < 12 → Int32.ofNat (wl j) >>> ((0 : Int32) &&& 31) = nI (wl j) := by decide
theorem wb_c : ∀ j, j < 12 → ∀ i, i < wl j → ((wb j i &&& 255).toUInt32 % 65536).toInt32 = wb j i := by decide +kernel
theorem sp_s_coder {w : mc_W} {j : Nat} (hj : j < 12) : mc_D yJ0_coder_7d493 cJ0_coder_7d493 1 (some .byte) 1 [.ref (1000000 + (1 + j))] w (some (.int 0)) w := by
  refine mc_start (own := RJ0) (ini := false) rfl (by decide +kernel) (fun h => by cases h) (Nat.le_of_ble_eq_true rfl) ?_
  show mc_E _ _ _ _ _ [some (.ref (1000000 + (1 + j)))] [] _ _ _
  refine e_getsCS (pc := 0) dJ0_coder_7d493_0 sJ0_38 ?_
  refine e_if_eq (pc := 3) dJ0_coder_7d493_3 (t := 13) (by decide) (fun c_3 => absurd c_3 (by decide)) (fun _ => ?_)
  refine e_aloadn (pc := 6) dJ0_coder_7d493_6 rfl ?_
  refine e_getSC (pc := 7) dJ0_coder_7d493_7 hj sJ0_15 ?_
  refine e_goto (pc := 10) dJ0_coder_7d493_10 (t := 14) (by decide) ?_
  exact e_zret (pc := 14) dJ0_coder_7d493_14 rfl (by rfl) (Nat.le_refl _) (Nat.le_refl _) ⟨rfl, rfl⟩
theorem sp_s_latin {w : mc_W} {j : Nat} (hj : j < 12) : mc_D yJ0_isLatin1_aae02 cJ0_isLatin1_aae02 1 (some .boolean) 1 [.ref (1000000 + (1 + j))] w (some (.int 1)) w := by
  refine mc_start (own := RJ0) (ini := false) rfl (by decide +kernel) (fun h => by cases h) (Nat.le_of_ble_eq_true rfl) ?_
  show mc_E _ _ _ _ _ [some (.ref (1000000 + (1 + j)))] [] _ _ _
  refine e_getsCS (pc := 0) dJ0_isLatin1_aae02_0 sJ0_38 ?_
  refine e_if_eq (pc := 3) dJ0_isLatin1_aae02_3 (t := 17) (by decide) (fun c_3 => absurd c_3 (by decide)) (fun _ => ?_)
  refine e_aloadn (pc := 6) dJ0_isLatin1_aae02_6 rfl ?_
  refine e_getSC (pc := 7) dJ0_isLatin1_aae02_7 hj sJ0_15 ?_
  refine e_if_ne (pc := 10) dJ0_isLatin1_aae02_10 (t := 17) (by decide) (fun c_10 => absurd c_10 (by decide)) (fun _ => ?_)
  refine e_iconst (v := 1) (pc := 13) dJ0_isLatin1_aae02_13 (by decide) ?_
  refine e_goto (pc := 14) dJ0_isLatin1_aae02_14 (t := 18) (by decide) ?_
  exact e_zret (pc := 18) dJ0_isLatin1_aae02_18 rfl (by rfl) (Nat.le_refl _) (Nat.le_refl _) ⟨rfl, rfl⟩
theorem sp_s_length {w : mc_W} {j : Nat} (hj : j < 12) : mc_D yJ0_length_8abf5 cJ0_length_8abf5 1 (some .int) 2 [.ref (1000000 + (1 + j))] w (some (.int (nI (wl j)))) w := by
  refine mc_start (own := RJ0) (ini := false) rfl (by decide +kernel) (fun h => by cases h) (Nat.le_of_ble_eq_true rfl) ?_
  show mc_E _ _ _ _ _ [some (.ref (1000000 + (1 + j)))] [] _ _ _
  refine e_aloadn (pc := 0) dJ0_length_8abf5_0 rfl ?_
  refine e_getSV (pc := 1) dJ0_length_8abf5_1 hj sJ0_9 ?_
  refine e_alenS (pc := 4) dJ0_length_8abf5_4 hj rfl ?_
  refine e_aloadn (pc := 5) dJ0_length_8abf5_5 rfl ?_
  refine e_ctD (pc := 6) (sp_s_coder hj) dJ0_length_8abf5_6 kJ0_335 hj rfl rfl (mc_CR_of (Nat.le_of_ble_eq_true rfl) (Nat.le_of_ble_eq_true rfl) (Nat.le_refl _) (Nat.le_refl _)) rfl (Nat.le_of_ble_eq_true rfl) ?_
  refine e_ishr (pc := 9) dJ0_length_8abf5_9 ?_
  exact e_iret (pc := 10) dJ0_length_8abf5_10 rfl (Nat.le_refl _) (Nat.le_refl _) ⟨by rw [← wl_sh j hj]; rfl, rfl⟩
theorem sp_s_chk31 {w : mc_W} {x y : Int32} (h0 : ¬ x < 0) (h1 : x < y) : mc_D yJ3_checkIndex_8e157 cJ3_checkIndex_8e157 3 (some .int) 1 [.int x, .int y, .null] w (some (.int x)) w := by
  refine mc_start (own := RJ3) (ini := false) rfl (by decide +kernel) (fun h => by cases h) (Nat.le_of_ble_eq_true rfl) ?_
  show mc_E _ _ _ _ _ [some (.int x), some (.int y), some (.null)] [] _ _ _
  refine e_iloadn (pc := 0) dJ3_checkIndex_8e157_0 rfl ?_
  refine e_if_lt (pc := 1) dJ3_checkIndex_8e157_1 (t := 9) (by decide) (fun c_1 => absurd c_1 h0) (fun _ => ?_)
  refine e_iloadn (pc := 4) dJ3_checkIndex_8e157_4 rfl ?_
  refine e_iloadn (pc := 5) dJ3_checkIndex_8e157_5 rfl ?_
  refine e_icmp_lt (pc := 6) dJ3_checkIndex_8e157_6 (t := 16) (by decide) (fun _ => ?_) (fun c_6 => absurd h1 c_6)
  refine e_iloadn (pc := 16) dJ3_checkIndex_8e157_16 rfl ?_
  exact e_iret (pc := 17) dJ3_checkIndex_8e157_17 rfl (Nat.le_refl _) (Nat.le_refl _) ⟨rfl, rfl⟩
theorem sp_s_chk32 {w : mc_W} {x y : Int32} (h0 : ¬ x < 0) (h1 : x < y) : mc_D yJ3_checkIndex_8e157 cJ3_checkIndex_8e157 3 (some .int) 1 [.int x, .int y, .ref 1000200] w (some (.int x)) w := by
  refine mc_start (own := RJ3) (ini := false) rfl (by decide +kernel) (fun h => by cases h) (Nat.le_of_ble_eq_true rfl) ?_
  show mc_E _ _ _ _ _ [some (.int x), some (.int y), some (.ref 1000200)] [] _ _ _
  refine e_iloadn (pc := 0) dJ3_checkIndex_8e157_0 rfl ?_
  refine e_if_lt (pc := 1) dJ3_checkIndex_8e157_1 (t := 9) (by decide) (fun c_1 => absurd c_1 h0) (fun _ => ?_)
  refine e_iloadn (pc := 4) dJ3_checkIndex_8e157_4 rfl ?_
  refine e_iloadn (pc := 5) dJ3_checkIndex_8e157_5 rfl ?_
  refine e_icmp_lt (pc := 6) dJ3_checkIndex_8e157_6 (t := 16) (by decide) (fun _ => ?_) (fun c_6 => absurd h1 c_6)
  refine e_iloadn (pc := 16) dJ3_checkIndex_8e157_16 rfl ?_
  exact e_iret (pc := 17) dJ3_checkIndex_8e157_17 rfl (Nat.le_refl _) (Nat.le_refl _) ⟨rfl, rfl⟩
theorem sp_s_chk {w : mc_W} {x y : Int32} (h0 : ¬ x < 0) (h1 : x < y) : mc_D yJ0_checkIndex_df160 cJ0_checkIndex_df160 2 none 2 [.int x, .int y] w none w := by
  refine mc_start (own := RJ0) (ini := false) rfl (by decide +kernel) (fun h => by cases h) (Nat.le_of_ble_eq_true rfl) ?_
  show mc_E _ _ _ _ _ [some (.int x), some (.int y)] [] _ _ _
  refine e_iloadn (pc := 0) dJ0_checkIndex_df160_0 rfl ?_
  refine e_iloadn (pc := 1) dJ0_checkIndex_df160_1 rfl ?_
  refine e_getsFM (pc := 2) dJ0_checkIndex_df160_2 sJ0_1053 ?_ ?_
  · skip
    refine e_csD (pc := 5) (sp_s_chk31 h0 h1) dJ0_checkIndex_df160_5 kJ0_1059 rfl rfl (mc_CR_of (Nat.le_of_ble_eq_true rfl) (Nat.le_of_ble_eq_true rfl) (Nat.le_refl _) (Nat.le_refl _)) (Nat.le_of_ble_eq_true rfl) ?_
    refine e_pop (pc := 8) dJ0_checkIndex_df160_8 rfl ?_
    exact e_vret (pc := 9) dJ0_checkIndex_df160_9 rfl (Nat.le_refl _) (Nat.le_refl _) ⟨rfl, rfl⟩
  · skip
    refine e_csD (pc := 5) (sp_s_chk32 h0 h1) dJ0_checkIndex_df160_5 kJ0_1059 rfl rfl (mc_CR_of (Nat.le_of_ble_eq_true rfl) (Nat.le_of_ble_eq_true rfl) (Nat.le_refl _) (Nat.le_refl _)) (Nat.le_of_ble_eq_true rfl) ?_
    refine e_pop (pc := 8) dJ0_checkIndex_df160_8 rfl ?_
    exact e_vret (pc := 9) dJ0_checkIndex_df160_9 rfl (Nat.le_refl _) (Nat.le_refl _) ⟨rfl, rfl⟩
theorem nI_ltL {i L : Nat} (h : i < L) (hL : L < 2 ^ 31) : nI i < nI L := nI_lt h hL
theorem s_nar : ∀ j, j < 12 → ∀ i, i < wl j → narrow .char (.int (wb j i)) = .int (wb j i) := by
  intro j hj i hi
  have h := wb_c j hj i hi
  rcases (show j = 0 ∨ j = 1 ∨ j = 2 ∨ j = 3 ∨ j = 4 ∨ j = 5 ∨ j = 6 ∨ j = 7 ∨ j = 8 ∨ j = 9 ∨ j = 10 ∨ j = 11 by omega) with rfl | rfl | rfl | rfl | rfl | rfl | rfl | rfl | rfl | rfl | rfl | rfl <;>
    (have hw := wl_le (j := 0); have : i < 6 := Nat.lt_of_lt_of_le hi wl_le; rcases (show i = 0 ∨ i = 1 ∨ i = 2 ∨ i = 3 ∨ i = 4 ∨ i = 5 by omega) with rfl | rfl | rfl | rfl | rfl | rfl <;> first | rfl | exact absurd hi (by decide))
theorem sp_s_char1 {w : mc_W} {j : Nat} (hj : j < 12) {i : Nat} (hi : i < wl j) : mc_D yJ1_charAt_3b067 cJ1_charAt_3b067 2 (some .char) 3 [.ref (1000000 + (101 + j)), .int (nI i)] w (some (.int (wb j i))) w := by
  refine mc_start (own := RJ1) (ini := false) rfl (by decide +kernel) (fun h => by cases h) (Nat.le_of_ble_eq_true rfl) ?_
  show mc_E _ _ _ _ _ [some (.ref (1000000 + (101 + j))), some (.int (nI i))] [] _ _ _
  have hw : wl j ≤ 6 := wl_le
  have vi : vp_in (nI i) (mc_len.getD j 0) := vp_in_nI (show i < mc_len.getD j 0 from hi) (by show wl j < 2 ^ 31; omega)
  refine e_iloadn (pc := 0) dJ1_charAt_3b067_0 rfl ?_
  refine e_aloadn (pc := 1) dJ1_charAt_3b067_1 rfl ?_
  refine e_alenS (v := nI (wl j)) (pc := 2) dJ1_charAt_3b067_2 hj rfl ?_
  refine e_csU (pc := 3) (sp_s_chk (fun q => by rw [Int32.lt_iff_toInt_lt, nI_toInt (by omega), show (0 : Int32).toInt = 0 from rfl] at q; omega) (nI_ltL hi (by omega))) dJ1_charAt_3b067_3 kJ1_9 rfl rfl (mc_CR_of (Nat.le_of_ble_eq_true rfl) (Nat.le_of_ble_eq_true rfl) (Nat.le_refl _) (Nat.le_refl _)) (Nat.le_of_ble_eq_true rfl) ?_
  refine e_aloadn (pc := 6) dJ1_charAt_3b067_6 rfl ?_
  refine e_iloadn (pc := 7) dJ1_charAt_3b067_7 rfl ?_
  refine e_baldS (x := wb j i) (pc := 8) dJ1_charAt_3b067_8 hj vi (by rw [nIc (by omega)]; rfl) ?_
  refine e_sipush (v := 255) (pc := 9) dJ1_charAt_3b067_9 (by decide) ?_
  refine e_iand (pc := 12) dJ1_charAt_3b067_12 ?_
  refine e_i2c (pc := 13) dJ1_charAt_3b067_13 ?_
  refine e_top (y := wb j i) (wb_c j hj i hi) ?_
  exact e_zret (pc := 14) dJ1_charAt_3b067_14 rfl (by exact s_nar j hj i hi) (Nat.le_refl _) (Nat.le_refl _) ⟨rfl, rfl⟩
theorem sp_s_charAt {w : mc_W} {j : Nat} (hj : j < 12) {i : Nat} (hi : i < wl j) : mc_D yJ0_charAt_5068e cJ0_charAt_5068e 2 (some .char) 4 [.ref (1000000 + (1 + j)), .int (nI i)] w (some (.int (wb j i))) w := by
  refine mc_start (own := RJ0) (ini := false) rfl (by decide +kernel) (fun h => by cases h) (Nat.le_of_ble_eq_true rfl) ?_
  show mc_E _ _ _ _ _ [some (.ref (1000000 + (1 + j))), some (.int (nI i))] [] _ _ _
  refine e_aloadn (pc := 0) dJ0_charAt_5068e_0 rfl ?_
  refine e_ctD (pc := 1) (sp_s_latin hj) dJ0_charAt_5068e_1 kJ0_492 hj rfl rfl (mc_CR_of (Nat.le_of_ble_eq_true rfl) (Nat.le_of_ble_eq_true rfl) (Nat.le_refl _) (Nat.le_refl _)) rfl (Nat.le_of_ble_eq_true rfl) ?_
  refine e_if_eq (pc := 4) dJ0_charAt_5068e_4 (t := 16) (by decide) (fun c_4 => absurd c_4 (by decide)) (fun _ => ?_)
  refine e_aloadn (pc := 7) dJ0_charAt_5068e_7 rfl ?_
  refine e_getSV (pc := 8) dJ0_charAt_5068e_8 hj sJ0_9 ?_
  refine e_iloadn (pc := 11) dJ0_charAt_5068e_11 rfl ?_
  refine e_csD (pc := 12) (sp_s_char1 hj hi) dJ0_charAt_5068e_12 kJ0_495 rfl rfl (mc_CR_of (Nat.le_of_ble_eq_true rfl) (Nat.le_of_ble_eq_true rfl) (Nat.le_refl _) (Nat.le_refl _)) (Nat.le_of_ble_eq_true rfl) ?_
  exact e_zret (pc := 15) dJ0_charAt_5068e_15 rfl (by exact s_nar j hj i hi) (Nat.le_refl _) (Nat.le_refl _) ⟨rfl, rfl⟩
