set_option maxRecDepth 20000 in
theorem mc_mem {w : Cond} (h : w ∈ lw_tbl) (hg : goodWord w = true) : w ∈ mc_WS := List.mem_filter.mpr ⟨h, hg⟩
set_option maxRecDepth 20000 in
theorem sg1 {w : Cond} (h : w ∈ tables_1_1) (hg : goodWord w = true) : w ∈ mc_WS := mc_mem (List.mem_append_right _ (List.mem_append_left _ h)) hg
set_option maxRecDepth 20000 in
theorem sg2 {w : Cond} (h : w ∈ tables_1_2) (hg : goodWord w = true) : w ∈ mc_WS := mc_mem (List.mem_append_right _ (List.mem_append_right _ (List.mem_append_left _ h))) hg
set_option maxRecDepth 20000 in
theorem sg3 {w : Cond} (h : w ∈ tables_1_3) (hg : goodWord w = true) : w ∈ mc_WS := mc_mem (List.mem_append_right _ (List.mem_append_right _ (List.mem_append_right _ (List.mem_append_left _ h)))) hg
set_option maxRecDepth 20000 in
theorem sg4 {w : Cond} (h : w ∈ tables_1_4) (hg : goodWord w = true) : w ∈ mc_WS := mc_mem (List.mem_append_right _ (List.mem_append_right _ (List.mem_append_right _ (List.mem_append_right _ (List.mem_append_left _ h))))) hg
set_option maxRecDepth 20000 in
theorem sg5 {w : Cond} (h : w ∈ tables_1_5) (hg : goodWord w = true) : w ∈ mc_WS := mc_mem (List.mem_append_right _ (List.mem_append_right _ (List.mem_append_right _ (List.mem_append_right _ (List.mem_append_right _ (List.mem_append_left _ h)))))) hg
set_option maxRecDepth 20000 in
theorem sg6 {w : Cond} (h : w ∈ tables_1_6) (hg : goodWord w = true) : w ∈ mc_WS := mc_mem (List.mem_append_right _ (List.mem_append_right _ (List.mem_append_right _ (List.mem_append_right _ (List.mem_append_right _ (List.mem_append_right _ (h))))))) hg
set_option maxRecDepth 20000 in
theorem pr1 {q : MethodName × Nat} (h : q ∈ lw_privs_1) : q ∈ lw_privs := List.mem_append_left _ h
set_option maxRecDepth 20000 in
theorem pr2 {q : MethodName × Nat} (h : q ∈ lw_privs_2) : q ∈ lw_privs := List.mem_append_right _ (List.mem_append_left _ h)
set_option maxRecDepth 20000 in
theorem pr3 {q : MethodName × Nat} (h : q ∈ lw_privs_3) : q ∈ lw_privs := List.mem_append_right _ (List.mem_append_right _ (List.mem_append_left _ h))
set_option maxRecDepth 20000 in
theorem pr4 {q : MethodName × Nat} (h : q ∈ lw_privs_4) : q ∈ lw_privs := List.mem_append_right _ (List.mem_append_right _ (List.mem_append_right _ (h)))
set_option maxRecDepth 20000 in
theorem mc_sel {q : MethodName × Nat} (h : q ∈ lw_privs) : Cond.selects q.1.cls q.1 q.1 ∈ mc_WS := mc_mem (List.mem_append_left _ (List.mem_map.mpr ⟨q, h, rfl⟩)) rfl
set_option maxRecDepth 20000 in
theorem ws_in {C : String} {T : u_T} {N : Nat} (ps : List Nat) (h : ∀ k, k < N → tables_1[ps.getD k 0]? = some (u_lay C T k)) : ∀ w ∈ u_ws C T N, w ∈ tables_1 := by
  intro w hw
  obtain ⟨k, hk, rfl⟩ := List.mem_map.mp hw
  exact List.mem_of_getElem? (h k (List.mem_range.mp hk))
set_option maxRecDepth 20000 in
theorem mcf0 : mc_CF 0 RX0 TX0 2 tyX0 := ⟨rfl, fun w hw => mc_mem (List.mem_append_right _ (ws_in [87, 89] (show ∀ k, k < 2 → tables_1[[87, 89].getD k 0]? = some (u_lay RX0 TX0 k) by decide +kernel) w hw)) ((show ∀ w ∈ wsX00, goodWord w = true by decide +kernel) w hw), tyX0_ok, nmX0⟩
set_option maxRecDepth 20000 in
theorem mcf1 : mc_CF 1 RX1 TX1 6 tyX1 := ⟨rfl, fun w hw => mc_mem (List.mem_append_right _ (ws_in [131, 133, 135, 137, 139, 141] (show ∀ k, k < 6 → tables_1[[131, 133, 135, 137, 139, 141].getD k 0]? = some (u_lay RX1 TX1 k) by decide +kernel) w hw)) ((show ∀ w ∈ wsX10, goodWord w = true by decide +kernel) w hw), tyX1_ok, nmX1⟩
set_option maxRecDepth 20000 in
theorem mcf2 : mc_CF 2 RX2 TX2 6 tyX2 := ⟨rfl, fun w hw => mc_mem (List.mem_append_right _ (ws_in [106, 108, 110, 112, 114, 116] (show ∀ k, k < 6 → tables_1[[106, 108, 110, 112, 114, 116].getD k 0]? = some (u_lay RX2 TX2 k) by decide +kernel) w hw)) ((show ∀ w ∈ wsX20, goodWord w = true by decide +kernel) w hw), tyX2_ok, nmX2⟩
set_option maxRecDepth 20000 in
theorem mcf3 : mc_CF 3 RX3 TX3 3 tyX3 := ⟨rfl, fun w hw => mc_mem (List.mem_append_right _ (ws_in [152, 154, 156] (show ∀ k, k < 3 → tables_1[[152, 154, 156].getD k 0]? = some (u_lay RX3 TX3 k) by decide +kernel) w hw)) ((show ∀ w ∈ wsX30, goodWord w = true by decide +kernel) w hw), tyX3_ok, nmX3⟩
set_option maxRecDepth 20000 in
theorem mcf4 : mc_CF 4 RX4 TX4 9 tyX4 := ⟨rfl, fun w hw => mc_mem (List.mem_append_right _ (ws_in [58, 60, 62, 64, 66, 68, 70, 72, 74] (show ∀ k, k < 9 → tables_1[[58, 60, 62, 64, 66, 68, 70, 72, 74].getD k 0]? = some (u_lay RX4 TX4 k) by decide +kernel) w hw)) ((show ∀ w ∈ wsX40, goodWord w = true by decide +kernel) w hw), tyX4_ok, nmX4⟩
set_option maxRecDepth 20000 in
theorem mcf5 : mc_CF 5 RX5 TX5 3 tyX5 := ⟨rfl, fun w hw => mc_mem (List.mem_append_right _ (ws_in [34, 36, 38] (show ∀ k, k < 3 → tables_1[[34, 36, 38].getD k 0]? = some (u_lay RX5 TX5 k) by decide +kernel) w hw)) ((show ∀ w ∈ wsX50, goodWord w = true by decide +kernel) w hw), tyX5_ok, nmX5⟩
set_option maxRecDepth 20000 in
theorem mcf6 : mc_CF 6 RX6 TX6 14 tyX6 := ⟨rfl, fun w hw => mc_mem (List.mem_append_right _ (ws_in [173, 175, 177, 179, 181, 183, 185, 187, 189, 191, 193, 195, 197, 199] (show ∀ k, k < 14 → tables_1[[173, 175, 177, 179, 181, 183, 185, 187, 189, 191, 193, 195, 197, 199].getD k 0]? = some (u_lay RX6 TX6 k) by decide +kernel) w hw)) ((show ∀ w ∈ wsX60, goodWord w = true by decide +kernel) w hw), tyX6_ok, nmX6⟩
set_option maxRecDepth 20000 in
theorem mcf7 : mc_CF 7 RX7 TX7 35 tyX7 := ⟨rfl, fun w hw => mc_mem (List.mem_append_right _ (ws_in [968, 970, 972, 974, 976, 978, 980, 982, 984, 986, 988, 990, 992, 994, 996, 998, 1000, 1002, 1004, 1006, 1008, 1010, 1012, 1014, 1016, 1018, 1020, 1022, 1024, 1026, 1028, 1030, 1032, 1034, 1036] (show ∀ k, k < 35 → tables_1[[968, 970, 972, 974, 976, 978, 980, 982, 984, 986, 988, 990, 992, 994, 996, 998, 1000, 1002, 1004, 1006, 1008, 1010, 1012, 1014, 1016, 1018, 1020, 1022, 1024, 1026, 1028, 1030, 1032, 1034, 1036].getD k 0]? = some (u_lay RX7 TX7 k) by decide +kernel) w hw)) ((show ∀ w ∈ wsX70, goodWord w = true by decide +kernel) w hw), tyX7_ok, nmX7⟩
set_option maxRecDepth 20000 in
theorem nv_RX6 : (RX6 ≠ "java/lang/invoke/MethodHandle" ∧ RX6 ≠ "java/lang/invoke/VarHandle") := ⟨by decide +kernel, by decide +kernel⟩
set_option maxRecDepth 20000 in
theorem pd_0 : (parseMethodDescriptor "()V").map (fun d => d.parameters.length) = some 0 := by decide +kernel
set_option maxRecDepth 20000 in
theorem kL_9 : mc_CI "NoZeroWithinLaw" 9 yX6_init cX6_init 2 0 := ⟨⟨nv_RX6, pd_0, sg1 (List.mem_of_getElem? (i := 21) rfl) rfl, sg1 (List.mem_of_getElem? (i := 1) rfl) rfl⟩, sg1 (List.mem_of_getElem? (i := 19) rfl) rfl, sg1 (List.mem_of_getElem? (i := 20) rfl) rfl, rfl⟩
set_option maxRecDepth 20000 in
theorem oX6_1 : Cond.methodLink RX6 1 Lib.objectInit ∈ mc_WS := sg1 (List.mem_of_getElem? (i := 22) rfl) rfl
set_option maxRecDepth 20000 in
theorem nX6_23 : Cond.classLink RX6 23 RX5 ∈ mc_WS := sg1 (List.mem_of_getElem? (i := 25) rfl) rfl
set_option maxRecDepth 20000 in
theorem nv_RX5 : (RX5 ≠ "java/lang/invoke/MethodHandle" ∧ RX5 ≠ "java/lang/invoke/VarHandle") := ⟨by decide +kernel, by decide +kernel⟩
set_option maxRecDepth 20000 in
theorem pd_1 : (parseMethodDescriptor "([III)V").map (fun d => d.parameters.length) = some 3 := by decide +kernel
set_option maxRecDepth 20000 in
theorem kX6_25 : mc_CI RX6 25 yX5_init cX5_init 4 3 := ⟨⟨nv_RX5, pd_1, sg1 (List.mem_of_getElem? (i := 29) rfl) rfl, sg1 (List.mem_of_getElem? (i := 2) rfl) rfl⟩, sg1 (List.mem_of_getElem? (i := 27) rfl) rfl, sg1 (List.mem_of_getElem? (i := 28) rfl) rfl, rfl⟩
set_option maxRecDepth 20000 in
theorem oX5_3 : Cond.methodLink RX5 3 Lib.objectInit ∈ mc_WS := sg1 (List.mem_of_getElem? (i := 30) rfl) rfl
set_option maxRecDepth 20000 in
theorem lX5_9 : Cond.fieldLink RX5 9 (TX5 0).1 (TX5 0).2.1 (TX5 0).2.2.1 ∈ mc_WS := sg1 (List.mem_of_getElem? (i := 31) rfl) rfl
set_option maxRecDepth 20000 in
theorem fX5_9 : mc_FL RX5 9 5 0 := ⟨RX5, TX5, 3, tyX5, mcf5, by decide, lX5_9⟩
set_option maxRecDepth 20000 in
theorem pX5_9 : mc_FP RX5 9 5 0 (tyX5 0) true := ⟨RX5, TX5, 3, tyX5, mcf5, by decide, lX5_9, tyX5_ok 0 (by decide), rfl, rfl⟩
set_option maxRecDepth 20000 in
theorem lX5_15 : Cond.fieldLink RX5 15 (TX5 1).1 (TX5 1).2.1 (TX5 1).2.2.1 ∈ mc_WS := sg1 (List.mem_of_getElem? (i := 32) rfl) rfl
set_option maxRecDepth 20000 in
theorem fX5_15 : mc_FL RX5 15 5 1 := ⟨RX5, TX5, 3, tyX5, mcf5, by decide, lX5_15⟩
set_option maxRecDepth 20000 in
theorem pX5_15 : mc_FP RX5 15 5 1 (tyX5 1) true := ⟨RX5, TX5, 3, tyX5, mcf5, by decide, lX5_15, tyX5_ok 1 (by decide), rfl, rfl⟩
set_option maxRecDepth 20000 in
theorem lX5_19 : Cond.fieldLink RX5 19 (TX5 2).1 (TX5 2).2.1 (TX5 2).2.2.1 ∈ mc_WS := sg1 (List.mem_of_getElem? (i := 33) rfl) rfl
set_option maxRecDepth 20000 in
theorem fX5_19 : mc_FL RX5 19 5 2 := ⟨RX5, TX5, 3, tyX5, mcf5, by decide, lX5_19⟩
set_option maxRecDepth 20000 in
theorem pX5_19 : mc_FP RX5 19 5 2 (tyX5 2) true := ⟨RX5, TX5, 3, tyX5, mcf5, by decide, lX5_19, tyX5_ok 2 (by decide), rfl, rfl⟩
set_option maxRecDepth 20000 in
theorem nX6_39 : Cond.classLink RX6 39 RX4 ∈ mc_WS := sg1 (List.mem_of_getElem? (i := 43) rfl) rfl
set_option maxRecDepth 20000 in
theorem nv_RX4 : (RX4 ≠ "java/lang/invoke/MethodHandle" ∧ RX4 ≠ "java/lang/invoke/VarHandle") := ⟨by decide +kernel, by decide +kernel⟩
set_option maxRecDepth 20000 in
theorem kX6_41 : mc_CI RX6 41 yX4_init cX4_init 1 0 := ⟨⟨nv_RX4, pd_0, sg1 (List.mem_of_getElem? (i := 47) rfl) rfl, sg1 (List.mem_of_getElem? (i := 3) rfl) rfl⟩, sg1 (List.mem_of_getElem? (i := 45) rfl) rfl, sg1 (List.mem_of_getElem? (i := 46) rfl) rfl, rfl⟩
set_option maxRecDepth 20000 in
theorem oX4_3 : Cond.methodLink RX4 3 Lib.objectInit ∈ mc_WS := sg1 (List.mem_of_getElem? (i := 48) rfl) rfl
set_option maxRecDepth 20000 in
theorem lX4_9 : Cond.fieldLink RX4 9 (TX4 0).1 (TX4 0).2.1 (TX4 0).2.2.1 ∈ mc_WS := sg1 (List.mem_of_getElem? (i := 49) rfl) rfl
set_option maxRecDepth 20000 in
theorem fX4_9 : mc_FL RX4 9 4 0 := ⟨RX4, TX4, 9, tyX4, mcf4, by decide, lX4_9⟩
set_option maxRecDepth 20000 in
theorem pX4_9 : mc_FP RX4 9 4 0 (tyX4 0) true := ⟨RX4, TX4, 9, tyX4, mcf4, by decide, lX4_9, tyX4_ok 0 (by decide), rfl, rfl⟩
set_option maxRecDepth 20000 in
theorem lX4_18 : Cond.fieldLink RX4 18 (TX4 1).1 (TX4 1).2.1 (TX4 1).2.2.1 ∈ mc_WS := sg1 (List.mem_of_getElem? (i := 50) rfl) rfl
set_option maxRecDepth 20000 in
theorem fX4_18 : mc_FL RX4 18 4 1 := ⟨RX4, TX4, 9, tyX4, mcf4, by decide, lX4_18⟩
set_option maxRecDepth 20000 in
theorem pX4_18 : mc_FP RX4 18 4 1 (tyX4 1) false := ⟨RX4, TX4, 9, tyX4, mcf4, by decide, lX4_18, tyX4_ok 1 (by decide), rfl, rfl⟩
set_option maxRecDepth 20000 in
theorem lX4_44 : Cond.fieldLink RX4 44 (TX4 2).1 (TX4 2).2.1 (TX4 2).2.2.1 ∈ mc_WS := sg1 (List.mem_of_getElem? (i := 51) rfl) rfl
set_option maxRecDepth 20000 in
theorem fX4_44 : mc_FL RX4 44 4 2 := ⟨RX4, TX4, 9, tyX4, mcf4, by decide, lX4_44⟩
set_option maxRecDepth 20000 in
theorem pX4_44 : mc_FP RX4 44 4 2 (tyX4 2) false := ⟨RX4, TX4, 9, tyX4, mcf4, by decide, lX4_44, tyX4_ok 2 (by decide), rfl, rfl⟩
set_option maxRecDepth 20000 in
theorem lX4_22 : Cond.fieldLink RX4 22 (TX4 3).1 (TX4 3).2.1 (TX4 3).2.2.1 ∈ mc_WS := sg1 (List.mem_of_getElem? (i := 52) rfl) rfl
set_option maxRecDepth 20000 in
theorem fX4_22 : mc_FL RX4 22 4 3 := ⟨RX4, TX4, 9, tyX4, mcf4, by decide, lX4_22⟩
set_option maxRecDepth 20000 in
theorem pX4_22 : mc_FP RX4 22 4 3 (tyX4 3) false := ⟨RX4, TX4, 9, tyX4, mcf4, by decide, lX4_22, tyX4_ok 3 (by decide), rfl, rfl⟩
set_option maxRecDepth 20000 in
theorem lX4_41 : Cond.fieldLink RX4 41 (TX4 4).1 (TX4 4).2.1 (TX4 4).2.2.1 ∈ mc_WS := sg1 (List.mem_of_getElem? (i := 53) rfl) rfl
set_option maxRecDepth 20000 in
theorem fX4_41 : mc_FL RX4 41 4 4 := ⟨RX4, TX4, 9, tyX4, mcf4, by decide, lX4_41⟩
set_option maxRecDepth 20000 in
theorem pX4_41 : mc_FP RX4 41 4 4 (tyX4 4) false := ⟨RX4, TX4, 9, tyX4, mcf4, by decide, lX4_41, tyX4_ok 4 (by decide), rfl, rfl⟩
set_option maxRecDepth 20000 in
theorem lX4_15 : Cond.fieldLink RX4 15 (TX4 5).1 (TX4 5).2.1 (TX4 5).2.2.1 ∈ mc_WS := sg1 (List.mem_of_getElem? (i := 54) rfl) rfl
set_option maxRecDepth 20000 in
theorem fX4_15 : mc_FL RX4 15 4 5 := ⟨RX4, TX4, 9, tyX4, mcf4, by decide, lX4_15⟩
set_option maxRecDepth 20000 in
theorem pX4_15 : mc_FP RX4 15 4 5 (tyX4 5) true := ⟨RX4, TX4, 9, tyX4, mcf4, by decide, lX4_15, tyX4_ok 5 (by decide), rfl, rfl⟩
set_option maxRecDepth 20000 in
theorem lX4_25 : Cond.fieldLink RX4 25 (TX4 6).1 (TX4 6).2.1 (TX4 6).2.2.1 ∈ mc_WS := sg1 (List.mem_of_getElem? (i := 55) rfl) rfl
set_option maxRecDepth 20000 in
theorem fX4_25 : mc_FL RX4 25 4 6 := ⟨RX4, TX4, 9, tyX4, mcf4, by decide, lX4_25⟩
set_option maxRecDepth 20000 in
theorem pX4_25 : mc_FP RX4 25 4 6 (tyX4 6) false := ⟨RX4, TX4, 9, tyX4, mcf4, by decide, lX4_25, tyX4_ok 6 (by decide), rfl, rfl⟩
set_option maxRecDepth 20000 in
theorem lX4_35 : Cond.fieldLink RX4 35 (TX4 7).1 (TX4 7).2.1 (TX4 7).2.2.1 ∈ mc_WS := sg1 (List.mem_of_getElem? (i := 56) rfl) rfl
set_option maxRecDepth 20000 in
theorem fX4_35 : mc_FL RX4 35 4 7 := ⟨RX4, TX4, 9, tyX4, mcf4, by decide, lX4_35⟩
set_option maxRecDepth 20000 in
theorem pX4_35 : mc_FP RX4 35 4 7 (tyX4 7) false := ⟨RX4, TX4, 9, tyX4, mcf4, by decide, lX4_35, tyX4_ok 7 (by decide), rfl, rfl⟩
set_option maxRecDepth 20000 in
theorem lX4_38 : Cond.fieldLink RX4 38 (TX4 8).1 (TX4 8).2.1 (TX4 8).2.2.1 ∈ mc_WS := sg1 (List.mem_of_getElem? (i := 57) rfl) rfl
set_option maxRecDepth 20000 in
theorem fX4_38 : mc_FL RX4 38 4 8 := ⟨RX4, TX4, 9, tyX4, mcf4, by decide, lX4_38⟩
set_option maxRecDepth 20000 in
theorem pX4_38 : mc_FP RX4 38 4 8 (tyX4 8) false := ⟨RX4, TX4, 9, tyX4, mcf4, by decide, lX4_38, tyX4_ok 8 (by decide), rfl, rfl⟩
set_option maxRecDepth 20000 in
theorem nX6_46 : Cond.classLink RX6 46 RX3 ∈ mc_WS := sg1 (List.mem_of_getElem? (i := 77) rfl) rfl
set_option maxRecDepth 20000 in
theorem nX6_52 : Cond.classLink RX6 52 RX0 ∈ mc_WS := sg1 (List.mem_of_getElem? (i := 79) rfl) rfl
set_option maxRecDepth 20000 in
theorem nv_RX0 : (RX0 ≠ "java/lang/invoke/MethodHandle" ∧ RX0 ≠ "java/lang/invoke/VarHandle") := ⟨by decide +kernel, by decide +kernel⟩
set_option maxRecDepth 20000 in
theorem kX6_54 : mc_CI RX6 54 yX0_init cX0_init 1 0 := ⟨⟨nv_RX0, pd_0, sg1 (List.mem_of_getElem? (i := 83) rfl) rfl, sg1 (List.mem_of_getElem? (i := 4) rfl) rfl⟩, sg1 (List.mem_of_getElem? (i := 81) rfl) rfl, sg1 (List.mem_of_getElem? (i := 82) rfl) rfl, rfl⟩
set_option maxRecDepth 20000 in
theorem oX0_3 : Cond.methodLink RX0 3 Lib.objectInit ∈ mc_WS := sg1 (List.mem_of_getElem? (i := 84) rfl) rfl
set_option maxRecDepth 20000 in
theorem lX0_9 : Cond.fieldLink RX0 9 (TX0 0).1 (TX0 0).2.1 (TX0 0).2.2.1 ∈ mc_WS := sg1 (List.mem_of_getElem? (i := 85) rfl) rfl
set_option maxRecDepth 20000 in
theorem fX0_9 : mc_FL RX0 9 0 0 := ⟨RX0, TX0, 2, tyX0, mcf0, by decide, lX0_9⟩
set_option maxRecDepth 20000 in
theorem pX0_9 : mc_FP RX0 9 0 0 (tyX0 0) true := ⟨RX0, TX0, 2, tyX0, mcf0, by decide, lX0_9, tyX0_ok 0 (by decide), rfl, rfl⟩
set_option maxRecDepth 20000 in
theorem lX0_15 : Cond.fieldLink RX0 15 (TX0 1).1 (TX0 1).2.1 (TX0 1).2.2.1 ∈ mc_WS := sg1 (List.mem_of_getElem? (i := 86) rfl) rfl
set_option maxRecDepth 20000 in
theorem fX0_15 : mc_FL RX0 15 0 1 := ⟨RX0, TX0, 2, tyX0, mcf0, by decide, lX0_15⟩
set_option maxRecDepth 20000 in
theorem pX0_15 : mc_FP RX0 15 0 1 (tyX0 1) true := ⟨RX0, TX0, 2, tyX0, mcf0, by decide, lX0_15, tyX0_ok 1 (by decide), rfl, rfl⟩
set_option maxRecDepth 20000 in
theorem nX6_59 : Cond.classLink RX6 59 RX2 ∈ mc_WS := sg1 (List.mem_of_getElem? (i := 92) rfl) rfl
set_option maxRecDepth 20000 in
theorem nv_RX2 : (RX2 ≠ "java/lang/invoke/MethodHandle" ∧ RX2 ≠ "java/lang/invoke/VarHandle") := ⟨by decide +kernel, by decide +kernel⟩
set_option maxRecDepth 20000 in
theorem kX6_61 : mc_CI RX6 61 yX2_init cX2_init 1 0 := ⟨⟨nv_RX2, pd_0, sg1 (List.mem_of_getElem? (i := 96) rfl) rfl, sg1 (List.mem_of_getElem? (i := 5) rfl) rfl⟩, sg1 (List.mem_of_getElem? (i := 94) rfl) rfl, sg1 (List.mem_of_getElem? (i := 95) rfl) rfl, rfl⟩
set_option maxRecDepth 20000 in
theorem oX2_1 : Cond.methodLink RX2 1 Lib.objectInit ∈ mc_WS := sg1 (List.mem_of_getElem? (i := 97) rfl) rfl
set_option maxRecDepth 20000 in
theorem nX2_7 : Cond.classLink RX2 7 RX0 ∈ mc_WS := sg1 (List.mem_of_getElem? (i := 98) rfl) rfl
set_option maxRecDepth 20000 in
theorem kX2_9 : mc_CI RX2 9 yX0_init cX0_init 1 0 := ⟨⟨nv_RX0, pd_0, sg1 (List.mem_of_getElem? (i := 83) rfl) rfl, sg1 (List.mem_of_getElem? (i := 4) rfl) rfl⟩, sg1 (List.mem_of_getElem? (i := 99) rfl) rfl, sg1 (List.mem_of_getElem? (i := 82) rfl) rfl, rfl⟩
set_option maxRecDepth 20000 in
theorem lX2_16 : Cond.fieldLink RX2 16 (TX2 0).1 (TX2 0).2.1 (TX2 0).2.2.1 ∈ mc_WS := sg1 (List.mem_of_getElem? (i := 100) rfl) rfl
set_option maxRecDepth 20000 in
theorem fX2_16 : mc_FL RX2 16 2 0 := ⟨RX2, TX2, 6, tyX2, mcf2, by decide, lX2_16⟩
set_option maxRecDepth 20000 in
theorem pX2_16 : mc_FP RX2 16 2 0 (tyX2 0) false := ⟨RX2, TX2, 6, tyX2, mcf2, by decide, lX2_16, tyX2_ok 0 (by decide), rfl, rfl⟩
set_option maxRecDepth 20000 in
theorem lX2_20 : Cond.fieldLink RX2 20 (TX2 1).1 (TX2 1).2.1 (TX2 1).2.2.1 ∈ mc_WS := sg1 (List.mem_of_getElem? (i := 101) rfl) rfl
set_option maxRecDepth 20000 in
theorem fX2_20 : mc_FL RX2 20 2 1 := ⟨RX2, TX2, 6, tyX2, mcf2, by decide, lX2_20⟩
set_option maxRecDepth 20000 in
theorem pX2_20 : mc_FP RX2 20 2 1 (tyX2 1) false := ⟨RX2, TX2, 6, tyX2, mcf2, by decide, lX2_20, tyX2_ok 1 (by decide), rfl, rfl⟩
set_option maxRecDepth 20000 in
theorem lX2_24 : Cond.fieldLink RX2 24 (TX2 2).1 (TX2 2).2.1 (TX2 2).2.2.1 ∈ mc_WS := sg1 (List.mem_of_getElem? (i := 102) rfl) rfl
set_option maxRecDepth 20000 in
theorem fX2_24 : mc_FL RX2 24 2 2 := ⟨RX2, TX2, 6, tyX2, mcf2, by decide, lX2_24⟩
set_option maxRecDepth 20000 in
theorem pX2_24 : mc_FP RX2 24 2 2 (tyX2 2) false := ⟨RX2, TX2, 6, tyX2, mcf2, by decide, lX2_24, tyX2_ok 2 (by decide), rfl, rfl⟩
set_option maxRecDepth 20000 in
theorem lX2_27 : Cond.fieldLink RX2 27 (TX2 3).1 (TX2 3).2.1 (TX2 3).2.2.1 ∈ mc_WS := sg1 (List.mem_of_getElem? (i := 103) rfl) rfl
set_option maxRecDepth 20000 in
theorem fX2_27 : mc_FL RX2 27 2 3 := ⟨RX2, TX2, 6, tyX2, mcf2, by decide, lX2_27⟩
set_option maxRecDepth 20000 in
theorem pX2_27 : mc_FP RX2 27 2 3 (tyX2 3) false := ⟨RX2, TX2, 6, tyX2, mcf2, by decide, lX2_27, tyX2_ok 3 (by decide), rfl, rfl⟩
set_option maxRecDepth 20000 in
theorem lX2_30 : Cond.fieldLink RX2 30 (TX2 4).1 (TX2 4).2.1 (TX2 4).2.2.1 ∈ mc_WS := sg1 (List.mem_of_getElem? (i := 104) rfl) rfl
set_option maxRecDepth 20000 in
theorem fX2_30 : mc_FL RX2 30 2 4 := ⟨RX2, TX2, 6, tyX2, mcf2, by decide, lX2_30⟩
set_option maxRecDepth 20000 in
theorem pX2_30 : mc_FP RX2 30 2 4 (tyX2 4) false := ⟨RX2, TX2, 6, tyX2, mcf2, by decide, lX2_30, tyX2_ok 4 (by decide), rfl, rfl⟩
set_option maxRecDepth 20000 in
theorem lX2_10 : Cond.fieldLink RX2 10 (TX2 5).1 (TX2 5).2.1 (TX2 5).2.2.1 ∈ mc_WS := sg1 (List.mem_of_getElem? (i := 105) rfl) rfl
set_option maxRecDepth 20000 in
theorem fX2_10 : mc_FL RX2 10 2 5 := ⟨RX2, TX2, 6, tyX2, mcf2, by decide, lX2_10⟩
set_option maxRecDepth 20000 in
theorem pX2_10 : mc_FP RX2 10 2 5 (tyX2 5) true := ⟨RX2, TX2, 6, tyX2, mcf2, by decide, lX2_10, tyX2_ok 5 (by decide), rfl, rfl⟩
set_option maxRecDepth 20000 in
theorem nX6_66 : Cond.classLink RX6 66 RX1 ∈ mc_WS := sg1 (List.mem_of_getElem? (i := 119) rfl) rfl
set_option maxRecDepth 20000 in
theorem nv_RX1 : (RX1 ≠ "java/lang/invoke/MethodHandle" ∧ RX1 ≠ "java/lang/invoke/VarHandle") := ⟨by decide +kernel, by decide +kernel⟩
set_option maxRecDepth 20000 in
theorem pd_2 : (parseMethodDescriptor "(LNoZeroWithin$Text;)V").map (fun d => d.parameters.length) = some 1 := by decide +kernel
set_option maxRecDepth 20000 in
theorem kX6_68 : mc_CI RX6 68 yX1_init cX1_init 2 1 := ⟨⟨nv_RX1, pd_2, sg1 (List.mem_of_getElem? (i := 123) rfl) rfl, sg1 (List.mem_of_getElem? (i := 6) rfl) rfl⟩, sg1 (List.mem_of_getElem? (i := 121) rfl) rfl, sg1 (List.mem_of_getElem? (i := 122) rfl) rfl, rfl⟩
set_option maxRecDepth 20000 in
theorem oX1_3 : Cond.methodLink RX1 3 Lib.objectInit ∈ mc_WS := sg1 (List.mem_of_getElem? (i := 124) rfl) rfl
set_option maxRecDepth 20000 in
theorem lX1_25 : Cond.fieldLink RX1 25 (TX1 0).1 (TX1 0).2.1 (TX1 0).2.2.1 ∈ mc_WS := sg1 (List.mem_of_getElem? (i := 125) rfl) rfl
set_option maxRecDepth 20000 in
theorem fX1_25 : mc_FL RX1 25 1 0 := ⟨RX1, TX1, 6, tyX1, mcf1, by decide, lX1_25⟩
set_option maxRecDepth 20000 in
theorem pX1_25 : mc_FP RX1 25 1 0 (tyX1 0) false := ⟨RX1, TX1, 6, tyX1, mcf1, by decide, lX1_25, tyX1_ok 0 (by decide), rfl, rfl⟩
set_option maxRecDepth 20000 in
theorem lX1_21 : Cond.fieldLink RX1 21 (TX1 1).1 (TX1 1).2.1 (TX1 1).2.2.1 ∈ mc_WS := sg1 (List.mem_of_getElem? (i := 126) rfl) rfl
set_option maxRecDepth 20000 in
theorem fX1_21 : mc_FL RX1 21 1 1 := ⟨RX1, TX1, 6, tyX1, mcf1, by decide, lX1_21⟩
set_option maxRecDepth 20000 in
theorem pX1_21 : mc_FP RX1 21 1 1 (tyX1 1) false := ⟨RX1, TX1, 6, tyX1, mcf1, by decide, lX1_21, tyX1_ok 1 (by decide), rfl, rfl⟩
set_option maxRecDepth 20000 in
theorem lX1_11 : Cond.fieldLink RX1 11 (TX1 2).1 (TX1 2).2.1 (TX1 2).2.2.1 ∈ mc_WS := sg1 (List.mem_of_getElem? (i := 127) rfl) rfl
set_option maxRecDepth 20000 in
theorem fX1_11 : mc_FL RX1 11 1 2 := ⟨RX1, TX1, 6, tyX1, mcf1, by decide, lX1_11⟩
set_option maxRecDepth 20000 in
theorem pX1_11 : mc_FP RX1 11 1 2 (tyX1 2) true := ⟨RX1, TX1, 6, tyX1, mcf1, by decide, lX1_11, tyX1_ok 2 (by decide), rfl, rfl⟩
set_option maxRecDepth 20000 in
theorem lX1_15 : Cond.fieldLink RX1 15 (TX1 3).1 (TX1 3).2.1 (TX1 3).2.2.1 ∈ mc_WS := sg1 (List.mem_of_getElem? (i := 128) rfl) rfl
set_option maxRecDepth 20000 in
theorem fX1_15 : mc_FL RX1 15 1 3 := ⟨RX1, TX1, 6, tyX1, mcf1, by decide, lX1_15⟩
set_option maxRecDepth 20000 in
theorem pX1_15 : mc_FP RX1 15 1 3 (tyX1 3) true := ⟨RX1, TX1, 6, tyX1, mcf1, by decide, lX1_15, tyX1_ok 3 (by decide), rfl, rfl⟩
set_option maxRecDepth 20000 in
theorem lX1_18 : Cond.fieldLink RX1 18 (TX1 4).1 (TX1 4).2.1 (TX1 4).2.2.1 ∈ mc_WS := sg1 (List.mem_of_getElem? (i := 129) rfl) rfl
set_option maxRecDepth 20000 in
theorem fX1_18 : mc_FL RX1 18 1 4 := ⟨RX1, TX1, 6, tyX1, mcf1, by decide, lX1_18⟩
set_option maxRecDepth 20000 in
theorem pX1_18 : mc_FP RX1 18 1 4 (tyX1 4) true := ⟨RX1, TX1, 6, tyX1, mcf1, by decide, lX1_18, tyX1_ok 4 (by decide), rfl, rfl⟩
set_option maxRecDepth 20000 in
theorem lX1_61 : Cond.fieldLink RX1 61 (TX1 5).1 (TX1 5).2.1 (TX1 5).2.2.1 ∈ mc_WS := sg1 (List.mem_of_getElem? (i := 130) rfl) rfl
set_option maxRecDepth 20000 in
theorem fX1_61 : mc_FL RX1 61 1 5 := ⟨RX1, TX1, 6, tyX1, mcf1, by decide, lX1_61⟩
set_option maxRecDepth 20000 in
theorem pX1_61 : mc_FP RX1 61 1 5 (tyX1 5) false := ⟨RX1, TX1, 6, tyX1, mcf1, by decide, lX1_61, tyX1_ok 5 (by decide), rfl, rfl⟩
set_option maxRecDepth 20000 in
theorem nv_RX3 : (RX3 ≠ "java/lang/invoke/MethodHandle" ∧ RX3 ≠ "java/lang/invoke/VarHandle") := ⟨by decide +kernel, by decide +kernel⟩
set_option maxRecDepth 20000 in
theorem kX6_75 : mc_CI RX6 75 yX3_init cX3_init 1 0 := ⟨⟨nv_RX3, pd_0, sg1 (List.mem_of_getElem? (i := 147) rfl) rfl, sg1 (List.mem_of_getElem? (i := 7) rfl) rfl⟩, sg1 (List.mem_of_getElem? (i := 145) rfl) rfl, sg1 (List.mem_of_getElem? (i := 146) rfl) rfl, rfl⟩
set_option maxRecDepth 20000 in
theorem oX3_3 : Cond.methodLink RX3 3 Lib.objectInit ∈ mc_WS := sg1 (List.mem_of_getElem? (i := 148) rfl) rfl
set_option maxRecDepth 20000 in
theorem lX3_9 : Cond.fieldLink RX3 9 (TX3 0).1 (TX3 0).2.1 (TX3 0).2.2.1 ∈ mc_WS := sg1 (List.mem_of_getElem? (i := 149) rfl) rfl
set_option maxRecDepth 20000 in
theorem fX3_9 : mc_FL RX3 9 3 0 := ⟨RX3, TX3, 3, tyX3, mcf3, by decide, lX3_9⟩
set_option maxRecDepth 20000 in
theorem pX3_9 : mc_FP RX3 9 3 0 (tyX3 0) true := ⟨RX3, TX3, 3, tyX3, mcf3, by decide, lX3_9, tyX3_ok 0 (by decide), rfl, rfl⟩
set_option maxRecDepth 20000 in
theorem lX3_15 : Cond.fieldLink RX3 15 (TX3 1).1 (TX3 1).2.1 (TX3 1).2.2.1 ∈ mc_WS := sg1 (List.mem_of_getElem? (i := 150) rfl) rfl
set_option maxRecDepth 20000 in
theorem fX3_15 : mc_FL RX3 15 3 1 := ⟨RX3, TX3, 3, tyX3, mcf3, by decide, lX3_15⟩
set_option maxRecDepth 20000 in
theorem pX3_15 : mc_FP RX3 15 3 1 (tyX3 1) false := ⟨RX3, TX3, 3, tyX3, mcf3, by decide, lX3_15, tyX3_ok 1 (by decide), rfl, rfl⟩
set_option maxRecDepth 20000 in
theorem lX3_28 : Cond.fieldLink RX3 28 (TX3 2).1 (TX3 2).2.1 (TX3 2).2.2.1 ∈ mc_WS := sg1 (List.mem_of_getElem? (i := 151) rfl) rfl
set_option maxRecDepth 20000 in
theorem fX3_28 : mc_FL RX3 28 3 2 := ⟨RX3, TX3, 3, tyX3, mcf3, by decide, lX3_28⟩
set_option maxRecDepth 20000 in
theorem pX3_28 : mc_FP RX3 28 3 2 (tyX3 2) false := ⟨RX3, TX3, 3, tyX3, mcf3, by decide, lX3_28, tyX3_ok 2 (by decide), rfl, rfl⟩
set_option maxRecDepth 20000 in
theorem lX6_7 : Cond.fieldLink RX6 7 (TX6 0).1 (TX6 0).2.1 (TX6 0).2.2.1 ∈ mc_WS := sg1 (List.mem_of_getElem? (i := 159) rfl) rfl
set_option maxRecDepth 20000 in
theorem fX6_7 : mc_FL RX6 7 6 0 := ⟨RX6, TX6, 14, tyX6, mcf6, by decide, lX6_7⟩
set_option maxRecDepth 20000 in
theorem pX6_7 : mc_FP RX6 7 6 0 (tyX6 0) false := ⟨RX6, TX6, 14, tyX6, mcf6, by decide, lX6_7, tyX6_ok 0 (by decide), rfl, rfl⟩
set_option maxRecDepth 20000 in
theorem lX6_13 : Cond.fieldLink RX6 13 (TX6 1).1 (TX6 1).2.1 (TX6 1).2.2.1 ∈ mc_WS := sg1 (List.mem_of_getElem? (i := 160) rfl) rfl
set_option maxRecDepth 20000 in
theorem fX6_13 : mc_FL RX6 13 6 1 := ⟨RX6, TX6, 14, tyX6, mcf6, by decide, lX6_13⟩
set_option maxRecDepth 20000 in
theorem pX6_13 : mc_FP RX6 13 6 1 (tyX6 1) false := ⟨RX6, TX6, 14, tyX6, mcf6, by decide, lX6_13, tyX6_ok 1 (by decide), rfl, rfl⟩
set_option maxRecDepth 20000 in
theorem lX6_76 : Cond.fieldLink RX6 76 (TX6 2).1 (TX6 2).2.1 (TX6 2).2.2.1 ∈ mc_WS := sg1 (List.mem_of_getElem? (i := 161) rfl) rfl
set_option maxRecDepth 20000 in
theorem fX6_76 : mc_FL RX6 76 6 2 := ⟨RX6, TX6, 14, tyX6, mcf6, by decide, lX6_76⟩
set_option maxRecDepth 20000 in
theorem pX6_76 : mc_FP RX6 76 6 2 (tyX6 2) false := ⟨RX6, TX6, 14, tyX6, mcf6, by decide, lX6_76, tyX6_ok 2 (by decide), rfl, rfl⟩
set_option maxRecDepth 20000 in
theorem lX6_16 : Cond.fieldLink RX6 16 (TX6 3).1 (TX6 3).2.1 (TX6 3).2.2.1 ∈ mc_WS := sg1 (List.mem_of_getElem? (i := 162) rfl) rfl
set_option maxRecDepth 20000 in
theorem fX6_16 : mc_FL RX6 16 6 3 := ⟨RX6, TX6, 14, tyX6, mcf6, by decide, lX6_16⟩
set_option maxRecDepth 20000 in
theorem pX6_16 : mc_FP RX6 16 6 3 (tyX6 3) true := ⟨RX6, TX6, 14, tyX6, mcf6, by decide, lX6_16, tyX6_ok 3 (by decide), rfl, rfl⟩
set_option maxRecDepth 20000 in
theorem lX6_20 : Cond.fieldLink RX6 20 (TX6 4).1 (TX6 4).2.1 (TX6 4).2.2.1 ∈ mc_WS := sg1 (List.mem_of_getElem? (i := 163) rfl) rfl
set_option maxRecDepth 20000 in
theorem fX6_20 : mc_FL RX6 20 6 4 := ⟨RX6, TX6, 14, tyX6, mcf6, by decide, lX6_20⟩
set_option maxRecDepth 20000 in
theorem pX6_20 : mc_FP RX6 20 6 4 (tyX6 4) true := ⟨RX6, TX6, 14, tyX6, mcf6, by decide, lX6_20, tyX6_ok 4 (by decide), rfl, rfl⟩
set_option maxRecDepth 20000 in
theorem lX6_28 : Cond.fieldLink RX6 28 (TX6 5).1 (TX6 5).2.1 (TX6 5).2.2.1 ∈ mc_WS := sg1 (List.mem_of_getElem? (i := 164) rfl) rfl
set_option maxRecDepth 20000 in
theorem fX6_28 : mc_FL RX6 28 6 5 := ⟨RX6, TX6, 14, tyX6, mcf6, by decide, lX6_28⟩
set_option maxRecDepth 20000 in
theorem pX6_28 : mc_FP RX6 28 6 5 (tyX6 5) true := ⟨RX6, TX6, 14, tyX6, mcf6, by decide, lX6_28, tyX6_ok 5 (by decide), rfl, rfl⟩
set_option maxRecDepth 20000 in
theorem lX6_32 : Cond.fieldLink RX6 32 (TX6 6).1 (TX6 6).2.1 (TX6 6).2.2.1 ∈ mc_WS := sg1 (List.mem_of_getElem? (i := 165) rfl) rfl
set_option maxRecDepth 20000 in
theorem fX6_32 : mc_FL RX6 32 6 6 := ⟨RX6, TX6, 14, tyX6, mcf6, by decide, lX6_32⟩
set_option maxRecDepth 20000 in
theorem pX6_32 : mc_FP RX6 32 6 6 (tyX6 6) true := ⟨RX6, TX6, 14, tyX6, mcf6, by decide, lX6_32, tyX6_ok 6 (by decide), rfl, rfl⟩
set_option maxRecDepth 20000 in
theorem lX6_36 : Cond.fieldLink RX6 36 (TX6 7).1 (TX6 7).2.1 (TX6 7).2.2.1 ∈ mc_WS := sg1 (List.mem_of_getElem? (i := 166) rfl) rfl
set_option maxRecDepth 20000 in
theorem fX6_36 : mc_FL RX6 36 6 7 := ⟨RX6, TX6, 14, tyX6, mcf6, by decide, lX6_36⟩
set_option maxRecDepth 20000 in
theorem pX6_36 : mc_FP RX6 36 6 7 (tyX6 7) false := ⟨RX6, TX6, 14, tyX6, mcf6, by decide, lX6_36, tyX6_ok 7 (by decide), rfl, rfl⟩
set_option maxRecDepth 20000 in
theorem lX6_79 : Cond.fieldLink RX6 79 (TX6 8).1 (TX6 8).2.1 (TX6 8).2.2.1 ∈ mc_WS := sg1 (List.mem_of_getElem? (i := 167) rfl) rfl
set_option maxRecDepth 20000 in
theorem fX6_79 : mc_FL RX6 79 6 8 := ⟨RX6, TX6, 14, tyX6, mcf6, by decide, lX6_79⟩
set_option maxRecDepth 20000 in
theorem pX6_79 : mc_FP RX6 79 6 8 (tyX6 8) false := ⟨RX6, TX6, 14, tyX6, mcf6, by decide, lX6_79, tyX6_ok 8 (by decide), rfl, rfl⟩
set_option maxRecDepth 20000 in
theorem lX6_42 : Cond.fieldLink RX6 42 (TX6 9).1 (TX6 9).2.1 (TX6 9).2.2.1 ∈ mc_WS := sg1 (List.mem_of_getElem? (i := 168) rfl) rfl
set_option maxRecDepth 20000 in
theorem fX6_42 : mc_FL RX6 42 6 9 := ⟨RX6, TX6, 14, tyX6, mcf6, by decide, lX6_42⟩
set_option maxRecDepth 20000 in
theorem pX6_42 : mc_FP RX6 42 6 9 (tyX6 9) true := ⟨RX6, TX6, 14, tyX6, mcf6, by decide, lX6_42, tyX6_ok 9 (by decide), rfl, rfl⟩
set_option maxRecDepth 20000 in
theorem lX6_48 : Cond.fieldLink RX6 48 (TX6 10).1 (TX6 10).2.1 (TX6 10).2.2.1 ∈ mc_WS := sg1 (List.mem_of_getElem? (i := 169) rfl) rfl
set_option maxRecDepth 20000 in
theorem fX6_48 : mc_FL RX6 48 6 10 := ⟨RX6, TX6, 14, tyX6, mcf6, by decide, lX6_48⟩
set_option maxRecDepth 20000 in
theorem pX6_48 : mc_FP RX6 48 6 10 (tyX6 10) true := ⟨RX6, TX6, 14, tyX6, mcf6, by decide, lX6_48, tyX6_ok 10 (by decide), rfl, rfl⟩
set_option maxRecDepth 20000 in
theorem lX6_55 : Cond.fieldLink RX6 55 (TX6 11).1 (TX6 11).2.1 (TX6 11).2.2.1 ∈ mc_WS := sg1 (List.mem_of_getElem? (i := 170) rfl) rfl
set_option maxRecDepth 20000 in
theorem fX6_55 : mc_FL RX6 55 6 11 := ⟨RX6, TX6, 14, tyX6, mcf6, by decide, lX6_55⟩
set_option maxRecDepth 20000 in
theorem pX6_55 : mc_FP RX6 55 6 11 (tyX6 11) true := ⟨RX6, TX6, 14, tyX6, mcf6, by decide, lX6_55, tyX6_ok 11 (by decide), rfl, rfl⟩
set_option maxRecDepth 20000 in
theorem lX6_62 : Cond.fieldLink RX6 62 (TX6 12).1 (TX6 12).2.1 (TX6 12).2.2.1 ∈ mc_WS := sg1 (List.mem_of_getElem? (i := 171) rfl) rfl
set_option maxRecDepth 20000 in
theorem fX6_62 : mc_FL RX6 62 6 12 := ⟨RX6, TX6, 14, tyX6, mcf6, by decide, lX6_62⟩
set_option maxRecDepth 20000 in
theorem pX6_62 : mc_FP RX6 62 6 12 (tyX6 12) true := ⟨RX6, TX6, 14, tyX6, mcf6, by decide, lX6_62, tyX6_ok 12 (by decide), rfl, rfl⟩
set_option maxRecDepth 20000 in
theorem lX6_71 : Cond.fieldLink RX6 71 (TX6 13).1 (TX6 13).2.1 (TX6 13).2.2.1 ∈ mc_WS := sg1 (List.mem_of_getElem? (i := 172) rfl) rfl
set_option maxRecDepth 20000 in
theorem fX6_71 : mc_FL RX6 71 6 13 := ⟨RX6, TX6, 14, tyX6, mcf6, by decide, lX6_71⟩
set_option maxRecDepth 20000 in
theorem pX6_71 : mc_FP RX6 71 6 13 (tyX6 13) true := ⟨RX6, TX6, 14, tyX6, mcf6, by decide, lX6_71, tyX6_ok 13 (by decide), rfl, rfl⟩
set_option maxRecDepth 20000 in
theorem pd_3 : (parseMethodDescriptor "(I)I").map (fun d => d.parameters.length) = some 1 := by decide +kernel
set_option maxRecDepth 20000 in
theorem kL_13 : mc_CV "NoZeroWithinLaw" 13 yX6_count cX6_count 2 (some .int) 1 := ⟨⟨nv_RX6, pd_3, sg1 (List.mem_of_getElem? (i := 205) rfl) rfl, sg1 (List.mem_of_getElem? (i := 1) rfl) rfl⟩, sg1 (List.mem_of_getElem? (i := 202) rfl) rfl, sg1 (List.mem_of_getElem? (i := 203) rfl) rfl, sg1 (List.mem_of_getElem? (i := 204) rfl) rfl⟩
set_option maxRecDepth 20000 in
theorem pd_4 : (parseMethodDescriptor "()I").map (fun d => d.parameters.length) = some 0 := by decide +kernel
set_option maxRecDepth 20000 in
theorem kX6_82 : mc_CV RX6 82 yX4_size cX4_size 1 (some .int) 0 := ⟨⟨nv_RX4, pd_4, sg1 (List.mem_of_getElem? (i := 209) rfl) rfl, sg1 (List.mem_of_getElem? (i := 3) rfl) rfl⟩, sg1 (List.mem_of_getElem? (i := 206) rfl) rfl, sg1 (List.mem_of_getElem? (i := 207) rfl) rfl, sg1 (List.mem_of_getElem? (i := 208) rfl) rfl⟩
set_option maxRecDepth 20000 in
theorem pd_5 : (parseMethodDescriptor "(II)I").map (fun d => d.parameters.length) = some 2 := by decide +kernel
set_option maxRecDepth 20000 in
theorem kL_18 : mc_CV "NoZeroWithinLaw" 18 yX6_set cX6_set 4 (some .int) 2 := ⟨⟨nv_RX6, pd_5, sg1 (List.mem_of_getElem? (i := 213) rfl) rfl, sg1 (List.mem_of_getElem? (i := 1) rfl) rfl⟩, sg1 (List.mem_of_getElem? (i := 210) rfl) rfl, sg1 (List.mem_of_getElem? (i := 211) rfl) rfl, sg1 (List.mem_of_getElem? (i := 212) rfl) rfl⟩
set_option maxRecDepth 20000 in
theorem pd_6 : (parseMethodDescriptor "(III)Z").map (fun d => d.parameters.length) = some 3 := by decide +kernel
set_option maxRecDepth 20000 in
theorem kX6_86 : mc_CS RX6 86 yX6_isWithin cX6_isWithin 3 (some .boolean) 3 := ⟨⟨nv_RX6, pd_6, sg1 (List.mem_of_getElem? (i := 216) rfl) rfl, sg1 (List.mem_of_getElem? (i := 1) rfl) rfl⟩, sg1 (List.mem_of_getElem? (i := 214) rfl) rfl, sg1 (List.mem_of_getElem? (i := 215) rfl) rfl⟩
set_option maxRecDepth 20000 in
theorem pd_7 : (parseMethodDescriptor "(I)Z").map (fun d => d.parameters.length) = some 1 := by decide +kernel
set_option maxRecDepth 20000 in
theorem kX6_90 : mc_CS RX6 90 yX6_isYear cX6_isYear 1 (some .boolean) 1 := ⟨⟨nv_RX6, pd_7, sg1 (List.mem_of_getElem? (i := 219) rfl) rfl, sg1 (List.mem_of_getElem? (i := 1) rfl) rfl⟩, sg1 (List.mem_of_getElem? (i := 217) rfl) rfl, sg1 (List.mem_of_getElem? (i := 218) rfl) rfl⟩
set_option maxRecDepth 20000 in
theorem pd_8 : (parseMethodDescriptor "(IIIIII)I").map (fun d => d.parameters.length) = some 6 := by decide +kernel
set_option maxRecDepth 20000 in
theorem kL_23 : mc_CV "NoZeroWithinLaw" 23 yX6_feed cX6_feed 7 (some .int) 6 := ⟨⟨nv_RX6, pd_8, sg1 (List.mem_of_getElem? (i := 223) rfl) rfl, sg1 (List.mem_of_getElem? (i := 1) rfl) rfl⟩, sg1 (List.mem_of_getElem? (i := 220) rfl) rfl, sg1 (List.mem_of_getElem? (i := 221) rfl) rfl, sg1 (List.mem_of_getElem? (i := 222) rfl) rfl⟩
set_option maxRecDepth 20000 in
theorem kX6_94 : mc_CS RX6 94 yX6_isByte cX6_isByte 1 (some .boolean) 1 := ⟨⟨nv_RX6, pd_7, sg1 (List.mem_of_getElem? (i := 226) rfl) rfl, sg1 (List.mem_of_getElem? (i := 1) rfl) rfl⟩, sg1 (List.mem_of_getElem? (i := 224) rfl) rfl, sg1 (List.mem_of_getElem? (i := 225) rfl) rfl⟩
set_option maxRecDepth 20000 in
theorem pd_9 : (parseMethodDescriptor "(I)V").map (fun d => d.parameters.length) = some 1 := by decide +kernel
set_option maxRecDepth 20000 in
theorem kX6_97 : mc_CV RX6 97 yX4_append cX4_append 2 none 1 := ⟨⟨nv_RX4, pd_9, sg1 (List.mem_of_getElem? (i := 230) rfl) rfl, sg1 (List.mem_of_getElem? (i := 3) rfl) rfl⟩, sg1 (List.mem_of_getElem? (i := 227) rfl) rfl, sg1 (List.mem_of_getElem? (i := 228) rfl) rfl, sg1 (List.mem_of_getElem? (i := 229) rfl) rfl⟩
set_option maxRecDepth 20000 in
theorem kL_28 : mc_CV "NoZeroWithinLaw" 28 yX6_text cX6_text 3 (some .int) 0 := ⟨⟨nv_RX6, pd_4, sg1 (List.mem_of_getElem? (i := 234) rfl) rfl, sg1 (List.mem_of_getElem? (i := 1) rfl) rfl⟩, sg1 (List.mem_of_getElem? (i := 231) rfl) rfl, sg1 (List.mem_of_getElem? (i := 232) rfl) rfl, sg1 (List.mem_of_getElem? (i := 233) rfl) rfl⟩
set_option maxRecDepth 20000 in
theorem pd_10 : (parseMethodDescriptor "()Z").map (fun d => d.parameters.length) = some 0 := by decide +kernel
set_option maxRecDepth 20000 in
theorem kX6_101 : mc_CV RX6 101 yX4_isText cX4_isText 1 (some .boolean) 0 := ⟨⟨nv_RX4, pd_10, sg1 (List.mem_of_getElem? (i := 238) rfl) rfl, sg1 (List.mem_of_getElem? (i := 3) rfl) rfl⟩, sg1 (List.mem_of_getElem? (i := 235) rfl) rfl, sg1 (List.mem_of_getElem? (i := 236) rfl) rfl, sg1 (List.mem_of_getElem? (i := 237) rfl) rfl⟩
set_option maxRecDepth 20000 in
theorem kX4_28 : mc_CV RX4 28 yX4_goOn cX4_goOn 2 none 0 := ⟨⟨nv_RX4, pd_0, sg2 (List.mem_of_getElem? (i := 2) rfl) rfl, sg1 (List.mem_of_getElem? (i := 3) rfl) rfl⟩, sg1 (List.mem_of_getElem? (i := 239) rfl) rfl, sg2 (List.mem_of_getElem? (i := 1) rfl) rfl, mc_sel (pr1 (List.mem_of_getElem? (i := 0) rfl))⟩
set_option maxRecDepth 20000 in
theorem kX4_92 : mc_CV RX4 92 yX4_byteAt cX4_byteAt 2 (some .int) 1 := ⟨⟨nv_RX4, pd_3, sg2 (List.mem_of_getElem? (i := 6) rfl) rfl, sg1 (List.mem_of_getElem? (i := 3) rfl) rfl⟩, sg2 (List.mem_of_getElem? (i := 3) rfl) rfl, sg2 (List.mem_of_getElem? (i := 5) rfl) rfl, mc_sel (pr1 (List.mem_of_getElem? (i := 1) rfl))⟩
set_option maxRecDepth 20000 in
theorem kX4_96 : mc_CS RX4 96 yX4_isBlank cX4_isBlank 1 (some .boolean) 1 := ⟨⟨nv_RX4, pd_7, sg2 (List.mem_of_getElem? (i := 9) rfl) rfl, sg1 (List.mem_of_getElem? (i := 3) rfl) rfl⟩, sg2 (List.mem_of_getElem? (i := 7) rfl) rfl, sg2 (List.mem_of_getElem? (i := 8) rfl) rfl⟩
set_option maxRecDepth 20000 in
theorem kX4_99 : mc_CS RX4 99 yX4_isLetter cX4_isLetter 1 (some .boolean) 1 := ⟨⟨nv_RX4, pd_7, sg2 (List.mem_of_getElem? (i := 12) rfl) rfl, sg1 (List.mem_of_getElem? (i := 3) rfl) rfl⟩, sg2 (List.mem_of_getElem? (i := 10) rfl) rfl, sg2 (List.mem_of_getElem? (i := 11) rfl) rfl⟩
set_option maxRecDepth 20000 in
theorem kX4_102 : mc_CV RX4 102 yX4_wordToken cX4_wordToken 1 (some .int) 0 := ⟨⟨nv_RX4, pd_4, sg2 (List.mem_of_getElem? (i := 16) rfl) rfl, sg1 (List.mem_of_getElem? (i := 3) rfl) rfl⟩, sg2 (List.mem_of_getElem? (i := 13) rfl) rfl, sg2 (List.mem_of_getElem? (i := 15) rfl) rfl, mc_sel (pr1 (List.mem_of_getElem? (i := 2) rfl))⟩
set_option maxRecDepth 20000 in
theorem pd_11 : (parseMethodDescriptor "(Ljava/lang/String;)Z").map (fun d => d.parameters.length) = some 1 := by decide +kernel
set_option maxRecDepth 20000 in
theorem kX4_117 : mc_CV RX4 117 yX4_isWord cX4_isWord 3 (some .boolean) 1 := ⟨⟨nv_RX4, pd_11, sg2 (List.mem_of_getElem? (i := 21) rfl) rfl, sg1 (List.mem_of_getElem? (i := 3) rfl) rfl⟩, sg2 (List.mem_of_getElem? (i := 18) rfl) rfl, sg2 (List.mem_of_getElem? (i := 20) rfl) rfl, mc_sel (pr1 (List.mem_of_getElem? (i := 3) rfl))⟩
set_option maxRecDepth 20000 in
theorem nv_RJ0 : (RJ0 ≠ "java/lang/invoke/MethodHandle" ∧ RJ0 ≠ "java/lang/invoke/VarHandle") := ⟨by decide +kernel, by decide +kernel⟩
set_option maxRecDepth 20000 in
theorem kX4_143 : mc_CV RX4 143 yJ0_length_8abf5 cJ0_length_8abf5 1 (some .int) 0 := ⟨⟨nv_RJ0, pd_4, sg2 (List.mem_of_getElem? (i := 25) rfl) rfl, sg1 (List.mem_of_getElem? (i := 9) rfl) rfl⟩, sg2 (List.mem_of_getElem? (i := 22) rfl) rfl, sg2 (List.mem_of_getElem? (i := 23) rfl) rfl, sg2 (List.mem_of_getElem? (i := 24) rfl) rfl⟩
set_option maxRecDepth 20000 in
theorem pd_12 : (parseMethodDescriptor "()B").map (fun d => d.parameters.length) = some 0 := by decide +kernel
set_option maxRecDepth 20000 in
theorem kJ0_335 : mc_CV RJ0 335 yJ0_coder_7d493 cJ0_coder_7d493 1 (some .byte) 0 := ⟨⟨nv_RJ0, pd_12, sg2 (List.mem_of_getElem? (i := 29) rfl) rfl, sg1 (List.mem_of_getElem? (i := 9) rfl) rfl⟩, sg2 (List.mem_of_getElem? (i := 26) rfl) rfl, sg2 (List.mem_of_getElem? (i := 27) rfl) rfl, sg2 (List.mem_of_getElem? (i := 28) rfl) rfl⟩
set_option maxRecDepth 20000 in
theorem sJ0_38 : Cond.fieldLink RJ0 38 "java/lang/String" "COMPACT_STRINGS" "Z" ∈ mc_WS := sg2 (List.mem_of_getElem? (i := 30) rfl) rfl
set_option maxRecDepth 20000 in
theorem pd_13 : (parseMethodDescriptor "(I)C").map (fun d => d.parameters.length) = some 1 := by decide +kernel
set_option maxRecDepth 20000 in
theorem kX4_148 : mc_CV RX4 148 yJ0_charAt_5068e cJ0_charAt_5068e 2 (some .char) 1 := ⟨⟨nv_RJ0, pd_13, sg2 (List.mem_of_getElem? (i := 35) rfl) rfl, sg1 (List.mem_of_getElem? (i := 9) rfl) rfl⟩, sg2 (List.mem_of_getElem? (i := 32) rfl) rfl, sg2 (List.mem_of_getElem? (i := 33) rfl) rfl, sg2 (List.mem_of_getElem? (i := 34) rfl) rfl⟩
set_option maxRecDepth 20000 in
theorem kJ0_492 : mc_CV RJ0 492 yJ0_isLatin1_aae02 cJ0_isLatin1_aae02 1 (some .boolean) 0 := ⟨⟨nv_RJ0, pd_10, sg2 (List.mem_of_getElem? (i := 39) rfl) rfl, sg1 (List.mem_of_getElem? (i := 9) rfl) rfl⟩, sg2 (List.mem_of_getElem? (i := 36) rfl) rfl, sg2 (List.mem_of_getElem? (i := 37) rfl) rfl, sg2 (List.mem_of_getElem? (i := 38) rfl) rfl⟩
set_option maxRecDepth 20000 in
theorem nv_RJ1 : (RJ1 ≠ "java/lang/invoke/MethodHandle" ∧ RJ1 ≠ "java/lang/invoke/VarHandle") := ⟨by decide +kernel, by decide +kernel⟩
set_option maxRecDepth 20000 in
theorem pd_14 : (parseMethodDescriptor "([BI)C").map (fun d => d.parameters.length) = some 2 := by decide +kernel
set_option maxRecDepth 20000 in
theorem kJ0_495 : mc_CS RJ0 495 yJ1_charAt_3b067 cJ1_charAt_3b067 2 (some .char) 2 := ⟨⟨nv_RJ1, pd_14, sg2 (List.mem_of_getElem? (i := 42) rfl) rfl, sg1 (List.mem_of_getElem? (i := 10) rfl) rfl⟩, sg2 (List.mem_of_getElem? (i := 40) rfl) rfl, sg2 (List.mem_of_getElem? (i := 41) rfl) rfl⟩
set_option maxRecDepth 20000 in
theorem pd_15 : (parseMethodDescriptor "(II)V").map (fun d => d.parameters.length) = some 2 := by decide +kernel
set_option maxRecDepth 20000 in
theorem kJ1_9 : mc_CS RJ1 9 yJ0_checkIndex_df160 cJ0_checkIndex_df160 2 none 2 := ⟨⟨nv_RJ0, pd_15, sg2 (List.mem_of_getElem? (i := 45) rfl) rfl, sg1 (List.mem_of_getElem? (i := 9) rfl) rfl⟩, sg2 (List.mem_of_getElem? (i := 43) rfl) rfl, sg2 (List.mem_of_getElem? (i := 44) rfl) rfl⟩
set_option maxRecDepth 20000 in
theorem sJ0_1053 : Cond.fieldLink RJ0 1053 "jdk/internal/util/Preconditions" "SIOOBE_FORMATTER" "Ljava/util/function/BiFunction;" ∈ mc_WS := sg2 (List.mem_of_getElem? (i := 46) rfl) rfl
set_option maxRecDepth 20000 in
theorem nv_RJ3 : (RJ3 ≠ "java/lang/invoke/MethodHandle" ∧ RJ3 ≠ "java/lang/invoke/VarHandle") := ⟨by decide +kernel, by decide +kernel⟩
set_option maxRecDepth 20000 in
theorem pd_16 : (parseMethodDescriptor "(IILjava/util/function/BiFunction;)I").map (fun d => d.parameters.length) = some 3 := by decide +kernel
set_option maxRecDepth 20000 in
theorem kJ0_1059 : mc_CS RJ0 1059 yJ3_checkIndex_8e157 cJ3_checkIndex_8e157 3 (some .int) 3 := ⟨⟨nv_RJ3, pd_16, sg2 (List.mem_of_getElem? (i := 50) rfl) rfl, sg1 (List.mem_of_getElem? (i := 11) rfl) rfl⟩, sg2 (List.mem_of_getElem? (i := 48) rfl) rfl, sg2 (List.mem_of_getElem? (i := 49) rfl) rfl⟩
set_option maxRecDepth 20000 in
theorem nv_RJ2 : (RJ2 ≠ "java/lang/invoke/MethodHandle" ∧ RJ2 ≠ "java/lang/invoke/VarHandle") := ⟨by decide +kernel, by decide +kernel⟩
set_option maxRecDepth 20000 in
theorem kJ0_498 : mc_CS RJ0 498 yJ2_charAt_3b067 cJ2_charAt_3b067 2 (some .char) 2 := ⟨⟨nv_RJ2, pd_14, sg2 (List.mem_of_getElem? (i := 53) rfl) rfl, sg1 (List.mem_of_getElem? (i := 12) rfl) rfl⟩, sg2 (List.mem_of_getElem? (i := 51) rfl) rfl, sg2 (List.mem_of_getElem? (i := 52) rfl) rfl⟩
set_option maxRecDepth 20000 in
theorem pd_17 : (parseMethodDescriptor "(I[B)V").map (fun d => d.parameters.length) = some 2 := by decide +kernel
set_option maxRecDepth 20000 in
theorem kJ2_67 : mc_CS RJ2 67 yJ2_checkIndex_2214a cJ2_checkIndex_2214a 2 none 2 := ⟨⟨nv_RJ2, pd_17, sg2 (List.mem_of_getElem? (i := 56) rfl) rfl, sg1 (List.mem_of_getElem? (i := 12) rfl) rfl⟩, sg2 (List.mem_of_getElem? (i := 54) rfl) rfl, sg2 (List.mem_of_getElem? (i := 55) rfl) rfl⟩
set_option maxRecDepth 20000 in
theorem pd_18 : (parseMethodDescriptor "([B)I").map (fun d => d.parameters.length) = some 1 := by decide +kernel
set_option maxRecDepth 20000 in
theorem kJ2_48 : mc_CS RJ2 48 yJ2_length_9d52b cJ2_length_9d52b 1 (some .int) 1 := ⟨⟨nv_RJ2, pd_18, sg2 (List.mem_of_getElem? (i := 59) rfl) rfl, sg1 (List.mem_of_getElem? (i := 12) rfl) rfl⟩, sg2 (List.mem_of_getElem? (i := 57) rfl) rfl, sg2 (List.mem_of_getElem? (i := 58) rfl) rfl⟩
set_option maxRecDepth 20000 in
theorem kJ2_414 : mc_CS RJ2 414 yJ0_checkIndex_df160 cJ0_checkIndex_df160 2 none 2 := ⟨⟨nv_RJ0, pd_15, sg2 (List.mem_of_getElem? (i := 45) rfl) rfl, sg1 (List.mem_of_getElem? (i := 9) rfl) rfl⟩, sg2 (List.mem_of_getElem? (i := 60) rfl) rfl, sg2 (List.mem_of_getElem? (i := 44) rfl) rfl⟩
set_option maxRecDepth 20000 in
theorem kJ2_71 : mc_CS RJ2 71 yJ2_getChar_3b067 cJ2_getChar_3b067 2 (some .char) 2 := ⟨⟨nv_RJ2, pd_14, sg2 (List.mem_of_getElem? (i := 63) rfl) rfl, sg1 (List.mem_of_getElem? (i := 12) rfl) rfl⟩, sg2 (List.mem_of_getElem? (i := 61) rfl) rfl, sg2 (List.mem_of_getElem? (i := 62) rfl) rfl⟩
set_option maxRecDepth 20000 in
theorem sJ2_44 : Cond.fieldLink RJ2 44 "java/lang/StringUTF16" "$assertionsDisabled" "Z" ∈ mc_WS := sg2 (List.mem_of_getElem? (i := 64) rfl) rfl
set_option maxRecDepth 20000 in
theorem sJ2_59 : Cond.fieldLink RJ2 59 "java/lang/StringUTF16" "HI_BYTE_SHIFT" "I" ∈ mc_WS := sg2 (List.mem_of_getElem? (i := 66) rfl) rfl
set_option maxRecDepth 20000 in
theorem sJ2_63 : Cond.fieldLink RJ2 63 "java/lang/StringUTF16" "LO_BYTE_SHIFT" "I" ∈ mc_WS := sg2 (List.mem_of_getElem? (i := 68) rfl) rfl
set_option maxRecDepth 20000 in
theorem kX4_106 : mc_CS RX4 106 yX4_isDigit cX4_isDigit 1 (some .boolean) 1 := ⟨⟨nv_RX4, pd_7, sg2 (List.mem_of_getElem? (i := 83) rfl) rfl, sg1 (List.mem_of_getElem? (i := 3) rfl) rfl⟩, sg2 (List.mem_of_getElem? (i := 81) rfl) rfl, sg2 (List.mem_of_getElem? (i := 82) rfl) rfl⟩
set_option maxRecDepth 20000 in
theorem kX4_109 : mc_CV RX4 109 yX4_numberToken cX4_numberToken 2 (some .int) 0 := ⟨⟨nv_RX4, pd_4, sg2 (List.mem_of_getElem? (i := 87) rfl) rfl, sg1 (List.mem_of_getElem? (i := 3) rfl) rfl⟩, sg2 (List.mem_of_getElem? (i := 84) rfl) rfl, sg2 (List.mem_of_getElem? (i := 86) rfl) rfl, mc_sel (pr1 (List.mem_of_getElem? (i := 4) rfl))⟩
set_option maxRecDepth 20000 in
theorem kX4_112 : mc_CS RX4 112 yX4_signToken cX4_signToken 1 (some .int) 1 := ⟨⟨nv_RX4, pd_3, sg2 (List.mem_of_getElem? (i := 90) rfl) rfl, sg1 (List.mem_of_getElem? (i := 3) rfl) rfl⟩, sg2 (List.mem_of_getElem? (i := 88) rfl) rfl, sg2 (List.mem_of_getElem? (i := 89) rfl) rfl⟩
set_option maxRecDepth 20000 in
theorem kX4_31 : mc_CV RX4 31 yX4_isPart cX4_isPart 2 (some .boolean) 1 := ⟨⟨nv_RX4, pd_7, sg2 (List.mem_of_getElem? (i := 94) rfl) rfl, sg1 (List.mem_of_getElem? (i := 3) rfl) rfl⟩, sg2 (List.mem_of_getElem? (i := 91) rfl) rfl, sg2 (List.mem_of_getElem? (i := 93) rfl) rfl, mc_sel (pr1 (List.mem_of_getElem? (i := 5) rfl))⟩
set_option maxRecDepth 20000 in
theorem kX4_67 : mc_CV RX4 67 yX4_isNext cX4_isNext 2 (some .boolean) 1 := ⟨⟨nv_RX4, pd_7, sg2 (List.mem_of_getElem? (i := 98) rfl) rfl, sg1 (List.mem_of_getElem? (i := 3) rfl) rfl⟩, sg2 (List.mem_of_getElem? (i := 95) rfl) rfl, sg2 (List.mem_of_getElem? (i := 97) rfl) rfl, mc_sel (pr1 (List.mem_of_getElem? (i := 6) rfl))⟩
set_option maxRecDepth 20000 in
theorem kX4_70 : mc_CV RX4 70 yX4_isE cX4_isE 3 (some .boolean) 1 := ⟨⟨nv_RX4, pd_7, sg2 (List.mem_of_getElem? (i := 102) rfl) rfl, sg1 (List.mem_of_getElem? (i := 3) rfl) rfl⟩, sg2 (List.mem_of_getElem? (i := 99) rfl) rfl, sg2 (List.mem_of_getElem? (i := 101) rfl) rfl, mc_sel (pr1 (List.mem_of_getElem? (i := 7) rfl))⟩
set_option maxRecDepth 20000 in
theorem kX4_73 : mc_CV RX4 73 yX4_isAnd cX4_isAnd 3 (some .boolean) 1 := ⟨⟨nv_RX4, pd_7, sg2 (List.mem_of_getElem? (i := 106) rfl) rfl, sg1 (List.mem_of_getElem? (i := 3) rfl) rfl⟩, sg2 (List.mem_of_getElem? (i := 103) rfl) rfl, sg2 (List.mem_of_getElem? (i := 105) rfl) rfl, mc_sel (pr1 (List.mem_of_getElem? (i := 8) rfl))⟩
set_option maxRecDepth 20000 in
theorem kX4_80 : mc_CV RX4 80 yX4_isNot cX4_isNot 3 (some .boolean) 1 := ⟨⟨nv_RX4, pd_7, sg2 (List.mem_of_getElem? (i := 110) rfl) rfl, sg1 (List.mem_of_getElem? (i := 3) rfl) rfl⟩, sg2 (List.mem_of_getElem? (i := 107) rfl) rfl, sg2 (List.mem_of_getElem? (i := 109) rfl) rfl, mc_sel (pr1 (List.mem_of_getElem? (i := 9) rfl))⟩
set_option maxRecDepth 20000 in
theorem kX4_76 : mc_CV RX4 76 yX4_put cX4_put 2 none 1 := ⟨⟨nv_RX4, pd_9, sg2 (List.mem_of_getElem? (i := 114) rfl) rfl, sg1 (List.mem_of_getElem? (i := 3) rfl) rfl⟩, sg2 (List.mem_of_getElem? (i := 111) rfl) rfl, sg2 (List.mem_of_getElem? (i := 113) rfl) rfl, mc_sel (pr1 (List.mem_of_getElem? (i := 10) rfl))⟩
set_option maxRecDepth 20000 in
theorem kX4_83 : mc_CV RX4 83 yX4_isSum cX4_isSum 4 (some .boolean) 1 := ⟨⟨nv_RX4, pd_7, sg2 (List.mem_of_getElem? (i := 118) rfl) rfl, sg1 (List.mem_of_getElem? (i := 3) rfl) rfl⟩, sg2 (List.mem_of_getElem? (i := 115) rfl) rfl, sg2 (List.mem_of_getElem? (i := 117) rfl) rfl, mc_sel (pr1 (List.mem_of_getElem? (i := 11) rfl))⟩
set_option maxRecDepth 20000 in
theorem kX4_86 : mc_CV RX4 86 yX4_isTerm cX4_isTerm 3 (some .boolean) 1 := ⟨⟨nv_RX4, pd_7, sg2 (List.mem_of_getElem? (i := 122) rfl) rfl, sg1 (List.mem_of_getElem? (i := 3) rfl) rfl⟩, sg2 (List.mem_of_getElem? (i := 119) rfl) rfl, sg2 (List.mem_of_getElem? (i := 121) rfl) rfl, mc_sel (pr1 (List.mem_of_getElem? (i := 12) rfl))⟩
set_option maxRecDepth 20000 in
theorem kX4_89 : mc_CV RX4 89 yX4_isOne cX4_isOne 2 (some .boolean) 1 := ⟨⟨nv_RX4, pd_7, sg2 (List.mem_of_getElem? (i := 126) rfl) rfl, sg1 (List.mem_of_getElem? (i := 3) rfl) rfl⟩, sg2 (List.mem_of_getElem? (i := 123) rfl) rfl, sg2 (List.mem_of_getElem? (i := 125) rfl) rfl, mc_sel (pr1 (List.mem_of_getElem? (i := 13) rfl))⟩
set_option maxRecDepth 20000 in
theorem kX6_105 : mc_CV RX6 105 yX4_becomeEmpty cX4_becomeEmpty 1 none 0 := ⟨⟨nv_RX4, pd_0, sg2 (List.mem_of_getElem? (i := 130) rfl) rfl, sg1 (List.mem_of_getElem? (i := 3) rfl) rfl⟩, sg2 (List.mem_of_getElem? (i := 127) rfl) rfl, sg2 (List.mem_of_getElem? (i := 128) rfl) rfl, sg2 (List.mem_of_getElem? (i := 129) rfl) rfl⟩
set_option maxRecDepth 20000 in
theorem kX6_108 : mc_CV RX6 108 yX4_faultPlace cX4_faultPlace 1 (some .int) 0 := ⟨⟨nv_RX4, pd_4, sg2 (List.mem_of_getElem? (i := 134) rfl) rfl, sg1 (List.mem_of_getElem? (i := 3) rfl) rfl⟩, sg2 (List.mem_of_getElem? (i := 131) rfl) rfl, sg2 (List.mem_of_getElem? (i := 132) rfl) rfl, sg2 (List.mem_of_getElem? (i := 133) rfl) rfl⟩
set_option maxRecDepth 20000 in
theorem pd_19 : (parseMethodDescriptor "()LNoZeroWithin$Text;").map (fun d => d.parameters.length) = some 0 := by decide +kernel
set_option maxRecDepth 20000 in
theorem kX6_111 : mc_CV RX6 111 yX4_result cX4_result 1 (some (.object "NoZeroWithin$Text")) 0 := ⟨⟨nv_RX4, pd_19, sg2 (List.mem_of_getElem? (i := 138) rfl) rfl, sg1 (List.mem_of_getElem? (i := 3) rfl) rfl⟩, sg2 (List.mem_of_getElem? (i := 135) rfl) rfl, sg2 (List.mem_of_getElem? (i := 136) rfl) rfl, sg2 (List.mem_of_getElem? (i := 137) rfl) rfl⟩
set_option maxRecDepth 20000 in
theorem nX4_47 : Cond.classLink RX4 47 RX5 ∈ mc_WS := sg2 (List.mem_of_getElem? (i := 139) rfl) rfl
set_option maxRecDepth 20000 in
theorem mX4_49 : mc_MF RX4 49 Lib.Math.min.name Lib.Math.min.code 2 (some .int) := ⟨sg2 (List.mem_of_getElem? (i := 140) rfl) rfl, sg2 (List.mem_of_getElem? (i := 141) rfl) rfl, sg1 (List.mem_of_getElem? (i := 13) rfl) rfl, sg2 (List.mem_of_getElem? (i := 142) rfl) rfl⟩
set_option maxRecDepth 20000 in
theorem mX4_55 : mc_MF RX4 55 Lib.Math.max.name Lib.Math.max.code 2 (some .int) := ⟨sg2 (List.mem_of_getElem? (i := 143) rfl) rfl, sg2 (List.mem_of_getElem? (i := 144) rfl) rfl, sg1 (List.mem_of_getElem? (i := 13) rfl) rfl, sg2 (List.mem_of_getElem? (i := 145) rfl) rfl⟩
set_option maxRecDepth 20000 in
theorem nv_RJ7 : (RJ7 ≠ "java/lang/invoke/MethodHandle" ∧ RJ7 ≠ "java/lang/invoke/VarHandle") := ⟨by decide +kernel, by decide +kernel⟩
set_option maxRecDepth 20000 in
theorem pd_20 : (parseMethodDescriptor "([II)[I").map (fun d => d.parameters.length) = some 2 := by decide +kernel
set_option maxRecDepth 20000 in
theorem kX4_58 : mc_CS RX4 58 yJ7_copyOf_59c91 cJ7_copyOf_59c91 3 (some (.array .int)) 2 := ⟨⟨nv_RJ7, pd_20, sg2 (List.mem_of_getElem? (i := 148) rfl) rfl, sg1 (List.mem_of_getElem? (i := 14) rfl) rfl⟩, sg2 (List.mem_of_getElem? (i := 146) rfl) rfl, sg2 (List.mem_of_getElem? (i := 147) rfl) rfl⟩
set_option maxRecDepth 20000 in
theorem nJ7_317 : Cond.classLink RJ7 317 "[I" ∈ mc_WS := sg2 (List.mem_of_getElem? (i := 155) rfl) rfl
set_option maxRecDepth 20000 in
theorem mJ7_304 : mc_MF RJ7 304 Lib.Math.min.name Lib.Math.min.code 2 (some .int) := ⟨sg2 (List.mem_of_getElem? (i := 156) rfl) rfl, sg2 (List.mem_of_getElem? (i := 141) rfl) rfl, sg1 (List.mem_of_getElem? (i := 13) rfl) rfl, sg2 (List.mem_of_getElem? (i := 142) rfl) rfl⟩
set_option maxRecDepth 20000 in
theorem oJ7_150 : Cond.methodLink RJ7 150 arraycopyName ∈ mc_WS := sg2 (List.mem_of_getElem? (i := 157) rfl) rfl
set_option maxRecDepth 20000 in
theorem kX4_64 : mc_CI RX4 64 yX5_init cX5_init 4 3 := ⟨⟨nv_RX5, pd_1, sg1 (List.mem_of_getElem? (i := 29) rfl) rfl, sg1 (List.mem_of_getElem? (i := 2) rfl) rfl⟩, sg2 (List.mem_of_getElem? (i := 160) rfl) rfl, sg1 (List.mem_of_getElem? (i := 28) rfl) rfl, rfl⟩
set_option maxRecDepth 20000 in
theorem kL_33 : mc_CV "NoZeroWithinLaw" 33 yX6_force cX6_force 3 (some .int) 1 := ⟨⟨nv_RX6, pd_3, sg2 (List.mem_of_getElem? (i := 165) rfl) rfl, sg1 (List.mem_of_getElem? (i := 1) rfl) rfl⟩, sg2 (List.mem_of_getElem? (i := 162) rfl) rfl, sg2 (List.mem_of_getElem? (i := 163) rfl) rfl, sg2 (List.mem_of_getElem? (i := 164) rfl) rfl⟩
set_option maxRecDepth 20000 in
theorem pd_21 : (parseMethodDescriptor "(IIII)I").map (fun d => d.parameters.length) = some 4 := by decide +kernel
set_option maxRecDepth 20000 in
theorem kL_37 : mc_CV "NoZeroWithinLaw" 37 yX6_asks cX6_asks 5 (some .int) 4 := ⟨⟨nv_RX6, pd_21, sg2 (List.mem_of_getElem? (i := 169) rfl) rfl, sg1 (List.mem_of_getElem? (i := 1) rfl) rfl⟩, sg2 (List.mem_of_getElem? (i := 166) rfl) rfl, sg2 (List.mem_of_getElem? (i := 167) rfl) rfl, sg2 (List.mem_of_getElem? (i := 168) rfl) rfl⟩
set_option maxRecDepth 20000 in
theorem kX6_115 : mc_CV RX6 115 yX6_isClerk cX6_isClerk 2 (some .boolean) 1 := ⟨⟨nv_RX6, pd_7, sg2 (List.mem_of_getElem? (i := 173) rfl) rfl, sg1 (List.mem_of_getElem? (i := 1) rfl) rfl⟩, sg2 (List.mem_of_getElem? (i := 170) rfl) rfl, sg2 (List.mem_of_getElem? (i := 172) rfl) rfl, mc_sel (pr1 (List.mem_of_getElem? (i := 14) rfl))⟩
set_option maxRecDepth 20000 in
theorem kX6_118 : mc_CS RX6 118 yX6_isNumber cX6_isNumber 1 (some .boolean) 1 := ⟨⟨nv_RX6, pd_7, sg2 (List.mem_of_getElem? (i := 176) rfl) rfl, sg1 (List.mem_of_getElem? (i := 1) rfl) rfl⟩, sg2 (List.mem_of_getElem? (i := 174) rfl) rfl, sg2 (List.mem_of_getElem? (i := 175) rfl) rfl⟩
set_option maxRecDepth 20000 in
theorem qX6_354 : Cond.constant RX6 354 99999 ∈ mc_WS := sg2 (List.mem_of_getElem? (i := 177) rfl) rfl
set_option maxRecDepth 20000 in
theorem pd_22 : (parseMethodDescriptor "(I)LNoZeroWithin$Hand;").map (fun d => d.parameters.length) = some 1 := by decide +kernel
set_option maxRecDepth 20000 in
theorem kX6_121 : mc_CV RX6 121 yX6_handOf cX6_handOf 3 (some (.object "NoZeroWithin$Hand")) 1 := ⟨⟨nv_RX6, pd_22, sg2 (List.mem_of_getElem? (i := 181) rfl) rfl, sg1 (List.mem_of_getElem? (i := 1) rfl) rfl⟩, sg2 (List.mem_of_getElem? (i := 178) rfl) rfl, sg2 (List.mem_of_getElem? (i := 180) rfl) rfl, mc_sel (pr1 (List.mem_of_getElem? (i := 15) rfl))⟩
set_option maxRecDepth 20000 in
theorem pd_23 : (parseMethodDescriptor "(III)V").map (fun d => d.parameters.length) = some 3 := by decide +kernel
set_option maxRecDepth 20000 in
theorem kX6_281 : mc_CV RX6 281 yX1_become cX1_become 4 none 3 := ⟨⟨nv_RX1, pd_23, sg2 (List.mem_of_getElem? (i := 185) rfl) rfl, sg1 (List.mem_of_getElem? (i := 6) rfl) rfl⟩, sg2 (List.mem_of_getElem? (i := 182) rfl) rfl, sg2 (List.mem_of_getElem? (i := 183) rfl) rfl, sg2 (List.mem_of_getElem? (i := 184) rfl) rfl⟩
set_option maxRecDepth 20000 in
theorem pd_24 : (parseMethodDescriptor "(I)LNoZeroWithin$Text;").map (fun d => d.parameters.length) = some 1 := by decide +kernel
set_option maxRecDepth 20000 in
theorem kX6_216 : mc_CV RX6 216 yX6_textAt cX6_textAt 3 (some (.object "NoZeroWithin$Text")) 1 := ⟨⟨nv_RX6, pd_24, sg2 (List.mem_of_getElem? (i := 189) rfl) rfl, sg1 (List.mem_of_getElem? (i := 1) rfl) rfl⟩, sg2 (List.mem_of_getElem? (i := 186) rfl) rfl, sg2 (List.mem_of_getElem? (i := 188) rfl) rfl, mc_sel (pr2 (List.mem_of_getElem? (i := 0) rfl))⟩
set_option maxRecDepth 20000 in
theorem pd_25 : (parseMethodDescriptor "(IILNoZeroWithin$Text;)V").map (fun d => d.parameters.length) = some 3 := by decide +kernel
set_option maxRecDepth 20000 in
theorem kX6_220 : mc_CV RX6 220 yX1_liveBy cX1_liveBy 4 none 3 := ⟨⟨nv_RX1, pd_25, sg2 (List.mem_of_getElem? (i := 193) rfl) rfl, sg1 (List.mem_of_getElem? (i := 6) rfl) rfl⟩, sg2 (List.mem_of_getElem? (i := 190) rfl) rfl, sg2 (List.mem_of_getElem? (i := 191) rfl) rfl, sg2 (List.mem_of_getElem? (i := 192) rfl) rfl⟩
set_option maxRecDepth 20000 in
theorem pd_26 : (parseMethodDescriptor "(III)I").map (fun d => d.parameters.length) = some 3 := by decide +kernel
set_option maxRecDepth 20000 in
theorem kX6_125 : mc_CV RX6 125 yX1_says cX1_says 5 (some .int) 3 := ⟨⟨nv_RX1, pd_26, sg2 (List.mem_of_getElem? (i := 197) rfl) rfl, sg1 (List.mem_of_getElem? (i := 6) rfl) rfl⟩, sg2 (List.mem_of_getElem? (i := 194) rfl) rfl, sg2 (List.mem_of_getElem? (i := 195) rfl) rfl, sg2 (List.mem_of_getElem? (i := 196) rfl) rfl⟩
set_option maxRecDepth 20000 in
theorem pd_27 : (parseMethodDescriptor "(I[I[I)I").map (fun d => d.parameters.length) = some 3 := by decide +kernel
set_option maxRecDepth 20000 in
theorem kX1_39 : mc_CV RX1 39 yX5_reckon cX5_reckon 10 (some .int) 3 := ⟨⟨nv_RX5, pd_27, sg2 (List.mem_of_getElem? (i := 201) rfl) rfl, sg1 (List.mem_of_getElem? (i := 2) rfl) rfl⟩, sg2 (List.mem_of_getElem? (i := 198) rfl) rfl, sg2 (List.mem_of_getElem? (i := 199) rfl) rfl, sg2 (List.mem_of_getElem? (i := 200) rfl) rfl⟩
set_option maxRecDepth 20000 in
theorem mX5_22 : mc_MF RX5 22 Lib.Math.max.name Lib.Math.max.code 2 (some .int) := ⟨sg2 (List.mem_of_getElem? (i := 202) rfl) rfl, sg2 (List.mem_of_getElem? (i := 144) rfl) rfl, sg1 (List.mem_of_getElem? (i := 13) rfl) rfl, sg2 (List.mem_of_getElem? (i := 145) rfl) rfl⟩
set_option maxRecDepth 20000 in
theorem pd_28 : (parseMethodDescriptor "(I[I)I").map (fun d => d.parameters.length) = some 2 := by decide +kernel
set_option maxRecDepth 20000 in
theorem kX5_28 : mc_CS RX5 28 yX5_nameValue cX5_nameValue 3 (some .int) 2 := ⟨⟨nv_RX5, pd_28, sg2 (List.mem_of_getElem? (i := 205) rfl) rfl, sg1 (List.mem_of_getElem? (i := 2) rfl) rfl⟩, sg2 (List.mem_of_getElem? (i := 203) rfl) rfl, sg2 (List.mem_of_getElem? (i := 204) rfl) rfl⟩
set_option maxRecDepth 20000 in
theorem kX5_32 : mc_CS RX5 32 yX5_joined cX5_joined 3 (some .int) 3 := ⟨⟨nv_RX5, pd_26, sg2 (List.mem_of_getElem? (i := 208) rfl) rfl, sg1 (List.mem_of_getElem? (i := 2) rfl) rfl⟩, sg2 (List.mem_of_getElem? (i := 206) rfl) rfl, sg2 (List.mem_of_getElem? (i := 207) rfl) rfl⟩
set_option maxRecDepth 20000 in
theorem qX1_45 : Cond.constant RX1 45 99999 ∈ mc_WS := sg2 (List.mem_of_getElem? (i := 209) rfl) rfl
set_option maxRecDepth 20000 in
theorem mX1_46 : mc_MF RX1 46 Lib.Math.min.name Lib.Math.min.code 2 (some .int) := ⟨sg2 (List.mem_of_getElem? (i := 210) rfl) rfl, sg2 (List.mem_of_getElem? (i := 141) rfl) rfl, sg1 (List.mem_of_getElem? (i := 13) rfl) rfl, sg2 (List.mem_of_getElem? (i := 142) rfl) rfl⟩
set_option maxRecDepth 20000 in
theorem mX1_29 : mc_MF RX1 29 Lib.Math.max.name Lib.Math.max.code 2 (some .int) := ⟨sg2 (List.mem_of_getElem? (i := 211) rfl) rfl, sg2 (List.mem_of_getElem? (i := 144) rfl) rfl, sg1 (List.mem_of_getElem? (i := 13) rfl) rfl, sg2 (List.mem_of_getElem? (i := 145) rfl) rfl⟩
set_option maxRecDepth 20000 in
theorem kL_42 : mc_CV "NoZeroWithinLaw" 42 yX6_clerk cX6_clerk 4 (some .int) 2 := ⟨⟨nv_RX6, pd_5, sg2 (List.mem_of_getElem? (i := 215) rfl) rfl, sg1 (List.mem_of_getElem? (i := 1) rfl) rfl⟩, sg2 (List.mem_of_getElem? (i := 212) rfl) rfl, sg2 (List.mem_of_getElem? (i := 213) rfl) rfl, sg2 (List.mem_of_getElem? (i := 214) rfl) rfl⟩
set_option maxRecDepth 20000 in
theorem kL_46 : mc_CV "NoZeroWithinLaw" 46 yX6_told cX6_told 3 (some .int) 2 := ⟨⟨nv_RX6, pd_5, sg2 (List.mem_of_getElem? (i := 219) rfl) rfl, sg1 (List.mem_of_getElem? (i := 1) rfl) rfl⟩, sg2 (List.mem_of_getElem? (i := 216) rfl) rfl, sg2 (List.mem_of_getElem? (i := 217) rfl) rfl, sg2 (List.mem_of_getElem? (i := 218) rfl) rfl⟩
set_option maxRecDepth 20000 in
theorem kX6_129 : mc_CV RX6 129 yX1_figures cX1_figures 2 (some .int) 0 := ⟨⟨nv_RX1, pd_4, sg2 (List.mem_of_getElem? (i := 223) rfl) rfl, sg1 (List.mem_of_getElem? (i := 6) rfl) rfl⟩, sg2 (List.mem_of_getElem? (i := 220) rfl) rfl, sg2 (List.mem_of_getElem? (i := 221) rfl) rfl, sg2 (List.mem_of_getElem? (i := 222) rfl) rfl⟩
set_option maxRecDepth 20000 in
theorem kX6_132 : mc_CV RX6 132 yX1_isTurned cX1_isTurned 1 (some .boolean) 0 := ⟨⟨nv_RX1, pd_10, sg2 (List.mem_of_getElem? (i := 227) rfl) rfl, sg1 (List.mem_of_getElem? (i := 6) rfl) rfl⟩, sg2 (List.mem_of_getElem? (i := 224) rfl) rfl, sg2 (List.mem_of_getElem? (i := 225) rfl) rfl, sg2 (List.mem_of_getElem? (i := 226) rfl) rfl⟩
set_option maxRecDepth 20000 in
theorem sX6_358 : Cond.fieldLink RX6 358 "NoZeroWithin" "KIND_ABOVE" "[I" ∈ mc_WS := sg2 (List.mem_of_getElem? (i := 231) rfl) rfl
set_option maxRecDepth 20000 in
theorem kL_50 : mc_CV "NoZeroWithinLaw" 50 yX6_figure cX6_figure 5 (some .int) 3 := ⟨⟨nv_RX6, pd_26, sg2 (List.mem_of_getElem? (i := 236) rfl) rfl, sg1 (List.mem_of_getElem? (i := 1) rfl) rfl⟩, sg2 (List.mem_of_getElem? (i := 233) rfl) rfl, sg2 (List.mem_of_getElem? (i := 234) rfl) rfl, sg2 (List.mem_of_getElem? (i := 235) rfl) rfl⟩
set_option maxRecDepth 20000 in
theorem kX6_135 : mc_CV RX6 135 yX1_write cX1_write 5 none 1 := ⟨⟨nv_RX1, pd_9, sg3 (List.mem_of_getElem? (i := 0) rfl) rfl, sg1 (List.mem_of_getElem? (i := 6) rfl) rfl⟩, sg2 (List.mem_of_getElem? (i := 237) rfl) rfl, sg2 (List.mem_of_getElem? (i := 238) rfl) rfl, sg2 (List.mem_of_getElem? (i := 239) rfl) rfl⟩
set_option maxRecDepth 20000 in
theorem kX1_53 : mc_CV RX1 53 yX1_figures cX1_figures 2 (some .int) 0 := ⟨⟨nv_RX1, pd_4, sg2 (List.mem_of_getElem? (i := 223) rfl) rfl, sg1 (List.mem_of_getElem? (i := 6) rfl) rfl⟩, sg3 (List.mem_of_getElem? (i := 1) rfl) rfl, sg2 (List.mem_of_getElem? (i := 221) rfl) rfl, sg2 (List.mem_of_getElem? (i := 222) rfl) rfl⟩
set_option maxRecDepth 20000 in
theorem kX1_57 : mc_CV RX1 57 yX1_makes cX1_makes 3 (some .int) 1 := ⟨⟨nv_RX1, pd_3, sg3 (List.mem_of_getElem? (i := 5) rfl) rfl, sg1 (List.mem_of_getElem? (i := 6) rfl) rfl⟩, sg3 (List.mem_of_getElem? (i := 2) rfl) rfl, sg3 (List.mem_of_getElem? (i := 3) rfl) rfl, sg3 (List.mem_of_getElem? (i := 4) rfl) rfl⟩
set_option maxRecDepth 20000 in
theorem kX1_49 : mc_CV RX1 49 yX1_says cX1_says 5 (some .int) 3 := ⟨⟨nv_RX1, pd_26, sg2 (List.mem_of_getElem? (i := 197) rfl) rfl, sg1 (List.mem_of_getElem? (i := 6) rfl) rfl⟩, sg3 (List.mem_of_getElem? (i := 6) rfl) rfl, sg2 (List.mem_of_getElem? (i := 195) rfl) rfl, sg2 (List.mem_of_getElem? (i := 196) rfl) rfl⟩
set_option maxRecDepth 20000 in
theorem kX1_64 : mc_CV RX1 64 yX1_isTurned cX1_isTurned 1 (some .boolean) 0 := ⟨⟨nv_RX1, pd_10, sg2 (List.mem_of_getElem? (i := 227) rfl) rfl, sg1 (List.mem_of_getElem? (i := 6) rfl) rfl⟩, sg3 (List.mem_of_getElem? (i := 7) rfl) rfl, sg2 (List.mem_of_getElem? (i := 225) rfl) rfl, sg2 (List.mem_of_getElem? (i := 226) rfl) rfl⟩
set_option maxRecDepth 20000 in
theorem kX1_68 : mc_CV RX1 68 yX1_turnRow cX1_turnRow 4 none 0 := ⟨⟨nv_RX1, pd_0, sg3 (List.mem_of_getElem? (i := 11) rfl) rfl, sg1 (List.mem_of_getElem? (i := 6) rfl) rfl⟩, sg3 (List.mem_of_getElem? (i := 8) rfl) rfl, sg3 (List.mem_of_getElem? (i := 10) rfl) rfl, mc_sel (pr2 (List.mem_of_getElem? (i := 1) rfl))⟩
set_option maxRecDepth 20000 in
theorem kX6_138 : mc_CV RX6 138 yX1_many cX1_many 1 (some .int) 0 := ⟨⟨nv_RX1, pd_4, sg3 (List.mem_of_getElem? (i := 15) rfl) rfl, sg1 (List.mem_of_getElem? (i := 6) rfl) rfl⟩, sg3 (List.mem_of_getElem? (i := 12) rfl) rfl, sg3 (List.mem_of_getElem? (i := 13) rfl) rfl, sg3 (List.mem_of_getElem? (i := 14) rfl) rfl⟩
set_option maxRecDepth 20000 in
theorem kX6_141 : mc_CV RX6 141 yX1_written cX1_written 2 (some .int) 1 := ⟨⟨nv_RX1, pd_3, sg3 (List.mem_of_getElem? (i := 19) rfl) rfl, sg1 (List.mem_of_getElem? (i := 6) rfl) rfl⟩, sg3 (List.mem_of_getElem? (i := 16) rfl) rfl, sg3 (List.mem_of_getElem? (i := 17) rfl) rfl, sg3 (List.mem_of_getElem? (i := 18) rfl) rfl⟩
set_option maxRecDepth 20000 in
theorem pd_29 : (parseMethodDescriptor "(II)J").map (fun d => d.parameters.length) = some 2 := by decide +kernel
set_option maxRecDepth 20000 in
theorem kL_55 : mc_CV "NoZeroWithinLaw" 55 yX6_reads cX6_reads 9 (some .long) 2 := ⟨⟨nv_RX6, pd_29, sg3 (List.mem_of_getElem? (i := 23) rfl) rfl, sg1 (List.mem_of_getElem? (i := 1) rfl) rfl⟩, sg3 (List.mem_of_getElem? (i := 20) rfl) rfl, sg3 (List.mem_of_getElem? (i := 21) rfl) rfl, sg3 (List.mem_of_getElem? (i := 22) rfl) rfl⟩
set_option maxRecDepth 20000 in
theorem qX6_145 : Cond.constantLong RX6 145 (-5) ∈ mc_WS := sg3 (List.mem_of_getElem? (i := 24) rfl) rfl
set_option maxRecDepth 20000 in
theorem qX6_147 : Cond.constantLong RX6 147 (-7) ∈ mc_WS := sg3 (List.mem_of_getElem? (i := 25) rfl) rfl
set_option maxRecDepth 20000 in
theorem pd_30 : (parseMethodDescriptor "(IZ)J").map (fun d => d.parameters.length) = some 2 := by decide +kernel
set_option maxRecDepth 20000 in
theorem kX6_149 : mc_CV RX6 149 yX1_readWith cX1_readWith 6 (some .long) 2 := ⟨⟨nv_RX1, pd_30, sg3 (List.mem_of_getElem? (i := 29) rfl) rfl, sg1 (List.mem_of_getElem? (i := 6) rfl) rfl⟩, sg3 (List.mem_of_getElem? (i := 26) rfl) rfl, sg3 (List.mem_of_getElem? (i := 27) rfl) rfl, sg3 (List.mem_of_getElem? (i := 28) rfl) rfl⟩
set_option maxRecDepth 20000 in
theorem kX1_71 : mc_CV RX1 71 yX1_written cX1_written 2 (some .int) 1 := ⟨⟨nv_RX1, pd_3, sg3 (List.mem_of_getElem? (i := 19) rfl) rfl, sg1 (List.mem_of_getElem? (i := 6) rfl) rfl⟩, sg3 (List.mem_of_getElem? (i := 30) rfl) rfl, sg3 (List.mem_of_getElem? (i := 17) rfl) rfl, sg3 (List.mem_of_getElem? (i := 18) rfl) rfl⟩
set_option maxRecDepth 20000 in
theorem qX1_88 : Cond.constantLong RX1 88 999999999999 ∈ mc_WS := sg3 (List.mem_of_getElem? (i := 31) rfl) rfl
set_option maxRecDepth 20000 in
theorem mX1_90 : mc_MF RX1 90 Lib.MathLoose.min_long.x Lib.MathLoose.min_long.code 4 (some .long) := ⟨sg3 (List.mem_of_getElem? (i := 32) rfl) rfl, sg3 (List.mem_of_getElem? (i := 33) rfl) rfl, sg1 (List.mem_of_getElem? (i := 13) rfl) rfl, sg3 (List.mem_of_getElem? (i := 34) rfl) rfl⟩
set_option maxRecDepth 20000 in
theorem kL_60 : mc_CV "NoZeroWithinLaw" 60 yX6_plain cX6_plain 4 (some .long) 2 := ⟨⟨nv_RX6, pd_29, sg3 (List.mem_of_getElem? (i := 38) rfl) rfl, sg1 (List.mem_of_getElem? (i := 1) rfl) rfl⟩, sg3 (List.mem_of_getElem? (i := 35) rfl) rfl, sg3 (List.mem_of_getElem? (i := 36) rfl) rfl, sg3 (List.mem_of_getElem? (i := 37) rfl) rfl⟩
set_option maxRecDepth 20000 in
theorem pd_31 : (parseMethodDescriptor "()J").map (fun d => d.parameters.length) = some 0 := by decide +kernel
set_option maxRecDepth 20000 in
theorem kX6_153 : mc_CV RX6 153 yX1_readPlainly cX1_readPlainly 1 (some .long) 0 := ⟨⟨nv_RX1, pd_31, sg3 (List.mem_of_getElem? (i := 42) rfl) rfl, sg1 (List.mem_of_getElem? (i := 6) rfl) rfl⟩, sg3 (List.mem_of_getElem? (i := 39) rfl) rfl, sg3 (List.mem_of_getElem? (i := 40) rfl) rfl, sg3 (List.mem_of_getElem? (i := 41) rfl) rfl⟩
set_option maxRecDepth 20000 in
theorem kX1_93 : mc_CV RX1 93 yX1_readWith cX1_readWith 6 (some .long) 2 := ⟨⟨nv_RX1, pd_30, sg3 (List.mem_of_getElem? (i := 29) rfl) rfl, sg1 (List.mem_of_getElem? (i := 6) rfl) rfl⟩, sg3 (List.mem_of_getElem? (i := 43) rfl) rfl, sg3 (List.mem_of_getElem? (i := 27) rfl) rfl, sg3 (List.mem_of_getElem? (i := 28) rfl) rfl⟩
set_option maxRecDepth 20000 in
theorem pd_32 : (parseMethodDescriptor "(III)J").map (fun d => d.parameters.length) = some 3 := by decide +kernel
set_option maxRecDepth 20000 in
theorem kL_64 : mc_CV "NoZeroWithinLaw" 64 yX6_adds cX6_adds 5 (some .long) 3 := ⟨⟨nv_RX6, pd_32, sg3 (List.mem_of_getElem? (i := 47) rfl) rfl, sg1 (List.mem_of_getElem? (i := 1) rfl) rfl⟩, sg3 (List.mem_of_getElem? (i := 44) rfl) rfl, sg3 (List.mem_of_getElem? (i := 45) rfl) rfl, sg3 (List.mem_of_getElem? (i := 46) rfl) rfl⟩
set_option maxRecDepth 20000 in
theorem kX6_157 : mc_CV RX6 157 yX1_makes cX1_makes 3 (some .int) 1 := ⟨⟨nv_RX1, pd_3, sg3 (List.mem_of_getElem? (i := 5) rfl) rfl, sg1 (List.mem_of_getElem? (i := 6) rfl) rfl⟩, sg3 (List.mem_of_getElem? (i := 48) rfl) rfl, sg3 (List.mem_of_getElem? (i := 3) rfl) rfl, sg3 (List.mem_of_getElem? (i := 4) rfl) rfl⟩
set_option maxRecDepth 20000 in
theorem kL_69 : mc_CV "NoZeroWithinLaw" 69 yX6_apart cX6_apart 8 (some .int) 3 := ⟨⟨nv_RX6, pd_26, sg3 (List.mem_of_getElem? (i := 52) rfl) rfl, sg1 (List.mem_of_getElem? (i := 1) rfl) rfl⟩, sg3 (List.mem_of_getElem? (i := 49) rfl) rfl, sg3 (List.mem_of_getElem? (i := 50) rfl) rfl, sg3 (List.mem_of_getElem? (i := 51) rfl) rfl⟩
set_option maxRecDepth 20000 in
theorem kX6_160 : mc_CS RX6 160 yX6_isTwofold cX6_isTwofold 1 (some .boolean) 1 := ⟨⟨nv_RX6, pd_7, sg3 (List.mem_of_getElem? (i := 55) rfl) rfl, sg1 (List.mem_of_getElem? (i := 1) rfl) rfl⟩, sg3 (List.mem_of_getElem? (i := 53) rfl) rfl, sg3 (List.mem_of_getElem? (i := 54) rfl) rfl⟩
set_option maxRecDepth 20000 in
theorem mX6_163 : mc_MF RX6 163 Lib.Math.abs.name Lib.Math.abs.code 1 (some .int) := ⟨sg3 (List.mem_of_getElem? (i := 56) rfl) rfl, sg3 (List.mem_of_getElem? (i := 57) rfl) rfl, sg1 (List.mem_of_getElem? (i := 13) rfl) rfl, sg3 (List.mem_of_getElem? (i := 58) rfl) rfl⟩
set_option maxRecDepth 20000 in
theorem kL_73 : mc_CV "NoZeroWithinLaw" 73 yX6_book cX6_book 13 (some .long) 3 := ⟨⟨nv_RX6, pd_32, sg3 (List.mem_of_getElem? (i := 62) rfl) rfl, sg1 (List.mem_of_getElem? (i := 1) rfl) rfl⟩, sg3 (List.mem_of_getElem? (i := 59) rfl) rfl, sg3 (List.mem_of_getElem? (i := 60) rfl) rfl, sg3 (List.mem_of_getElem? (i := 61) rfl) rfl⟩
set_option maxRecDepth 20000 in
theorem kX6_168 : mc_CV RX6 168 yX6_refusalOfBook cX6_refusalOfBook 5 (some .int) 1 := ⟨⟨nv_RX6, pd_3, sg3 (List.mem_of_getElem? (i := 66) rfl) rfl, sg1 (List.mem_of_getElem? (i := 1) rfl) rfl⟩, sg3 (List.mem_of_getElem? (i := 63) rfl) rfl, sg3 (List.mem_of_getElem? (i := 65) rfl) rfl, mc_sel (pr2 (List.mem_of_getElem? (i := 2) rfl))⟩
set_option maxRecDepth 20000 in
theorem kX6_228 : mc_CV RX6 228 yX6_refusalOfSheet cX6_refusalOfSheet 2 (some .int) 1 := ⟨⟨nv_RX6, pd_3, sg3 (List.mem_of_getElem? (i := 70) rfl) rfl, sg1 (List.mem_of_getElem? (i := 1) rfl) rfl⟩, sg3 (List.mem_of_getElem? (i := 67) rfl) rfl, sg3 (List.mem_of_getElem? (i := 69) rfl) rfl, mc_sel (pr2 (List.mem_of_getElem? (i := 3) rfl))⟩
set_option maxRecDepth 20000 in
theorem kX6_289 : mc_CS RX6 289 yX6_isSheet cX6_isSheet 1 (some .boolean) 1 := ⟨⟨nv_RX6, pd_7, sg3 (List.mem_of_getElem? (i := 73) rfl) rfl, sg1 (List.mem_of_getElem? (i := 1) rfl) rfl⟩, sg3 (List.mem_of_getElem? (i := 71) rfl) rfl, sg3 (List.mem_of_getElem? (i := 72) rfl) rfl⟩
set_option maxRecDepth 20000 in
theorem pd_33 : (parseMethodDescriptor "(I)LNoZeroWithin$Sheet;").map (fun d => d.parameters.length) = some 1 := by decide +kernel
set_option maxRecDepth 20000 in
theorem kX6_171 : mc_CV RX6 171 yX6_sheetAt cX6_sheetAt 2 (some (.object "NoZeroWithin$Sheet")) 1 := ⟨⟨nv_RX6, pd_33, sg3 (List.mem_of_getElem? (i := 77) rfl) rfl, sg1 (List.mem_of_getElem? (i := 1) rfl) rfl⟩, sg3 (List.mem_of_getElem? (i := 74) rfl) rfl, sg3 (List.mem_of_getElem? (i := 76) rfl) rfl, mc_sel (pr2 (List.mem_of_getElem? (i := 4) rfl))⟩
set_option maxRecDepth 20000 in
theorem kX6_332 : mc_CV RX6 332 yX3_isMissing cX3_isMissing 1 (some .boolean) 0 := ⟨⟨nv_RX3, pd_10, sg3 (List.mem_of_getElem? (i := 81) rfl) rfl, sg1 (List.mem_of_getElem? (i := 7) rfl) rfl⟩, sg3 (List.mem_of_getElem? (i := 78) rfl) rfl, sg3 (List.mem_of_getElem? (i := 79) rfl) rfl, sg3 (List.mem_of_getElem? (i := 80) rfl) rfl⟩
set_option maxRecDepth 20000 in
theorem kX6_198 : mc_CV RX6 198 yX3_size cX3_size 1 (some .int) 0 := ⟨⟨nv_RX3, pd_4, sg3 (List.mem_of_getElem? (i := 85) rfl) rfl, sg1 (List.mem_of_getElem? (i := 7) rfl) rfl⟩, sg3 (List.mem_of_getElem? (i := 82) rfl) rfl, sg3 (List.mem_of_getElem? (i := 83) rfl) rfl, sg3 (List.mem_of_getElem? (i := 84) rfl) rfl⟩
set_option maxRecDepth 20000 in
theorem kX6_199 : mc_CV RX6 199 yX3_at cX3_at 2 (some .int) 1 := ⟨⟨nv_RX3, pd_3, sg3 (List.mem_of_getElem? (i := 89) rfl) rfl, sg1 (List.mem_of_getElem? (i := 7) rfl) rfl⟩, sg3 (List.mem_of_getElem? (i := 86) rfl) rfl, sg3 (List.mem_of_getElem? (i := 87) rfl) rfl, sg3 (List.mem_of_getElem? (i := 88) rfl) rfl⟩
set_option maxRecDepth 20000 in
theorem kX3_37 : mc_CV RX3 37 yX3_has cX3_has 2 (some .boolean) 1 := ⟨⟨nv_RX3, pd_7, sg3 (List.mem_of_getElem? (i := 93) rfl) rfl, sg1 (List.mem_of_getElem? (i := 7) rfl) rfl⟩, sg3 (List.mem_of_getElem? (i := 90) rfl) rfl, sg3 (List.mem_of_getElem? (i := 91) rfl) rfl, sg3 (List.mem_of_getElem? (i := 92) rfl) rfl⟩
set_option maxRecDepth 20000 in
theorem pd_34 : (parseMethodDescriptor "(LNoZeroWithin$Sheet;LNoZeroWithin$Hand;)J").map (fun d => d.parameters.length) = some 2 := by decide +kernel
set_option maxRecDepth 20000 in
theorem kX6_175 : mc_CS RX6 175 yX6_madeOf cX6_madeOf 5 (some .long) 2 := ⟨⟨nv_RX6, pd_34, sg3 (List.mem_of_getElem? (i := 96) rfl) rfl, sg1 (List.mem_of_getElem? (i := 1) rfl) rfl⟩, sg3 (List.mem_of_getElem? (i := 94) rfl) rfl, sg3 (List.mem_of_getElem? (i := 95) rfl) rfl⟩
set_option maxRecDepth 20000 in
theorem pd_35 : (parseMethodDescriptor "(LNoZeroWithin$Sheet;)J").map (fun d => d.parameters.length) = some 1 := by decide +kernel
set_option maxRecDepth 20000 in
theorem kX6_179 : mc_CS RX6 179 yX6_oursOf cX6_oursOf 4 (some .long) 1 := ⟨⟨nv_RX6, pd_35, sg3 (List.mem_of_getElem? (i := 99) rfl) rfl, sg1 (List.mem_of_getElem? (i := 1) rfl) rfl⟩, sg3 (List.mem_of_getElem? (i := 97) rfl) rfl, sg3 (List.mem_of_getElem? (i := 98) rfl) rfl⟩
set_option maxRecDepth 20000 in
theorem mX6_183 : mc_MF RX6 183 Lib.MathLoose.abs_long.x Lib.MathLoose.abs_long.code 2 (some .long) := ⟨sg3 (List.mem_of_getElem? (i := 100) rfl) rfl, sg3 (List.mem_of_getElem? (i := 101) rfl) rfl, sg1 (List.mem_of_getElem? (i := 13) rfl) rfl, sg3 (List.mem_of_getElem? (i := 102) rfl) rfl⟩
set_option maxRecDepth 20000 in
theorem qX6_186 : Cond.constantLong RX6 186 99999 ∈ mc_WS := sg3 (List.mem_of_getElem? (i := 103) rfl) rfl
set_option maxRecDepth 20000 in
theorem mX6_188 : mc_MF RX6 188 Lib.MathLoose.min_long.x Lib.MathLoose.min_long.code 4 (some .long) := ⟨sg3 (List.mem_of_getElem? (i := 104) rfl) rfl, sg3 (List.mem_of_getElem? (i := 33) rfl) rfl, sg1 (List.mem_of_getElem? (i := 13) rfl) rfl, sg3 (List.mem_of_getElem? (i := 34) rfl) rfl⟩
set_option maxRecDepth 20000 in
theorem kL_77 : mc_CV "NoZeroWithinLaw" 77 yX6_who cX6_who 13 (some .long) 2 := ⟨⟨nv_RX6, pd_29, sg3 (List.mem_of_getElem? (i := 108) rfl) rfl, sg1 (List.mem_of_getElem? (i := 1) rfl) rfl⟩, sg3 (List.mem_of_getElem? (i := 105) rfl) rfl, sg3 (List.mem_of_getElem? (i := 106) rfl) rfl, sg3 (List.mem_of_getElem? (i := 107) rfl) rfl⟩
set_option maxRecDepth 20000 in
theorem qX6_192 : Cond.constantLong RX6 192 (-1) ∈ mc_WS := sg3 (List.mem_of_getElem? (i := 109) rfl) rfl
set_option maxRecDepth 20000 in
theorem kL_81 : mc_CV "NoZeroWithinLaw" 81 yX6_smuggled cX6_smuggled 15 (some .long) 3 := ⟨⟨nv_RX6, pd_32, sg3 (List.mem_of_getElem? (i := 113) rfl) rfl, sg1 (List.mem_of_getElem? (i := 1) rfl) rfl⟩, sg3 (List.mem_of_getElem? (i := 110) rfl) rfl, sg3 (List.mem_of_getElem? (i := 111) rfl) rfl, sg3 (List.mem_of_getElem? (i := 112) rfl) rfl⟩
set_option maxRecDepth 20000 in
theorem kX6_194 : mc_CV RX6 194 yX6_refusalOfBookBy cX6_refusalOfBookBy 4 (some .int) 2 := ⟨⟨nv_RX6, pd_5, sg3 (List.mem_of_getElem? (i := 117) rfl) rfl, sg1 (List.mem_of_getElem? (i := 1) rfl) rfl⟩, sg3 (List.mem_of_getElem? (i := 114) rfl) rfl, sg3 (List.mem_of_getElem? (i := 116) rfl) rfl, mc_sel (pr2 (List.mem_of_getElem? (i := 5) rfl))⟩
set_option maxRecDepth 20000 in
theorem kL_85 : mc_CV "NoZeroWithinLaw" 85 yX6_slip cX6_slip 14 (some .long) 3 := ⟨⟨nv_RX6, pd_32, sg3 (List.mem_of_getElem? (i := 121) rfl) rfl, sg1 (List.mem_of_getElem? (i := 1) rfl) rfl⟩, sg3 (List.mem_of_getElem? (i := 118) rfl) rfl, sg3 (List.mem_of_getElem? (i := 119) rfl) rfl, sg3 (List.mem_of_getElem? (i := 120) rfl) rfl⟩
set_option maxRecDepth 20000 in
theorem kX6_202 : mc_CV RX6 202 yX1_readHimself cX1_readHimself 1 (some .long) 0 := ⟨⟨nv_RX1, pd_31, sg3 (List.mem_of_getElem? (i := 125) rfl) rfl, sg1 (List.mem_of_getElem? (i := 6) rfl) rfl⟩, sg3 (List.mem_of_getElem? (i := 122) rfl) rfl, sg3 (List.mem_of_getElem? (i := 123) rfl) rfl, sg3 (List.mem_of_getElem? (i := 124) rfl) rfl⟩
set_option maxRecDepth 20000 in
theorem kX6_205 : mc_CV RX6 205 yX1_slipAt cX1_slipAt 3 none 1 := ⟨⟨nv_RX1, pd_9, sg3 (List.mem_of_getElem? (i := 129) rfl) rfl, sg1 (List.mem_of_getElem? (i := 6) rfl) rfl⟩, sg3 (List.mem_of_getElem? (i := 126) rfl) rfl, sg3 (List.mem_of_getElem? (i := 127) rfl) rfl, sg3 (List.mem_of_getElem? (i := 128) rfl) rfl⟩
set_option maxRecDepth 20000 in
theorem kX1_74 : mc_CV RX1 74 yX1_putBack cX1_putBack 3 none 2 := ⟨⟨nv_RX1, pd_15, sg3 (List.mem_of_getElem? (i := 133) rfl) rfl, sg1 (List.mem_of_getElem? (i := 6) rfl) rfl⟩, sg3 (List.mem_of_getElem? (i := 130) rfl) rfl, sg3 (List.mem_of_getElem? (i := 131) rfl) rfl, sg3 (List.mem_of_getElem? (i := 132) rfl) rfl⟩
set_option maxRecDepth 20000 in
theorem kX6_208 : mc_CV RX6 208 yX1_putBack cX1_putBack 3 none 2 := ⟨⟨nv_RX1, pd_15, sg3 (List.mem_of_getElem? (i := 133) rfl) rfl, sg1 (List.mem_of_getElem? (i := 6) rfl) rfl⟩, sg3 (List.mem_of_getElem? (i := 134) rfl) rfl, sg3 (List.mem_of_getElem? (i := 131) rfl) rfl, sg3 (List.mem_of_getElem? (i := 132) rfl) rfl⟩
set_option maxRecDepth 20000 in
theorem kL_89 : mc_CV "NoZeroWithinLaw" 89 yX6_sure cX6_sure 9 (some .long) 2 := ⟨⟨nv_RX6, pd_29, sg3 (List.mem_of_getElem? (i := 138) rfl) rfl, sg1 (List.mem_of_getElem? (i := 1) rfl) rfl⟩, sg3 (List.mem_of_getElem? (i := 135) rfl) rfl, sg3 (List.mem_of_getElem? (i := 136) rfl) rfl, sg3 (List.mem_of_getElem? (i := 137) rfl) rfl⟩
set_option maxRecDepth 20000 in
theorem qX6_212 : Cond.constantLong RX6 212 1000000000 ∈ mc_WS := sg3 (List.mem_of_getElem? (i := 139) rfl) rfl
set_option maxRecDepth 20000 in
theorem qX6_214 : Cond.constantLong RX6 214 100 ∈ mc_WS := sg3 (List.mem_of_getElem? (i := 140) rfl) rfl
set_option maxRecDepth 20000 in
theorem kL_93 : mc_CV "NoZeroWithinLaw" 93 yX6_shortest cX6_shortest 11 (some .int) 3 := ⟨⟨nv_RX6, pd_26, sg3 (List.mem_of_getElem? (i := 144) rfl) rfl, sg1 (List.mem_of_getElem? (i := 1) rfl) rfl⟩, sg3 (List.mem_of_getElem? (i := 141) rfl) rfl, sg3 (List.mem_of_getElem? (i := 142) rfl) rfl, sg3 (List.mem_of_getElem? (i := 143) rfl) rfl⟩
set_option maxRecDepth 20000 in
theorem pd_36 : (parseMethodDescriptor "(LNoZeroWithin$Sheet;LNoZeroWithin$Hand;)I").map (fun d => d.parameters.length) = some 2 := by decide +kernel
set_option maxRecDepth 20000 in
theorem kX6_224 : mc_CS RX6 224 yX6_figuresFor cX6_figuresFor 4 (some .int) 2 := ⟨⟨nv_RX6, pd_36, sg3 (List.mem_of_getElem? (i := 147) rfl) rfl, sg1 (List.mem_of_getElem? (i := 1) rfl) rfl⟩, sg3 (List.mem_of_getElem? (i := 145) rfl) rfl, sg3 (List.mem_of_getElem? (i := 146) rfl) rfl⟩
set_option maxRecDepth 20000 in
theorem kL_97 : mc_CV "NoZeroWithinLaw" 97 yX6_lend cX6_lend 5 (some .int) 3 := ⟨⟨nv_RX6, pd_26, sg3 (List.mem_of_getElem? (i := 151) rfl) rfl, sg1 (List.mem_of_getElem? (i := 1) rfl) rfl⟩, sg3 (List.mem_of_getElem? (i := 148) rfl) rfl, sg3 (List.mem_of_getElem? (i := 149) rfl) rfl, sg3 (List.mem_of_getElem? (i := 150) rfl) rfl⟩
set_option maxRecDepth 20000 in
theorem pd_37 : (parseMethodDescriptor "(II)Z").map (fun d => d.parameters.length) = some 2 := by decide +kernel
set_option maxRecDepth 20000 in
theorem kX6_231 : mc_CS RX6 231 yX6_areTwoFolk cX6_areTwoFolk 2 (some .boolean) 2 := ⟨⟨nv_RX6, pd_37, sg3 (List.mem_of_getElem? (i := 154) rfl) rfl, sg1 (List.mem_of_getElem? (i := 1) rfl) rfl⟩, sg3 (List.mem_of_getElem? (i := 152) rfl) rfl, sg3 (List.mem_of_getElem? (i := 153) rfl) rfl⟩
set_option maxRecDepth 20000 in
theorem kX6_355 : mc_CS RX6 355 yX6_isFolk cX6_isFolk 1 (some .boolean) 1 := ⟨⟨nv_RX6, pd_7, sg3 (List.mem_of_getElem? (i := 157) rfl) rfl, sg1 (List.mem_of_getElem? (i := 1) rfl) rfl⟩, sg3 (List.mem_of_getElem? (i := 155) rfl) rfl, sg3 (List.mem_of_getElem? (i := 156) rfl) rfl⟩
set_option maxRecDepth 20000 in
theorem kX6_235 : mc_CV RX6 235 yX0_of cX0_of 3 (some .int) 2 := ⟨⟨nv_RX0, pd_5, sg3 (List.mem_of_getElem? (i := 161) rfl) rfl, sg1 (List.mem_of_getElem? (i := 4) rfl) rfl⟩, sg3 (List.mem_of_getElem? (i := 158) rfl) rfl, sg3 (List.mem_of_getElem? (i := 159) rfl) rfl, sg3 (List.mem_of_getElem? (i := 160) rfl) rfl⟩
set_option maxRecDepth 20000 in
theorem kX6_238 : mc_CV RX6 238 yX0_become cX0_become 4 none 3 := ⟨⟨nv_RX0, pd_23, sg3 (List.mem_of_getElem? (i := 166) rfl) rfl, sg1 (List.mem_of_getElem? (i := 4) rfl) rfl⟩, sg3 (List.mem_of_getElem? (i := 163) rfl) rfl, sg3 (List.mem_of_getElem? (i := 164) rfl) rfl, sg3 (List.mem_of_getElem? (i := 165) rfl) rfl⟩
set_option maxRecDepth 20000 in
theorem kL_101 : mc_CV "NoZeroWithinLaw" 101 yX6_debt cX6_debt 3 (some .int) 2 := ⟨⟨nv_RX6, pd_5, sg3 (List.mem_of_getElem? (i := 171) rfl) rfl, sg1 (List.mem_of_getElem? (i := 1) rfl) rfl⟩, sg3 (List.mem_of_getElem? (i := 168) rfl) rfl, sg3 (List.mem_of_getElem? (i := 169) rfl) rfl, sg3 (List.mem_of_getElem? (i := 170) rfl) rfl⟩
set_option maxRecDepth 20000 in
theorem kL_105 : mc_CV "NoZeroWithinLaw" 105 yX6_pay cX6_pay 7 (some .int) 3 := ⟨⟨nv_RX6, pd_26, sg3 (List.mem_of_getElem? (i := 175) rfl) rfl, sg1 (List.mem_of_getElem? (i := 1) rfl) rfl⟩, sg3 (List.mem_of_getElem? (i := 172) rfl) rfl, sg3 (List.mem_of_getElem? (i := 173) rfl) rfl, sg3 (List.mem_of_getElem? (i := 174) rfl) rfl⟩
set_option maxRecDepth 20000 in
theorem mX6_242 : mc_MF RX6 242 Lib.Math.min.name Lib.Math.min.code 2 (some .int) := ⟨sg3 (List.mem_of_getElem? (i := 176) rfl) rfl, sg2 (List.mem_of_getElem? (i := 141) rfl) rfl, sg1 (List.mem_of_getElem? (i := 13) rfl) rfl, sg2 (List.mem_of_getElem? (i := 142) rfl) rfl⟩
set_option maxRecDepth 20000 in
theorem kL_109 : mc_CV "NoZeroWithinLaw" 109 yX6_rings cX6_rings 1 (some .int) 0 := ⟨⟨nv_RX6, pd_4, sg3 (List.mem_of_getElem? (i := 180) rfl) rfl, sg1 (List.mem_of_getElem? (i := 1) rfl) rfl⟩, sg3 (List.mem_of_getElem? (i := 177) rfl) rfl, sg3 (List.mem_of_getElem? (i := 178) rfl) rfl, sg3 (List.mem_of_getElem? (i := 179) rfl) rfl⟩
set_option maxRecDepth 20000 in
theorem kX6_244 : mc_CV RX6 244 yX0_ringBits cX0_ringBits 3 (some .int) 0 := ⟨⟨nv_RX0, pd_4, sg3 (List.mem_of_getElem? (i := 184) rfl) rfl, sg1 (List.mem_of_getElem? (i := 4) rfl) rfl⟩, sg3 (List.mem_of_getElem? (i := 181) rfl) rfl, sg3 (List.mem_of_getElem? (i := 182) rfl) rfl, sg3 (List.mem_of_getElem? (i := 183) rfl) rfl⟩
set_option maxRecDepth 20000 in
theorem kX0_26 : mc_CV RX0 26 yX0_of cX0_of 3 (some .int) 2 := ⟨⟨nv_RX0, pd_5, sg3 (List.mem_of_getElem? (i := 161) rfl) rfl, sg1 (List.mem_of_getElem? (i := 4) rfl) rfl⟩, sg3 (List.mem_of_getElem? (i := 185) rfl) rfl, sg3 (List.mem_of_getElem? (i := 159) rfl) rfl, sg3 (List.mem_of_getElem? (i := 160) rfl) rfl⟩
set_option maxRecDepth 20000 in
theorem kL_113 : mc_CV "NoZeroWithinLaw" 113 yX6_clear cX6_clear 1 (some .int) 0 := ⟨⟨nv_RX6, pd_4, sg3 (List.mem_of_getElem? (i := 189) rfl) rfl, sg1 (List.mem_of_getElem? (i := 1) rfl) rfl⟩, sg3 (List.mem_of_getElem? (i := 186) rfl) rfl, sg3 (List.mem_of_getElem? (i := 187) rfl) rfl, sg3 (List.mem_of_getElem? (i := 188) rfl) rfl⟩
set_option maxRecDepth 20000 in
theorem kX6_247 : mc_CV RX6 247 yX0_clearPairs cX0_clearPairs 5 (some .int) 0 := ⟨⟨nv_RX0, pd_4, sg3 (List.mem_of_getElem? (i := 193) rfl) rfl, sg1 (List.mem_of_getElem? (i := 4) rfl) rfl⟩, sg3 (List.mem_of_getElem? (i := 190) rfl) rfl, sg3 (List.mem_of_getElem? (i := 191) rfl) rfl, sg3 (List.mem_of_getElem? (i := 192) rfl) rfl⟩
set_option maxRecDepth 20000 in
theorem mX0_44 : mc_MF RX0 44 Lib.Math.min.name Lib.Math.min.code 2 (some .int) := ⟨sg3 (List.mem_of_getElem? (i := 194) rfl) rfl, sg2 (List.mem_of_getElem? (i := 141) rfl) rfl, sg1 (List.mem_of_getElem? (i := 13) rfl) rfl, sg2 (List.mem_of_getElem? (i := 142) rfl) rfl⟩
set_option maxRecDepth 20000 in
theorem kX0_49 : mc_CV RX0 49 yX0_lower cX0_lower 4 none 3 := ⟨⟨nv_RX0, pd_23, sg3 (List.mem_of_getElem? (i := 198) rfl) rfl, sg1 (List.mem_of_getElem? (i := 4) rfl) rfl⟩, sg3 (List.mem_of_getElem? (i := 195) rfl) rfl, sg3 (List.mem_of_getElem? (i := 197) rfl) rfl, mc_sel (pr2 (List.mem_of_getElem? (i := 6) rfl))⟩
set_option maxRecDepth 20000 in
theorem kX0_30 : mc_CV RX0 30 yX0_become cX0_become 4 none 3 := ⟨⟨nv_RX0, pd_23, sg3 (List.mem_of_getElem? (i := 166) rfl) rfl, sg1 (List.mem_of_getElem? (i := 4) rfl) rfl⟩, sg3 (List.mem_of_getElem? (i := 199) rfl) rfl, sg3 (List.mem_of_getElem? (i := 164) rfl) rfl, sg3 (List.mem_of_getElem? (i := 165) rfl) rfl⟩
set_option maxRecDepth 20000 in
theorem kX6_250 : mc_CV RX6 250 yX0_clearThrees cX0_clearThrees 5 (some .int) 0 := ⟨⟨nv_RX0, pd_4, sg3 (List.mem_of_getElem? (i := 203) rfl) rfl, sg1 (List.mem_of_getElem? (i := 4) rfl) rfl⟩, sg3 (List.mem_of_getElem? (i := 200) rfl) rfl, sg3 (List.mem_of_getElem? (i := 201) rfl) rfl, sg3 (List.mem_of_getElem? (i := 202) rfl) rfl⟩
set_option maxRecDepth 20000 in
theorem kX0_52 : mc_CV RX0 52 yX0_clearThree cX0_clearThree 5 (some .int) 3 := ⟨⟨nv_RX0, pd_26, sg3 (List.mem_of_getElem? (i := 207) rfl) rfl, sg1 (List.mem_of_getElem? (i := 4) rfl) rfl⟩, sg3 (List.mem_of_getElem? (i := 204) rfl) rfl, sg3 (List.mem_of_getElem? (i := 206) rfl) rfl, mc_sel (pr2 (List.mem_of_getElem? (i := 7) rfl))⟩
set_option maxRecDepth 20000 in
theorem kL_117 : mc_CV "NoZeroWithinLaw" 117 yX6_forgive cX6_forgive 7 (some .int) 1 := ⟨⟨nv_RX6, pd_3, sg3 (List.mem_of_getElem? (i := 211) rfl) rfl, sg1 (List.mem_of_getElem? (i := 1) rfl) rfl⟩, sg3 (List.mem_of_getElem? (i := 208) rfl) rfl, sg3 (List.mem_of_getElem? (i := 209) rfl) rfl, sg3 (List.mem_of_getElem? (i := 210) rfl) rfl⟩
set_option maxRecDepth 20000 in
theorem nv_RJ6 : (RJ6 ≠ "java/lang/invoke/MethodHandle" ∧ RJ6 ≠ "java/lang/invoke/VarHandle") := ⟨by decide +kernel, by decide +kernel⟩
set_option maxRecDepth 20000 in
theorem kX6_253 : mc_CS RX6 253 yJ6_bitCount_0f7a4 cJ6_bitCount_0f7a4 1 (some .int) 1 := ⟨⟨nv_RJ6, pd_3, sg3 (List.mem_of_getElem? (i := 214) rfl) rfl, sg1 (List.mem_of_getElem? (i := 16) rfl) rfl⟩, sg3 (List.mem_of_getElem? (i := 212) rfl) rfl, sg3 (List.mem_of_getElem? (i := 213) rfl) rfl⟩
set_option maxRecDepth 20000 in
theorem qJ6_265 : Cond.constant RJ6 265 1431655765 ∈ mc_WS := sg3 (List.mem_of_getElem? (i := 215) rfl) rfl
set_option maxRecDepth 20000 in
theorem qJ6_266 : Cond.constant RJ6 266 858993459 ∈ mc_WS := sg3 (List.mem_of_getElem? (i := 216) rfl) rfl
set_option maxRecDepth 20000 in
theorem qJ6_267 : Cond.constant RJ6 267 252645135 ∈ mc_WS := sg3 (List.mem_of_getElem? (i := 217) rfl) rfl
set_option maxRecDepth 20000 in
theorem kX6_258 : mc_CV RX6 258 yX0_ringFolkWithout cX0_ringFolkWithout 5 (some .int) 2 := ⟨⟨nv_RX0, pd_5, sg3 (List.mem_of_getElem? (i := 221) rfl) rfl, sg1 (List.mem_of_getElem? (i := 4) rfl) rfl⟩, sg3 (List.mem_of_getElem? (i := 218) rfl) rfl, sg3 (List.mem_of_getElem? (i := 219) rfl) rfl, sg3 (List.mem_of_getElem? (i := 220) rfl) rfl⟩
set_option maxRecDepth 20000 in
theorem kX0_34 : mc_CV RX0 34 yX0_ringBits cX0_ringBits 3 (some .int) 0 := ⟨⟨nv_RX0, pd_4, sg3 (List.mem_of_getElem? (i := 184) rfl) rfl, sg1 (List.mem_of_getElem? (i := 4) rfl) rfl⟩, sg3 (List.mem_of_getElem? (i := 222) rfl) rfl, sg3 (List.mem_of_getElem? (i := 182) rfl) rfl, sg3 (List.mem_of_getElem? (i := 183) rfl) rfl⟩
set_option maxRecDepth 20000 in
theorem kX0_38 : mc_CS RX0 38 yJ6_bitCount_0f7a4 cJ6_bitCount_0f7a4 1 (some .int) 1 := ⟨⟨nv_RJ6, pd_3, sg3 (List.mem_of_getElem? (i := 214) rfl) rfl, sg1 (List.mem_of_getElem? (i := 16) rfl) rfl⟩, sg3 (List.mem_of_getElem? (i := 223) rfl) rfl, sg3 (List.mem_of_getElem? (i := 213) rfl) rfl⟩
set_option maxRecDepth 20000 in
theorem kL_121 : mc_CV "NoZeroWithinLaw" 121 yX6_span cX6_span 3 (some .int) 2 := ⟨⟨nv_RX6, pd_5, sg3 (List.mem_of_getElem? (i := 227) rfl) rfl, sg1 (List.mem_of_getElem? (i := 1) rfl) rfl⟩, sg3 (List.mem_of_getElem? (i := 224) rfl) rfl, sg3 (List.mem_of_getElem? (i := 225) rfl) rfl, sg3 (List.mem_of_getElem? (i := 226) rfl) rfl⟩
set_option maxRecDepth 20000 in
theorem qX6_261 : Cond.constant RX6 261 (-100000) ∈ mc_WS := sg3 (List.mem_of_getElem? (i := 228) rfl) rfl
set_option maxRecDepth 20000 in
theorem kX6_262 : mc_CS RX6 262 yX6_placeOfYear cX6_placeOfYear 1 (some .int) 1 := ⟨⟨nv_RX6, pd_3, sg3 (List.mem_of_getElem? (i := 231) rfl) rfl, sg1 (List.mem_of_getElem? (i := 1) rfl) rfl⟩, sg3 (List.mem_of_getElem? (i := 229) rfl) rfl, sg3 (List.mem_of_getElem? (i := 230) rfl) rfl⟩
set_option maxRecDepth 20000 in
theorem kL_125 : mc_CV "NoZeroWithinLaw" 125 yX6_behind cX6_behind 4 (some .int) 2 := ⟨⟨nv_RX6, pd_5, sg3 (List.mem_of_getElem? (i := 235) rfl) rfl, sg1 (List.mem_of_getElem? (i := 1) rfl) rfl⟩, sg3 (List.mem_of_getElem? (i := 232) rfl) rfl, sg3 (List.mem_of_getElem? (i := 233) rfl) rfl, sg3 (List.mem_of_getElem? (i := 234) rfl) rfl⟩
set_option maxRecDepth 20000 in
theorem kX6_265 : mc_CS RX6 265 yX6_yearAtPlace cX6_yearAtPlace 1 (some .int) 1 := ⟨⟨nv_RX6, pd_3, sg3 (List.mem_of_getElem? (i := 238) rfl) rfl, sg1 (List.mem_of_getElem? (i := 1) rfl) rfl⟩, sg3 (List.mem_of_getElem? (i := 236) rfl) rfl, sg3 (List.mem_of_getElem? (i := 237) rfl) rfl⟩
set_option maxRecDepth 20000 in
theorem qX6_268 : Cond.constant RX6 268 (-100001) ∈ mc_WS := sg3 (List.mem_of_getElem? (i := 239) rfl) rfl
set_option maxRecDepth 20000 in
theorem kL_129 : mc_CV "NoZeroWithinLaw" 129 yX6_alike cX6_alike 10 (some .int) 3 := ⟨⟨nv_RX6, pd_26, sg4 (List.mem_of_getElem? (i := 3) rfl) rfl, sg1 (List.mem_of_getElem? (i := 1) rfl) rfl⟩, sg4 (List.mem_of_getElem? (i := 0) rfl) rfl, sg4 (List.mem_of_getElem? (i := 1) rfl) rfl, sg4 (List.mem_of_getElem? (i := 2) rfl) rfl⟩
set_option maxRecDepth 20000 in
theorem qX6_269 : Cond.constant RX6 269 (-100005) ∈ mc_WS := sg4 (List.mem_of_getElem? (i := 4) rfl) rfl
set_option maxRecDepth 20000 in
theorem qX6_270 : Cond.constant RX6 270 (-100007) ∈ mc_WS := sg4 (List.mem_of_getElem? (i := 5) rfl) rfl
set_option maxRecDepth 20000 in
theorem pd_38 : (parseMethodDescriptor "(LNoZeroWithin$Hand;I)I").map (fun d => d.parameters.length) = some 2 := by decide +kernel
set_option maxRecDepth 20000 in
theorem kX6_271 : mc_CS RX6 271 yX6_lastFigureOf cX6_lastFigureOf 2 (some .int) 2 := ⟨⟨nv_RX6, pd_38, sg4 (List.mem_of_getElem? (i := 8) rfl) rfl, sg1 (List.mem_of_getElem? (i := 1) rfl) rfl⟩, sg4 (List.mem_of_getElem? (i := 6) rfl) rfl, sg4 (List.mem_of_getElem? (i := 7) rfl) rfl⟩
set_option maxRecDepth 20000 in
theorem kL_133 : mc_CV "NoZeroWithinLaw" 133 yX6_judge cX6_judge 4 (some .int) 2 := ⟨⟨nv_RX6, pd_5, sg4 (List.mem_of_getElem? (i := 12) rfl) rfl, sg1 (List.mem_of_getElem? (i := 1) rfl) rfl⟩, sg4 (List.mem_of_getElem? (i := 9) rfl) rfl, sg4 (List.mem_of_getElem? (i := 10) rfl) rfl, sg4 (List.mem_of_getElem? (i := 11) rfl) rfl⟩
set_option maxRecDepth 20000 in
theorem kX6_275 : mc_CV RX6 275 yX6_refusalOfRowsBy cX6_refusalOfRowsBy 4 (some .int) 2 := ⟨⟨nv_RX6, pd_5, sg4 (List.mem_of_getElem? (i := 16) rfl) rfl, sg1 (List.mem_of_getElem? (i := 1) rfl) rfl⟩, sg4 (List.mem_of_getElem? (i := 13) rfl) rfl, sg4 (List.mem_of_getElem? (i := 15) rfl) rfl, mc_sel (pr2 (List.mem_of_getElem? (i := 8) rfl))⟩
set_option maxRecDepth 20000 in
theorem kX6_286 : mc_CV RX6 286 yX6_refusalOfRows cX6_refusalOfRows 5 (some .int) 1 := ⟨⟨nv_RX6, pd_3, sg4 (List.mem_of_getElem? (i := 20) rfl) rfl, sg1 (List.mem_of_getElem? (i := 1) rfl) rfl⟩, sg4 (List.mem_of_getElem? (i := 17) rfl) rfl, sg4 (List.mem_of_getElem? (i := 19) rfl) rfl, mc_sel (pr2 (List.mem_of_getElem? (i := 9) rfl))⟩
set_option maxRecDepth 20000 in
theorem kX6_278 : mc_CS RX6 278 yX6_firstOtherwise cX6_firstOtherwise 3 (some .int) 2 := ⟨⟨nv_RX6, pd_36, sg4 (List.mem_of_getElem? (i := 23) rfl) rfl, sg1 (List.mem_of_getElem? (i := 1) rfl) rfl⟩, sg4 (List.mem_of_getElem? (i := 21) rfl) rfl, sg4 (List.mem_of_getElem? (i := 22) rfl) rfl⟩
set_option maxRecDepth 20000 in
theorem kL_137 : mc_CV "NoZeroWithinLaw" 137 yX6_kinds cX6_kinds 9 (some .int) 3 := ⟨⟨nv_RX6, pd_26, sg4 (List.mem_of_getElem? (i := 27) rfl) rfl, sg1 (List.mem_of_getElem? (i := 1) rfl) rfl⟩, sg4 (List.mem_of_getElem? (i := 24) rfl) rfl, sg4 (List.mem_of_getElem? (i := 25) rfl) rfl, sg4 (List.mem_of_getElem? (i := 26) rfl) rfl⟩
set_option maxRecDepth 20000 in
theorem pd_39 : (parseMethodDescriptor "(ILNoZeroWithin$Sheet;LNoZeroWithin$Hand;)I").map (fun d => d.parameters.length) = some 3 := by decide +kernel
set_option maxRecDepth 20000 in
theorem kX6_282 : mc_CS RX6 282 yX6_bitOf cX6_bitOf 3 (some .int) 3 := ⟨⟨nv_RX6, pd_39, sg4 (List.mem_of_getElem? (i := 30) rfl) rfl, sg1 (List.mem_of_getElem? (i := 1) rfl) rfl⟩, sg4 (List.mem_of_getElem? (i := 28) rfl) rfl, sg4 (List.mem_of_getElem? (i := 29) rfl) rfl⟩
set_option maxRecDepth 20000 in
theorem kL_141 : mc_CV "NoZeroWithinLaw" 141 yX6_whose cX6_whose 5 (some .int) 1 := ⟨⟨nv_RX6, pd_3, sg4 (List.mem_of_getElem? (i := 34) rfl) rfl, sg1 (List.mem_of_getElem? (i := 1) rfl) rfl⟩, sg4 (List.mem_of_getElem? (i := 31) rfl) rfl, sg4 (List.mem_of_getElem? (i := 32) rfl) rfl, sg4 (List.mem_of_getElem? (i := 33) rfl) rfl⟩
set_option maxRecDepth 20000 in
theorem kL_145 : mc_CV "NoZeroWithinLaw" 145 yX6_laws cX6_laws 7 (some .int) 2 := ⟨⟨nv_RX6, pd_5, sg4 (List.mem_of_getElem? (i := 38) rfl) rfl, sg1 (List.mem_of_getElem? (i := 1) rfl) rfl⟩, sg4 (List.mem_of_getElem? (i := 35) rfl) rfl, sg4 (List.mem_of_getElem? (i := 36) rfl) rfl, sg4 (List.mem_of_getElem? (i := 37) rfl) rfl⟩
set_option maxRecDepth 20000 in
theorem kL_149 : mc_CV "NoZeroWithinLaw" 149 yX6_film cX6_film 11 (some .int) 4 := ⟨⟨nv_RX6, pd_21, sg4 (List.mem_of_getElem? (i := 42) rfl) rfl, sg1 (List.mem_of_getElem? (i := 1) rfl) rfl⟩, sg4 (List.mem_of_getElem? (i := 39) rfl) rfl, sg4 (List.mem_of_getElem? (i := 40) rfl) rfl, sg4 (List.mem_of_getElem? (i := 41) rfl) rfl⟩
set_option maxRecDepth 20000 in
theorem kX6_292 : mc_CV RX6 292 yX3_become cX3_become 3 none 2 := ⟨⟨nv_RX3, pd_15, sg4 (List.mem_of_getElem? (i := 46) rfl) rfl, sg1 (List.mem_of_getElem? (i := 7) rfl) rfl⟩, sg4 (List.mem_of_getElem? (i := 43) rfl) rfl, sg4 (List.mem_of_getElem? (i := 44) rfl) rfl, sg4 (List.mem_of_getElem? (i := 45) rfl) rfl⟩
set_option maxRecDepth 20000 in
theorem mX3_19 : mc_MF RX3 19 Lib.Math.min.name Lib.Math.min.code 2 (some .int) := ⟨sg4 (List.mem_of_getElem? (i := 47) rfl) rfl, sg2 (List.mem_of_getElem? (i := 141) rfl) rfl, sg1 (List.mem_of_getElem? (i := 13) rfl) rfl, sg2 (List.mem_of_getElem? (i := 142) rfl) rfl⟩
set_option maxRecDepth 20000 in
theorem mX3_25 : mc_MF RX3 25 Lib.Math.max.name Lib.Math.max.code 2 (some .int) := ⟨sg4 (List.mem_of_getElem? (i := 48) rfl) rfl, sg2 (List.mem_of_getElem? (i := 144) rfl) rfl, sg1 (List.mem_of_getElem? (i := 13) rfl) rfl, sg2 (List.mem_of_getElem? (i := 145) rfl) rfl⟩
set_option maxRecDepth 20000 in
theorem pd_40 : (parseMethodDescriptor "([II)V").map (fun d => d.parameters.length) = some 2 := by decide +kernel
set_option maxRecDepth 20000 in
theorem kX3_31 : mc_CS RX3 31 yJ7_fill_53178 cJ7_fill_53178 4 none 2 := ⟨⟨nv_RJ7, pd_40, sg4 (List.mem_of_getElem? (i := 51) rfl) rfl, sg1 (List.mem_of_getElem? (i := 14) rfl) rfl⟩, sg4 (List.mem_of_getElem? (i := 49) rfl) rfl, sg4 (List.mem_of_getElem? (i := 50) rfl) rfl⟩
set_option maxRecDepth 20000 in
theorem kX6_294 : mc_CV RX6 294 yX3_store cX3_store 3 none 2 := ⟨⟨nv_RX3, pd_15, sg4 (List.mem_of_getElem? (i := 55) rfl) rfl, sg1 (List.mem_of_getElem? (i := 7) rfl) rfl⟩, sg4 (List.mem_of_getElem? (i := 52) rfl) rfl, sg4 (List.mem_of_getElem? (i := 53) rfl) rfl, sg4 (List.mem_of_getElem? (i := 54) rfl) rfl⟩
set_option maxRecDepth 20000 in
theorem qX6_297 : Cond.constantLong RX6 297 2147483647 ∈ mc_WS := sg4 (List.mem_of_getElem? (i := 56) rfl) rfl
set_option maxRecDepth 20000 in
theorem kL_153 : mc_CV "NoZeroWithinLaw" 153 yX6_drawn cX6_drawn 6 (some .long) 3 := ⟨⟨nv_RX6, pd_32, sg4 (List.mem_of_getElem? (i := 60) rfl) rfl, sg1 (List.mem_of_getElem? (i := 1) rfl) rfl⟩, sg4 (List.mem_of_getElem? (i := 57) rfl) rfl, sg4 (List.mem_of_getElem? (i := 58) rfl) rfl, sg4 (List.mem_of_getElem? (i := 59) rfl) rfl⟩
set_option maxRecDepth 20000 in
theorem kX6_299 : mc_CV RX6 299 yX1_slipByLots cX1_slipByLots 6 none 2 := ⟨⟨nv_RX1, pd_15, sg4 (List.mem_of_getElem? (i := 64) rfl) rfl, sg1 (List.mem_of_getElem? (i := 6) rfl) rfl⟩, sg4 (List.mem_of_getElem? (i := 61) rfl) rfl, sg4 (List.mem_of_getElem? (i := 62) rfl) rfl, sg4 (List.mem_of_getElem? (i := 63) rfl) rfl⟩
set_option maxRecDepth 20000 in
theorem qX1_78 : Cond.constantLong RX1 78 48271 ∈ mc_WS := sg4 (List.mem_of_getElem? (i := 65) rfl) rfl
set_option maxRecDepth 20000 in
theorem qX1_80 : Cond.constantLong RX1 80 2147483647 ∈ mc_WS := sg4 (List.mem_of_getElem? (i := 66) rfl) rfl
set_option maxRecDepth 20000 in
theorem qX1_82 : Cond.constantLong RX1 82 100 ∈ mc_WS := sg4 (List.mem_of_getElem? (i := 67) rfl) rfl
set_option maxRecDepth 20000 in
theorem kX1_84 : mc_CV RX1 84 yX1_slipAt cX1_slipAt 3 none 1 := ⟨⟨nv_RX1, pd_9, sg3 (List.mem_of_getElem? (i := 129) rfl) rfl, sg1 (List.mem_of_getElem? (i := 6) rfl) rfl⟩, sg4 (List.mem_of_getElem? (i := 68) rfl) rfl, sg3 (List.mem_of_getElem? (i := 127) rfl) rfl, sg3 (List.mem_of_getElem? (i := 128) rfl) rfl⟩
set_option maxRecDepth 20000 in
theorem pd_41 : (parseMethodDescriptor "(IIIII)J").map (fun d => d.parameters.length) = some 5 := by decide +kernel
set_option maxRecDepth 20000 in
theorem kL_157 : mc_CV "NoZeroWithinLaw" 157 yX6_odds cX6_odds 13 (some .long) 5 := ⟨⟨nv_RX6, pd_41, sg4 (List.mem_of_getElem? (i := 72) rfl) rfl, sg1 (List.mem_of_getElem? (i := 1) rfl) rfl⟩, sg4 (List.mem_of_getElem? (i := 69) rfl) rfl, sg4 (List.mem_of_getElem? (i := 70) rfl) rfl, sg4 (List.mem_of_getElem? (i := 71) rfl) rfl⟩
set_option maxRecDepth 20000 in
theorem qX6_302 : Cond.constantLong RX6 302 (-4611686018427387904) ∈ mc_WS := sg4 (List.mem_of_getElem? (i := 73) rfl) rfl
set_option maxRecDepth 20000 in
theorem kX6_304 : mc_CS RX6 304 yX6_commonDivisor cX6_commonDivisor 3 (some .int) 2 := ⟨⟨nv_RX6, pd_5, sg4 (List.mem_of_getElem? (i := 76) rfl) rfl, sg1 (List.mem_of_getElem? (i := 1) rfl) rfl⟩, sg4 (List.mem_of_getElem? (i := 74) rfl) rfl, sg4 (List.mem_of_getElem? (i := 75) rfl) rfl⟩
set_option maxRecDepth 20000 in
theorem mX6_307 : mc_MF RX6 307 Lib.Math.max.name Lib.Math.max.code 2 (some .int) := ⟨sg4 (List.mem_of_getElem? (i := 77) rfl) rfl, sg2 (List.mem_of_getElem? (i := 144) rfl) rfl, sg1 (List.mem_of_getElem? (i := 13) rfl) rfl, sg2 (List.mem_of_getElem? (i := 145) rfl) rfl⟩
set_option maxRecDepth 20000 in
theorem kL_162 : mc_CV "NoZeroWithinLaw" 162 yX6_image cX6_image 1 (some .int) 0 := ⟨⟨nv_RX6, pd_4, sg4 (List.mem_of_getElem? (i := 81) rfl) rfl, sg1 (List.mem_of_getElem? (i := 1) rfl) rfl⟩, sg4 (List.mem_of_getElem? (i := 78) rfl) rfl, sg4 (List.mem_of_getElem? (i := 79) rfl) rfl, sg4 (List.mem_of_getElem? (i := 80) rfl) rfl⟩
set_option maxRecDepth 20000 in
theorem pd_42 : (parseMethodDescriptor "(IIIILNoZeroWithin$Debts;)V").map (fun d => d.parameters.length) = some 5 := by decide +kernel
set_option maxRecDepth 20000 in
theorem kX6_310 : mc_CV RX6 310 yX2_keep cX2_keep 6 none 5 := ⟨⟨nv_RX2, pd_42, sg4 (List.mem_of_getElem? (i := 85) rfl) rfl, sg1 (List.mem_of_getElem? (i := 5) rfl) rfl⟩, sg4 (List.mem_of_getElem? (i := 82) rfl) rfl, sg4 (List.mem_of_getElem? (i := 83) rfl) rfl, sg4 (List.mem_of_getElem? (i := 84) rfl) rfl⟩
set_option maxRecDepth 20000 in
theorem pd_43 : (parseMethodDescriptor "(LNoZeroWithin$Debts;)V").map (fun d => d.parameters.length) = some 1 := by decide +kernel
set_option maxRecDepth 20000 in
theorem kX2_33 : mc_CV RX2 33 yX0_copyTo cX0_copyTo 2 none 1 := ⟨⟨nv_RX0, pd_43, sg4 (List.mem_of_getElem? (i := 89) rfl) rfl, sg1 (List.mem_of_getElem? (i := 4) rfl) rfl⟩, sg4 (List.mem_of_getElem? (i := 86) rfl) rfl, sg4 (List.mem_of_getElem? (i := 87) rfl) rfl, sg4 (List.mem_of_getElem? (i := 88) rfl) rfl⟩
set_option maxRecDepth 20000 in
theorem oX0_56 : Cond.methodLink RX0 56 arraycopyName ∈ mc_WS := sg4 (List.mem_of_getElem? (i := 90) rfl) rfl
set_option maxRecDepth 20000 in
theorem kL_166 : mc_CV "NoZeroWithinLaw" 166 yX6_back cX6_back 1 (some .int) 0 := ⟨⟨nv_RX6, pd_4, sg4 (List.mem_of_getElem? (i := 94) rfl) rfl, sg1 (List.mem_of_getElem? (i := 1) rfl) rfl⟩, sg4 (List.mem_of_getElem? (i := 91) rfl) rfl, sg4 (List.mem_of_getElem? (i := 92) rfl) rfl, sg4 (List.mem_of_getElem? (i := 93) rfl) rfl⟩
set_option maxRecDepth 20000 in
theorem kX6_314 : mc_CV RX6 314 yX2_isThere cX2_isThere 1 (some .boolean) 0 := ⟨⟨nv_RX2, pd_10, sg4 (List.mem_of_getElem? (i := 98) rfl) rfl, sg1 (List.mem_of_getElem? (i := 5) rfl) rfl⟩, sg4 (List.mem_of_getElem? (i := 95) rfl) rfl, sg4 (List.mem_of_getElem? (i := 96) rfl) rfl, sg4 (List.mem_of_getElem? (i := 97) rfl) rfl⟩
set_option maxRecDepth 20000 in
theorem kX6_317 : mc_CV RX6 317 yX2_base cX2_base 1 (some .int) 0 := ⟨⟨nv_RX2, pd_4, sg4 (List.mem_of_getElem? (i := 102) rfl) rfl, sg1 (List.mem_of_getElem? (i := 5) rfl) rfl⟩, sg4 (List.mem_of_getElem? (i := 99) rfl) rfl, sg4 (List.mem_of_getElem? (i := 100) rfl) rfl, sg4 (List.mem_of_getElem? (i := 101) rfl) rfl⟩
set_option maxRecDepth 20000 in
theorem kX6_319 : mc_CV RX6 319 yX2_year cX2_year 1 (some .int) 0 := ⟨⟨nv_RX2, pd_4, sg4 (List.mem_of_getElem? (i := 106) rfl) rfl, sg1 (List.mem_of_getElem? (i := 5) rfl) rfl⟩, sg4 (List.mem_of_getElem? (i := 103) rfl) rfl, sg4 (List.mem_of_getElem? (i := 104) rfl) rfl, sg4 (List.mem_of_getElem? (i := 105) rfl) rfl⟩
set_option maxRecDepth 20000 in
theorem kX6_321 : mc_CV RX6 321 yX2_clerks cX2_clerks 1 (some .int) 0 := ⟨⟨nv_RX2, pd_4, sg4 (List.mem_of_getElem? (i := 110) rfl) rfl, sg1 (List.mem_of_getElem? (i := 5) rfl) rfl⟩, sg4 (List.mem_of_getElem? (i := 107) rfl) rfl, sg4 (List.mem_of_getElem? (i := 108) rfl) rfl, sg4 (List.mem_of_getElem? (i := 109) rfl) rfl⟩
set_option maxRecDepth 20000 in
theorem kX6_323 : mc_CV RX6 323 yX2_lawNumber cX2_lawNumber 1 (some .int) 0 := ⟨⟨nv_RX2, pd_4, sg4 (List.mem_of_getElem? (i := 114) rfl) rfl, sg1 (List.mem_of_getElem? (i := 5) rfl) rfl⟩, sg4 (List.mem_of_getElem? (i := 111) rfl) rfl, sg4 (List.mem_of_getElem? (i := 112) rfl) rfl, sg4 (List.mem_of_getElem? (i := 113) rfl) rfl⟩
set_option maxRecDepth 20000 in
theorem kX6_325 : mc_CV RX6 325 yX2_restore cX2_restore 2 none 1 := ⟨⟨nv_RX2, pd_43, sg4 (List.mem_of_getElem? (i := 118) rfl) rfl, sg1 (List.mem_of_getElem? (i := 5) rfl) rfl⟩, sg4 (List.mem_of_getElem? (i := 115) rfl) rfl, sg4 (List.mem_of_getElem? (i := 116) rfl) rfl, sg4 (List.mem_of_getElem? (i := 117) rfl) rfl⟩
set_option maxRecDepth 20000 in
theorem kL_170 : mc_CV "NoZeroWithinLaw" 170 yX6_sheet cX6_sheet 5 (some .int) 3 := ⟨⟨nv_RX6, pd_26, sg4 (List.mem_of_getElem? (i := 122) rfl) rfl, sg1 (List.mem_of_getElem? (i := 1) rfl) rfl⟩, sg4 (List.mem_of_getElem? (i := 119) rfl) rfl, sg4 (List.mem_of_getElem? (i := 120) rfl) rfl, sg4 (List.mem_of_getElem? (i := 121) rfl) rfl⟩
set_option maxRecDepth 20000 in
theorem kL_174 : mc_CV "NoZeroWithinLaw" 174 yX6_cell cX6_cell 6 (some .int) 3 := ⟨⟨nv_RX6, pd_26, sg4 (List.mem_of_getElem? (i := 126) rfl) rfl, sg1 (List.mem_of_getElem? (i := 1) rfl) rfl⟩, sg4 (List.mem_of_getElem? (i := 123) rfl) rfl, sg4 (List.mem_of_getElem? (i := 124) rfl) rfl, sg4 (List.mem_of_getElem? (i := 125) rfl) rfl⟩
set_option maxRecDepth 20000 in
theorem kX6_329 : mc_CV RX6 329 yX3_has cX3_has 2 (some .boolean) 1 := ⟨⟨nv_RX3, pd_7, sg3 (List.mem_of_getElem? (i := 93) rfl) rfl, sg1 (List.mem_of_getElem? (i := 7) rfl) rfl⟩, sg4 (List.mem_of_getElem? (i := 127) rfl) rfl, sg3 (List.mem_of_getElem? (i := 91) rfl) rfl, sg3 (List.mem_of_getElem? (i := 92) rfl) rfl⟩
set_option maxRecDepth 20000 in
theorem pd_44 : (parseMethodDescriptor "(IIIII)I").map (fun d => d.parameters.length) = some 5 := by decide +kernel
set_option maxRecDepth 20000 in
theorem kL_178 : mc_CV "NoZeroWithinLaw" 178 yX6_copy cX6_copy 8 (some .int) 5 := ⟨⟨nv_RX6, pd_44, sg4 (List.mem_of_getElem? (i := 131) rfl) rfl, sg1 (List.mem_of_getElem? (i := 1) rfl) rfl⟩, sg4 (List.mem_of_getElem? (i := 128) rfl) rfl, sg4 (List.mem_of_getElem? (i := 129) rfl) rfl, sg4 (List.mem_of_getElem? (i := 130) rfl) rfl⟩
set_option maxRecDepth 20000 in
theorem kX6_335 : mc_CV RX6 335 yX3_sort cX3_sort 1 (some .int) 0 := ⟨⟨nv_RX3, pd_4, sg4 (List.mem_of_getElem? (i := 135) rfl) rfl, sg1 (List.mem_of_getElem? (i := 7) rfl) rfl⟩, sg4 (List.mem_of_getElem? (i := 132) rfl) rfl, sg4 (List.mem_of_getElem? (i := 133) rfl) rfl, sg4 (List.mem_of_getElem? (i := 134) rfl) rfl⟩
set_option maxRecDepth 20000 in
theorem kX6_338 : mc_CV RX6 338 yX3_hasRun cX3_hasRun 3 (some .boolean) 2 := ⟨⟨nv_RX3, pd_37, sg4 (List.mem_of_getElem? (i := 139) rfl) rfl, sg1 (List.mem_of_getElem? (i := 7) rfl) rfl⟩, sg4 (List.mem_of_getElem? (i := 136) rfl) rfl, sg4 (List.mem_of_getElem? (i := 137) rfl) rfl, sg4 (List.mem_of_getElem? (i := 138) rfl) rfl⟩
set_option maxRecDepth 20000 in
theorem pd_45 : (parseMethodDescriptor "(LNoZeroWithin$Sheet;III)V").map (fun d => d.parameters.length) = some 4 := by decide +kernel
set_option maxRecDepth 20000 in
theorem kX6_341 : mc_CV RX6 341 yX3_copyTo cX3_copyTo 5 none 4 := ⟨⟨nv_RX3, pd_45, sg4 (List.mem_of_getElem? (i := 143) rfl) rfl, sg1 (List.mem_of_getElem? (i := 7) rfl) rfl⟩, sg4 (List.mem_of_getElem? (i := 140) rfl) rfl, sg4 (List.mem_of_getElem? (i := 141) rfl) rfl, sg4 (List.mem_of_getElem? (i := 142) rfl) rfl⟩
set_option maxRecDepth 20000 in
theorem kX3_41 : mc_CV RX3 41 yX3_hasRun cX3_hasRun 3 (some .boolean) 2 := ⟨⟨nv_RX3, pd_37, sg4 (List.mem_of_getElem? (i := 139) rfl) rfl, sg1 (List.mem_of_getElem? (i := 7) rfl) rfl⟩, sg4 (List.mem_of_getElem? (i := 144) rfl) rfl, sg4 (List.mem_of_getElem? (i := 137) rfl) rfl, sg4 (List.mem_of_getElem? (i := 138) rfl) rfl⟩
set_option maxRecDepth 20000 in
theorem oX3_45 : Cond.methodLink RX3 45 arraycopyName ∈ mc_WS := sg4 (List.mem_of_getElem? (i := 145) rfl) rfl
set_option maxRecDepth 20000 in
theorem kL_183 : mc_CV "NoZeroWithinLaw" 183 yX6_clerksBy cX6_clerksBy 9 (some .int) 4 := ⟨⟨nv_RX6, pd_21, sg4 (List.mem_of_getElem? (i := 149) rfl) rfl, sg1 (List.mem_of_getElem? (i := 1) rfl) rfl⟩, sg4 (List.mem_of_getElem? (i := 146) rfl) rfl, sg4 (List.mem_of_getElem? (i := 147) rfl) rfl, sg4 (List.mem_of_getElem? (i := 148) rfl) rfl⟩
set_option maxRecDepth 20000 in
theorem kX6_345 : mc_CV RX6 345 yX6_clerk cX6_clerk 4 (some .int) 2 := ⟨⟨nv_RX6, pd_5, sg2 (List.mem_of_getElem? (i := 215) rfl) rfl, sg1 (List.mem_of_getElem? (i := 1) rfl) rfl⟩, sg4 (List.mem_of_getElem? (i := 150) rfl) rfl, sg2 (List.mem_of_getElem? (i := 213) rfl) rfl, sg2 (List.mem_of_getElem? (i := 214) rfl) rfl⟩
set_option maxRecDepth 20000 in
theorem kL_187 : mc_CV "NoZeroWithinLaw" 187 yX6_taken cX6_taken 4 (some .int) 2 := ⟨⟨nv_RX6, pd_5, sg4 (List.mem_of_getElem? (i := 154) rfl) rfl, sg1 (List.mem_of_getElem? (i := 1) rfl) rfl⟩, sg4 (List.mem_of_getElem? (i := 151) rfl) rfl, sg4 (List.mem_of_getElem? (i := 152) rfl) rfl, sg4 (List.mem_of_getElem? (i := 153) rfl) rfl⟩
set_option maxRecDepth 20000 in
theorem kX6_348 : mc_CV RX6 348 yX0_allOf cX0_allOf 4 (some .int) 1 := ⟨⟨nv_RX0, pd_3, sg4 (List.mem_of_getElem? (i := 158) rfl) rfl, sg1 (List.mem_of_getElem? (i := 4) rfl) rfl⟩, sg4 (List.mem_of_getElem? (i := 155) rfl) rfl, sg4 (List.mem_of_getElem? (i := 156) rfl) rfl, sg4 (List.mem_of_getElem? (i := 157) rfl) rfl⟩
set_option maxRecDepth 20000 in
theorem kX6_351 : mc_CS RX6 351 yX6_isOfKind cX6_isOfKind 4 (some .boolean) 2 := ⟨⟨nv_RX6, pd_37, sg2 (List.mem_of_getElem? (i := 230) rfl) rfl, sg1 (List.mem_of_getElem? (i := 1) rfl) rfl⟩, sg4 (List.mem_of_getElem? (i := 159) rfl) rfl, sg2 (List.mem_of_getElem? (i := 229) rfl) rfl⟩
set_option maxRecDepth 20000 in
theorem nv_RX7 : (RX7 ≠ "java/lang/invoke/MethodHandle" ∧ RX7 ≠ "java/lang/invoke/VarHandle") := ⟨by decide +kernel, by decide +kernel⟩
set_option maxRecDepth 20000 in
theorem kL_12 : mc_CI "NoZeroWithinLaw" 12 yX7_init cX7_init 2 0 := ⟨⟨nv_RX7, pd_0, sg4 (List.mem_of_getElem? (i := 164) rfl) rfl, sg1 (List.mem_of_getElem? (i := 8) rfl) rfl⟩, sg4 (List.mem_of_getElem? (i := 162) rfl) rfl, sg4 (List.mem_of_getElem? (i := 163) rfl) rfl, rfl⟩
set_option maxRecDepth 20000 in
theorem oX7_1 : Cond.methodLink RX7 1 Lib.objectInit ∈ mc_WS := sg4 (List.mem_of_getElem? (i := 165) rfl) rfl
set_option maxRecDepth 20000 in
theorem kX7_68 : mc_CV RX7 68 yX7_text cX7_text 3 (some .int) 0 := ⟨⟨nv_RX7, pd_4, sg4 (List.mem_of_getElem? (i := 169) rfl) rfl, sg1 (List.mem_of_getElem? (i := 8) rfl) rfl⟩, sg4 (List.mem_of_getElem? (i := 166) rfl) rfl, sg4 (List.mem_of_getElem? (i := 167) rfl) rfl, sg4 (List.mem_of_getElem? (i := 168) rfl) rfl⟩
set_option maxRecDepth 20000 in
theorem kX7_132 : mc_CV RX7 132 yX7_next cX7_next 3 none 0 := ⟨⟨nv_RX7, pd_0, sg4 (List.mem_of_getElem? (i := 173) rfl) rfl, sg1 (List.mem_of_getElem? (i := 8) rfl) rfl⟩, sg4 (List.mem_of_getElem? (i := 170) rfl) rfl, sg4 (List.mem_of_getElem? (i := 172) rfl) rfl, mc_sel (pr2 (List.mem_of_getElem? (i := 10) rfl))⟩
set_option maxRecDepth 20000 in
theorem kX7_75 : mc_CS RX7 75 yX7_in cX7_in 3 (some .boolean) 3 := ⟨⟨nv_RX7, pd_6, sg4 (List.mem_of_getElem? (i := 176) rfl) rfl, sg1 (List.mem_of_getElem? (i := 8) rfl) rfl⟩, sg4 (List.mem_of_getElem? (i := 174) rfl) rfl, sg4 (List.mem_of_getElem? (i := 175) rfl) rfl⟩
set_option maxRecDepth 20000 in
theorem kX7_105 : mc_CV RX7 105 yX7_wordFrom cX7_wordFrom 6 (some .int) 2 := ⟨⟨nv_RX7, pd_5, sg4 (List.mem_of_getElem? (i := 180) rfl) rfl, sg1 (List.mem_of_getElem? (i := 8) rfl) rfl⟩, sg4 (List.mem_of_getElem? (i := 177) rfl) rfl, sg4 (List.mem_of_getElem? (i := 179) rfl) rfl, mc_sel (pr2 (List.mem_of_getElem? (i := 11) rfl))⟩
set_option maxRecDepth 20000 in
theorem kX7_145 : mc_CV RX7 145 yX7_eRead cX7_eRead 4 (some .boolean) 0 := ⟨⟨nv_RX7, pd_10, sg4 (List.mem_of_getElem? (i := 184) rfl) rfl, sg1 (List.mem_of_getElem? (i := 8) rfl) rfl⟩, sg4 (List.mem_of_getElem? (i := 181) rfl) rfl, sg4 (List.mem_of_getElem? (i := 183) rfl) rfl, mc_sel (pr2 (List.mem_of_getElem? (i := 12) rfl))⟩
set_option maxRecDepth 20000 in
theorem qX7_135 : Cond.constant RX7 135 100000 ∈ mc_WS := sg4 (List.mem_of_getElem? (i := 185) rfl) rfl
set_option maxRecDepth 20000 in
theorem kX7_122 : mc_CV RX7 122 yX7_puts cX7_puts 2 none 1 := ⟨⟨nv_RX7, pd_9, sg4 (List.mem_of_getElem? (i := 189) rfl) rfl, sg1 (List.mem_of_getElem? (i := 8) rfl) rfl⟩, sg4 (List.mem_of_getElem? (i := 186) rfl) rfl, sg4 (List.mem_of_getElem? (i := 188) rfl) rfl, mc_sel (pr2 (List.mem_of_getElem? (i := 13) rfl))⟩
set_option maxRecDepth 20000 in
theorem kX7_129 : mc_CV RX7 129 yX7_unwinds cX7_unwinds 3 none 1 := ⟨⟨nv_RX7, pd_9, sg4 (List.mem_of_getElem? (i := 193) rfl) rfl, sg1 (List.mem_of_getElem? (i := 8) rfl) rfl⟩, sg4 (List.mem_of_getElem? (i := 190) rfl) rfl, sg4 (List.mem_of_getElem? (i := 192) rfl) rfl, mc_sel (pr2 (List.mem_of_getElem? (i := 14) rfl))⟩
set_option maxRecDepth 20000 in
theorem kX7_115 : mc_CS RX7 115 yX7_rank cX7_rank 1 (some .int) 1 := ⟨⟨nv_RX7, pd_3, sg4 (List.mem_of_getElem? (i := 196) rfl) rfl, sg1 (List.mem_of_getElem? (i := 8) rfl) rfl⟩, sg4 (List.mem_of_getElem? (i := 194) rfl) rfl, sg4 (List.mem_of_getElem? (i := 195) rfl) rfl⟩
set_option maxRecDepth 20000 in
theorem kX7_136 : mc_CV RX7 136 yX7_opensOne cX7_opensOne 2 (some .boolean) 1 := ⟨⟨nv_RX7, pd_7, sg4 (List.mem_of_getElem? (i := 200) rfl) rfl, sg1 (List.mem_of_getElem? (i := 8) rfl) rfl⟩, sg4 (List.mem_of_getElem? (i := 197) rfl) rfl, sg4 (List.mem_of_getElem? (i := 199) rfl) rfl, mc_sel (pr2 (List.mem_of_getElem? (i := 15) rfl))⟩
set_option maxRecDepth 20000 in
theorem kX7_126 : mc_CV RX7 126 yX7_holds cX7_holds 2 none 1 := ⟨⟨nv_RX7, pd_9, sg4 (List.mem_of_getElem? (i := 204) rfl) rfl, sg1 (List.mem_of_getElem? (i := 8) rfl) rfl⟩, sg4 (List.mem_of_getElem? (i := 201) rfl) rfl, sg4 (List.mem_of_getElem? (i := 203) rfl) rfl, mc_sel (pr3 (List.mem_of_getElem? (i := 0) rfl))⟩
set_option maxRecDepth 20000 in
theorem kX7_139 : mc_CV RX7 139 yX7_signOf cX7_signOf 1 (some .int) 0 := ⟨⟨nv_RX7, pd_4, sg4 (List.mem_of_getElem? (i := 208) rfl) rfl, sg1 (List.mem_of_getElem? (i := 8) rfl) rfl⟩, sg4 (List.mem_of_getElem? (i := 205) rfl) rfl, sg4 (List.mem_of_getElem? (i := 207) rfl) rfl, mc_sel (pr3 (List.mem_of_getElem? (i := 1) rfl))⟩
set_option maxRecDepth 20000 in
theorem kX7_142 : mc_CV RX7 142 yX7_between cX7_between 2 (some .boolean) 1 := ⟨⟨nv_RX7, pd_7, sg4 (List.mem_of_getElem? (i := 212) rfl) rfl, sg1 (List.mem_of_getElem? (i := 8) rfl) rfl⟩, sg4 (List.mem_of_getElem? (i := 209) rfl) rfl, sg4 (List.mem_of_getElem? (i := 211) rfl) rfl, mc_sel (pr3 (List.mem_of_getElem? (i := 2) rfl))⟩
set_option maxRecDepth 20000 in
theorem lX7_7 : Cond.fieldLink RX7 7 (TX7 0).1 (TX7 0).2.1 (TX7 0).2.2.1 ∈ mc_WS := sg4 (List.mem_of_getElem? (i := 213) rfl) rfl
set_option maxRecDepth 20000 in
theorem fX7_7 : mc_FL RX7 7 7 0 := ⟨RX7, TX7, 35, tyX7, mcf7, by decide, lX7_7⟩
set_option maxRecDepth 20000 in
theorem pX7_7 : mc_FP RX7 7 7 0 (tyX7 0) false := ⟨RX7, TX7, 35, tyX7, mcf7, by decide, lX7_7, tyX7_ok 0 (by decide), rfl, rfl⟩
set_option maxRecDepth 20000 in
theorem lX7_13 : Cond.fieldLink RX7 13 (TX7 1).1 (TX7 1).2.1 (TX7 1).2.2.1 ∈ mc_WS := sg4 (List.mem_of_getElem? (i := 214) rfl) rfl
set_option maxRecDepth 20000 in
theorem fX7_13 : mc_FL RX7 13 7 1 := ⟨RX7, TX7, 35, tyX7, mcf7, by decide, lX7_13⟩
set_option maxRecDepth 20000 in
theorem pX7_13 : mc_FP RX7 13 7 1 (tyX7 1) false := ⟨RX7, TX7, 35, tyX7, mcf7, by decide, lX7_13, tyX7_ok 1 (by decide), rfl, rfl⟩
set_option maxRecDepth 20000 in
theorem lX7_72 : Cond.fieldLink RX7 72 (TX7 2).1 (TX7 2).2.1 (TX7 2).2.2.1 ∈ mc_WS := sg4 (List.mem_of_getElem? (i := 215) rfl) rfl
set_option maxRecDepth 20000 in
theorem fX7_72 : mc_FL RX7 72 7 2 := ⟨RX7, TX7, 35, tyX7, mcf7, by decide, lX7_72⟩
set_option maxRecDepth 20000 in
theorem pX7_72 : mc_FP RX7 72 7 2 (tyX7 2) false := ⟨RX7, TX7, 35, tyX7, mcf7, by decide, lX7_72, tyX7_ok 2 (by decide), rfl, rfl⟩
set_option maxRecDepth 20000 in
theorem lX7_16 : Cond.fieldLink RX7 16 (TX7 3).1 (TX7 3).2.1 (TX7 3).2.2.1 ∈ mc_WS := sg4 (List.mem_of_getElem? (i := 216) rfl) rfl
set_option maxRecDepth 20000 in
theorem fX7_16 : mc_FL RX7 16 7 3 := ⟨RX7, TX7, 35, tyX7, mcf7, by decide, lX7_16⟩
set_option maxRecDepth 20000 in
theorem pX7_16 : mc_FP RX7 16 7 3 (tyX7 3) true := ⟨RX7, TX7, 35, tyX7, mcf7, by decide, lX7_16, tyX7_ok 3 (by decide), rfl, rfl⟩
set_option maxRecDepth 20000 in
theorem lX7_20 : Cond.fieldLink RX7 20 (TX7 4).1 (TX7 4).2.1 (TX7 4).2.2.1 ∈ mc_WS := sg4 (List.mem_of_getElem? (i := 217) rfl) rfl
set_option maxRecDepth 20000 in
theorem fX7_20 : mc_FL RX7 20 7 4 := ⟨RX7, TX7, 35, tyX7, mcf7, by decide, lX7_20⟩
set_option maxRecDepth 20000 in
theorem pX7_20 : mc_FP RX7 20 7 4 (tyX7 4) true := ⟨RX7, TX7, 35, tyX7, mcf7, by decide, lX7_20, tyX7_ok 4 (by decide), rfl, rfl⟩
set_option maxRecDepth 20000 in
theorem lX7_23 : Cond.fieldLink RX7 23 (TX7 5).1 (TX7 5).2.1 (TX7 5).2.2.1 ∈ mc_WS := sg4 (List.mem_of_getElem? (i := 218) rfl) rfl
set_option maxRecDepth 20000 in
theorem fX7_23 : mc_FL RX7 23 7 5 := ⟨RX7, TX7, 35, tyX7, mcf7, by decide, lX7_23⟩
set_option maxRecDepth 20000 in
theorem pX7_23 : mc_FP RX7 23 7 5 (tyX7 5) true := ⟨RX7, TX7, 35, tyX7, mcf7, by decide, lX7_23, tyX7_ok 5 (by decide), rfl, rfl⟩
set_option maxRecDepth 20000 in
theorem lX7_26 : Cond.fieldLink RX7 26 (TX7 6).1 (TX7 6).2.1 (TX7 6).2.2.1 ∈ mc_WS := sg4 (List.mem_of_getElem? (i := 219) rfl) rfl
set_option maxRecDepth 20000 in
theorem fX7_26 : mc_FL RX7 26 7 6 := ⟨RX7, TX7, 35, tyX7, mcf7, by decide, lX7_26⟩
set_option maxRecDepth 20000 in
theorem pX7_26 : mc_FP RX7 26 7 6 (tyX7 6) true := ⟨RX7, TX7, 35, tyX7, mcf7, by decide, lX7_26, tyX7_ok 6 (by decide), rfl, rfl⟩
set_option maxRecDepth 20000 in
theorem lX7_65 : Cond.fieldLink RX7 65 (TX7 7).1 (TX7 7).2.1 (TX7 7).2.2.1 ∈ mc_WS := sg4 (List.mem_of_getElem? (i := 220) rfl) rfl
set_option maxRecDepth 20000 in
theorem fX7_65 : mc_FL RX7 65 7 7 := ⟨RX7, TX7, 35, tyX7, mcf7, by decide, lX7_65⟩
set_option maxRecDepth 20000 in
theorem pX7_65 : mc_FP RX7 65 7 7 (tyX7 7) false := ⟨RX7, TX7, 35, tyX7, mcf7, by decide, lX7_65, tyX7_ok 7 (by decide), rfl, rfl⟩
set_option maxRecDepth 20000 in
theorem lX7_29 : Cond.fieldLink RX7 29 (TX7 8).1 (TX7 8).2.1 (TX7 8).2.2.1 ∈ mc_WS := sg4 (List.mem_of_getElem? (i := 221) rfl) rfl
set_option maxRecDepth 20000 in
theorem fX7_29 : mc_FL RX7 29 7 8 := ⟨RX7, TX7, 35, tyX7, mcf7, by decide, lX7_29⟩
set_option maxRecDepth 20000 in
theorem pX7_29 : mc_FP RX7 29 7 8 (tyX7 8) true := ⟨RX7, TX7, 35, tyX7, mcf7, by decide, lX7_29, tyX7_ok 8 (by decide), rfl, rfl⟩
set_option maxRecDepth 20000 in
theorem lX7_32 : Cond.fieldLink RX7 32 (TX7 9).1 (TX7 9).2.1 (TX7 9).2.2.1 ∈ mc_WS := sg4 (List.mem_of_getElem? (i := 222) rfl) rfl
set_option maxRecDepth 20000 in
theorem fX7_32 : mc_FL RX7 32 7 9 := ⟨RX7, TX7, 35, tyX7, mcf7, by decide, lX7_32⟩
set_option maxRecDepth 20000 in
theorem pX7_32 : mc_FP RX7 32 7 9 (tyX7 9) true := ⟨RX7, TX7, 35, tyX7, mcf7, by decide, lX7_32, tyX7_ok 9 (by decide), rfl, rfl⟩
set_option maxRecDepth 20000 in
theorem lX7_80 : Cond.fieldLink RX7 80 (TX7 10).1 (TX7 10).2.1 (TX7 10).2.2.1 ∈ mc_WS := sg4 (List.mem_of_getElem? (i := 223) rfl) rfl
set_option maxRecDepth 20000 in
theorem fX7_80 : mc_FL RX7 80 7 10 := ⟨RX7, TX7, 35, tyX7, mcf7, by decide, lX7_80⟩
set_option maxRecDepth 20000 in
theorem pX7_80 : mc_FP RX7 80 7 10 (tyX7 10) false := ⟨RX7, TX7, 35, tyX7, mcf7, by decide, lX7_80, tyX7_ok 10 (by decide), rfl, rfl⟩
set_option maxRecDepth 20000 in
theorem lX7_83 : Cond.fieldLink RX7 83 (TX7 11).1 (TX7 11).2.1 (TX7 11).2.2.1 ∈ mc_WS := sg4 (List.mem_of_getElem? (i := 224) rfl) rfl
set_option maxRecDepth 20000 in
theorem fX7_83 : mc_FL RX7 83 7 11 := ⟨RX7, TX7, 35, tyX7, mcf7, by decide, lX7_83⟩
set_option maxRecDepth 20000 in
theorem pX7_83 : mc_FP RX7 83 7 11 (tyX7 11) false := ⟨RX7, TX7, 35, tyX7, mcf7, by decide, lX7_83, tyX7_ok 11 (by decide), rfl, rfl⟩
set_option maxRecDepth 20000 in
theorem lX7_292 : Cond.fieldLink RX7 292 (TX7 12).1 (TX7 12).2.1 (TX7 12).2.2.1 ∈ mc_WS := sg4 (List.mem_of_getElem? (i := 225) rfl) rfl
set_option maxRecDepth 20000 in
theorem fX7_292 : mc_FL RX7 292 7 12 := ⟨RX7, TX7, 35, tyX7, mcf7, by decide, lX7_292⟩
set_option maxRecDepth 20000 in
theorem pX7_292 : mc_FP RX7 292 7 12 (tyX7 12) false := ⟨RX7, TX7, 35, tyX7, mcf7, by decide, lX7_292, tyX7_ok 12 (by decide), rfl, rfl⟩
set_option maxRecDepth 20000 in
theorem lX7_296 : Cond.fieldLink RX7 296 (TX7 13).1 (TX7 13).2.1 (TX7 13).2.2.1 ∈ mc_WS := sg4 (List.mem_of_getElem? (i := 226) rfl) rfl
set_option maxRecDepth 20000 in
theorem fX7_296 : mc_FL RX7 296 7 13 := ⟨RX7, TX7, 35, tyX7, mcf7, by decide, lX7_296⟩
set_option maxRecDepth 20000 in
theorem pX7_296 : mc_FP RX7 296 7 13 (tyX7 13) false := ⟨RX7, TX7, 35, tyX7, mcf7, by decide, lX7_296, tyX7_ok 13 (by decide), rfl, rfl⟩
set_option maxRecDepth 20000 in
theorem lX7_299 : Cond.fieldLink RX7 299 (TX7 14).1 (TX7 14).2.1 (TX7 14).2.2.1 ∈ mc_WS := sg4 (List.mem_of_getElem? (i := 227) rfl) rfl
set_option maxRecDepth 20000 in
theorem fX7_299 : mc_FL RX7 299 7 14 := ⟨RX7, TX7, 35, tyX7, mcf7, by decide, lX7_299⟩
set_option maxRecDepth 20000 in
theorem pX7_299 : mc_FP RX7 299 7 14 (tyX7 14) false := ⟨RX7, TX7, 35, tyX7, mcf7, by decide, lX7_299, tyX7_ok 14 (by decide), rfl, rfl⟩
set_option maxRecDepth 20000 in
theorem lX7_302 : Cond.fieldLink RX7 302 (TX7 15).1 (TX7 15).2.1 (TX7 15).2.2.1 ∈ mc_WS := sg4 (List.mem_of_getElem? (i := 228) rfl) rfl
set_option maxRecDepth 20000 in
theorem fX7_302 : mc_FL RX7 302 7 15 := ⟨RX7, TX7, 35, tyX7, mcf7, by decide, lX7_302⟩
set_option maxRecDepth 20000 in
theorem pX7_302 : mc_FP RX7 302 7 15 (tyX7 15) false := ⟨RX7, TX7, 35, tyX7, mcf7, by decide, lX7_302, tyX7_ok 15 (by decide), rfl, rfl⟩
set_option maxRecDepth 20000 in
theorem lX7_305 : Cond.fieldLink RX7 305 (TX7 16).1 (TX7 16).2.1 (TX7 16).2.2.1 ∈ mc_WS := sg4 (List.mem_of_getElem? (i := 229) rfl) rfl
set_option maxRecDepth 20000 in
theorem fX7_305 : mc_FL RX7 305 7 16 := ⟨RX7, TX7, 35, tyX7, mcf7, by decide, lX7_305⟩
set_option maxRecDepth 20000 in
theorem pX7_305 : mc_FP RX7 305 7 16 (tyX7 16) false := ⟨RX7, TX7, 35, tyX7, mcf7, by decide, lX7_305, tyX7_ok 16 (by decide), rfl, rfl⟩
set_option maxRecDepth 20000 in
theorem lX7_35 : Cond.fieldLink RX7 35 (TX7 17).1 (TX7 17).2.1 (TX7 17).2.2.1 ∈ mc_WS := sg4 (List.mem_of_getElem? (i := 230) rfl) rfl
set_option maxRecDepth 20000 in
theorem fX7_35 : mc_FL RX7 35 7 17 := ⟨RX7, TX7, 35, tyX7, mcf7, by decide, lX7_35⟩
set_option maxRecDepth 20000 in
theorem pX7_35 : mc_FP RX7 35 7 17 (tyX7 17) true := ⟨RX7, TX7, 35, tyX7, mcf7, by decide, lX7_35, tyX7_ok 17 (by decide), rfl, rfl⟩
set_option maxRecDepth 20000 in
theorem lX7_38 : Cond.fieldLink RX7 38 (TX7 18).1 (TX7 18).2.1 (TX7 18).2.2.1 ∈ mc_WS := sg4 (List.mem_of_getElem? (i := 231) rfl) rfl
set_option maxRecDepth 20000 in
theorem fX7_38 : mc_FL RX7 38 7 18 := ⟨RX7, TX7, 35, tyX7, mcf7, by decide, lX7_38⟩
set_option maxRecDepth 20000 in
theorem pX7_38 : mc_FP RX7 38 7 18 (tyX7 18) true := ⟨RX7, TX7, 35, tyX7, mcf7, by decide, lX7_38, tyX7_ok 18 (by decide), rfl, rfl⟩
set_option maxRecDepth 20000 in
theorem lX7_41 : Cond.fieldLink RX7 41 (TX7 19).1 (TX7 19).2.1 (TX7 19).2.2.1 ∈ mc_WS := sg4 (List.mem_of_getElem? (i := 232) rfl) rfl
set_option maxRecDepth 20000 in
theorem fX7_41 : mc_FL RX7 41 7 19 := ⟨RX7, TX7, 35, tyX7, mcf7, by decide, lX7_41⟩
set_option maxRecDepth 20000 in
theorem pX7_41 : mc_FP RX7 41 7 19 (tyX7 19) true := ⟨RX7, TX7, 35, tyX7, mcf7, by decide, lX7_41, tyX7_ok 19 (by decide), rfl, rfl⟩
set_option maxRecDepth 20000 in
theorem lX7_44 : Cond.fieldLink RX7 44 (TX7 20).1 (TX7 20).2.1 (TX7 20).2.2.1 ∈ mc_WS := sg4 (List.mem_of_getElem? (i := 233) rfl) rfl
set_option maxRecDepth 20000 in
theorem fX7_44 : mc_FL RX7 44 7 20 := ⟨RX7, TX7, 35, tyX7, mcf7, by decide, lX7_44⟩
set_option maxRecDepth 20000 in
theorem pX7_44 : mc_FP RX7 44 7 20 (tyX7 20) true := ⟨RX7, TX7, 35, tyX7, mcf7, by decide, lX7_44, tyX7_ok 20 (by decide), rfl, rfl⟩
set_option maxRecDepth 20000 in
theorem lX7_47 : Cond.fieldLink RX7 47 (TX7 21).1 (TX7 21).2.1 (TX7 21).2.2.1 ∈ mc_WS := sg4 (List.mem_of_getElem? (i := 234) rfl) rfl
set_option maxRecDepth 20000 in
theorem fX7_47 : mc_FL RX7 47 7 21 := ⟨RX7, TX7, 35, tyX7, mcf7, by decide, lX7_47⟩
set_option maxRecDepth 20000 in
theorem pX7_47 : mc_FP RX7 47 7 21 (tyX7 21) true := ⟨RX7, TX7, 35, tyX7, mcf7, by decide, lX7_47, tyX7_ok 21 (by decide), rfl, rfl⟩
set_option maxRecDepth 20000 in
theorem lX7_93 : Cond.fieldLink RX7 93 (TX7 22).1 (TX7 22).2.1 (TX7 22).2.2.1 ∈ mc_WS := sg4 (List.mem_of_getElem? (i := 235) rfl) rfl
set_option maxRecDepth 20000 in
theorem fX7_93 : mc_FL RX7 93 7 22 := ⟨RX7, TX7, 35, tyX7, mcf7, by decide, lX7_93⟩
set_option maxRecDepth 20000 in
theorem pX7_93 : mc_FP RX7 93 7 22 (tyX7 22) false := ⟨RX7, TX7, 35, tyX7, mcf7, by decide, lX7_93, tyX7_ok 22 (by decide), rfl, rfl⟩
set_option maxRecDepth 20000 in
theorem lX7_96 : Cond.fieldLink RX7 96 (TX7 23).1 (TX7 23).2.1 (TX7 23).2.2.1 ∈ mc_WS := sg4 (List.mem_of_getElem? (i := 236) rfl) rfl
set_option maxRecDepth 20000 in
theorem fX7_96 : mc_FL RX7 96 7 23 := ⟨RX7, TX7, 35, tyX7, mcf7, by decide, lX7_96⟩
set_option maxRecDepth 20000 in
theorem pX7_96 : mc_FP RX7 96 7 23 (tyX7 23) false := ⟨RX7, TX7, 35, tyX7, mcf7, by decide, lX7_96, tyX7_ok 23 (by decide), rfl, rfl⟩
set_option maxRecDepth 20000 in
theorem lX7_99 : Cond.fieldLink RX7 99 (TX7 24).1 (TX7 24).2.1 (TX7 24).2.2.1 ∈ mc_WS := sg4 (List.mem_of_getElem? (i := 237) rfl) rfl
set_option maxRecDepth 20000 in
theorem fX7_99 : mc_FL RX7 99 7 24 := ⟨RX7, TX7, 35, tyX7, mcf7, by decide, lX7_99⟩
set_option maxRecDepth 20000 in
theorem pX7_99 : mc_FP RX7 99 7 24 (tyX7 24) false := ⟨RX7, TX7, 35, tyX7, mcf7, by decide, lX7_99, tyX7_ok 24 (by decide), rfl, rfl⟩
set_option maxRecDepth 20000 in
theorem lX7_102 : Cond.fieldLink RX7 102 (TX7 25).1 (TX7 25).2.1 (TX7 25).2.2.1 ∈ mc_WS := sg4 (List.mem_of_getElem? (i := 238) rfl) rfl
set_option maxRecDepth 20000 in
theorem fX7_102 : mc_FL RX7 102 7 25 := ⟨RX7, TX7, 35, tyX7, mcf7, by decide, lX7_102⟩
set_option maxRecDepth 20000 in
theorem pX7_102 : mc_FP RX7 102 7 25 (tyX7 25) false := ⟨RX7, TX7, 35, tyX7, mcf7, by decide, lX7_102, tyX7_ok 25 (by decide), rfl, rfl⟩
set_option maxRecDepth 20000 in
theorem lX7_50 : Cond.fieldLink RX7 50 (TX7 26).1 (TX7 26).2.1 (TX7 26).2.2.1 ∈ mc_WS := sg4 (List.mem_of_getElem? (i := 239) rfl) rfl
set_option maxRecDepth 20000 in
theorem fX7_50 : mc_FL RX7 50 7 26 := ⟨RX7, TX7, 35, tyX7, mcf7, by decide, lX7_50⟩
set_option maxRecDepth 20000 in
theorem pX7_50 : mc_FP RX7 50 7 26 (tyX7 26) true := ⟨RX7, TX7, 35, tyX7, mcf7, by decide, lX7_50, tyX7_ok 26 (by decide), rfl, rfl⟩
set_option maxRecDepth 20000 in
theorem lX7_53 : Cond.fieldLink RX7 53 (TX7 27).1 (TX7 27).2.1 (TX7 27).2.2.1 ∈ mc_WS := sg5 (List.mem_of_getElem? (i := 0) rfl) rfl
set_option maxRecDepth 20000 in
theorem fX7_53 : mc_FL RX7 53 7 27 := ⟨RX7, TX7, 35, tyX7, mcf7, by decide, lX7_53⟩
set_option maxRecDepth 20000 in
theorem pX7_53 : mc_FP RX7 53 7 27 (tyX7 27) true := ⟨RX7, TX7, 35, tyX7, mcf7, by decide, lX7_53, tyX7_ok 27 (by decide), rfl, rfl⟩
set_option maxRecDepth 20000 in
theorem lX7_112 : Cond.fieldLink RX7 112 (TX7 28).1 (TX7 28).2.1 (TX7 28).2.2.1 ∈ mc_WS := sg5 (List.mem_of_getElem? (i := 1) rfl) rfl
set_option maxRecDepth 20000 in
theorem fX7_112 : mc_FL RX7 112 7 28 := ⟨RX7, TX7, 35, tyX7, mcf7, by decide, lX7_112⟩
set_option maxRecDepth 20000 in
theorem pX7_112 : mc_FP RX7 112 7 28 (tyX7 28) false := ⟨RX7, TX7, 35, tyX7, mcf7, by decide, lX7_112, tyX7_ok 28 (by decide), rfl, rfl⟩
set_option maxRecDepth 20000 in
theorem lX7_119 : Cond.fieldLink RX7 119 (TX7 29).1 (TX7 29).2.1 (TX7 29).2.2.1 ∈ mc_WS := sg5 (List.mem_of_getElem? (i := 2) rfl) rfl
set_option maxRecDepth 20000 in
theorem fX7_119 : mc_FL RX7 119 7 29 := ⟨RX7, TX7, 35, tyX7, mcf7, by decide, lX7_119⟩
set_option maxRecDepth 20000 in
theorem pX7_119 : mc_FP RX7 119 7 29 (tyX7 29) false := ⟨RX7, TX7, 35, tyX7, mcf7, by decide, lX7_119, tyX7_ok 29 (by decide), rfl, rfl⟩
set_option maxRecDepth 20000 in
theorem lX7_109 : Cond.fieldLink RX7 109 (TX7 30).1 (TX7 30).2.1 (TX7 30).2.2.1 ∈ mc_WS := sg5 (List.mem_of_getElem? (i := 3) rfl) rfl
set_option maxRecDepth 20000 in
theorem fX7_109 : mc_FL RX7 109 7 30 := ⟨RX7, TX7, 35, tyX7, mcf7, by decide, lX7_109⟩
set_option maxRecDepth 20000 in
theorem pX7_109 : mc_FP RX7 109 7 30 (tyX7 30) false := ⟨RX7, TX7, 35, tyX7, mcf7, by decide, lX7_109, tyX7_ok 30 (by decide), rfl, rfl⟩
set_option maxRecDepth 20000 in
theorem lX7_56 : Cond.fieldLink RX7 56 (TX7 31).1 (TX7 31).2.1 (TX7 31).2.2.1 ∈ mc_WS := sg5 (List.mem_of_getElem? (i := 4) rfl) rfl
set_option maxRecDepth 20000 in
theorem fX7_56 : mc_FL RX7 56 7 31 := ⟨RX7, TX7, 35, tyX7, mcf7, by decide, lX7_56⟩
set_option maxRecDepth 20000 in
theorem pX7_56 : mc_FP RX7 56 7 31 (tyX7 31) true := ⟨RX7, TX7, 35, tyX7, mcf7, by decide, lX7_56, tyX7_ok 31 (by decide), rfl, rfl⟩
set_option maxRecDepth 20000 in
theorem lX7_59 : Cond.fieldLink RX7 59 (TX7 32).1 (TX7 32).2.1 (TX7 32).2.2.1 ∈ mc_WS := sg5 (List.mem_of_getElem? (i := 5) rfl) rfl
set_option maxRecDepth 20000 in
theorem fX7_59 : mc_FL RX7 59 7 32 := ⟨RX7, TX7, 35, tyX7, mcf7, by decide, lX7_59⟩
set_option maxRecDepth 20000 in
theorem pX7_59 : mc_FP RX7 59 7 32 (tyX7 32) true := ⟨RX7, TX7, 35, tyX7, mcf7, by decide, lX7_59, tyX7_ok 32 (by decide), rfl, rfl⟩
set_option maxRecDepth 20000 in
theorem lX7_62 : Cond.fieldLink RX7 62 (TX7 33).1 (TX7 33).2.1 (TX7 33).2.2.1 ∈ mc_WS := sg5 (List.mem_of_getElem? (i := 6) rfl) rfl
set_option maxRecDepth 20000 in
theorem fX7_62 : mc_FL RX7 62 7 33 := ⟨RX7, TX7, 35, tyX7, mcf7, by decide, lX7_62⟩
set_option maxRecDepth 20000 in
theorem pX7_62 : mc_FP RX7 62 7 33 (tyX7 33) true := ⟨RX7, TX7, 35, tyX7, mcf7, by decide, lX7_62, tyX7_ok 33 (by decide), rfl, rfl⟩
set_option maxRecDepth 20000 in
theorem lX7_175 : Cond.fieldLink RX7 175 (TX7 34).1 (TX7 34).2.1 (TX7 34).2.2.1 ∈ mc_WS := sg5 (List.mem_of_getElem? (i := 7) rfl) rfl
set_option maxRecDepth 20000 in
theorem fX7_175 : mc_FL RX7 175 7 34 := ⟨RX7, TX7, 35, tyX7, mcf7, by decide, lX7_175⟩
set_option maxRecDepth 20000 in
theorem pX7_175 : mc_FP RX7 175 7 34 (tyX7 34) false := ⟨RX7, TX7, 35, tyX7, mcf7, by decide, lX7_175, tyX7_ok 34 (by decide), rfl, rfl⟩
set_option maxRecDepth 20000 in
theorem kL_17 : mc_CV "NoZeroWithinLaw" 17 yX7_count cX7_count 2 (some .int) 1 := ⟨⟨nv_RX7, pd_3, sg5 (List.mem_of_getElem? (i := 82) rfl) rfl, sg1 (List.mem_of_getElem? (i := 8) rfl) rfl⟩, sg5 (List.mem_of_getElem? (i := 79) rfl) rfl, sg5 (List.mem_of_getElem? (i := 80) rfl) rfl, sg5 (List.mem_of_getElem? (i := 81) rfl) rfl⟩
set_option maxRecDepth 20000 in
theorem kL_22 : mc_CV "NoZeroWithinLaw" 22 yX7_set cX7_set 4 (some .int) 2 := ⟨⟨nv_RX7, pd_5, sg5 (List.mem_of_getElem? (i := 86) rfl) rfl, sg1 (List.mem_of_getElem? (i := 8) rfl) rfl⟩, sg5 (List.mem_of_getElem? (i := 83) rfl) rfl, sg5 (List.mem_of_getElem? (i := 84) rfl) rfl, sg5 (List.mem_of_getElem? (i := 85) rfl) rfl⟩
set_option maxRecDepth 20000 in
theorem kX7_86 : mc_CS RX7 86 yX7_isYear cX7_isYear 1 (some .boolean) 1 := ⟨⟨nv_RX7, pd_7, sg5 (List.mem_of_getElem? (i := 89) rfl) rfl, sg1 (List.mem_of_getElem? (i := 8) rfl) rfl⟩, sg5 (List.mem_of_getElem? (i := 87) rfl) rfl, sg5 (List.mem_of_getElem? (i := 88) rfl) rfl⟩
set_option maxRecDepth 20000 in
theorem kL_27 : mc_CV "NoZeroWithinLaw" 27 yX7_feed cX7_feed 8 (some .int) 6 := ⟨⟨nv_RX7, pd_8, sg5 (List.mem_of_getElem? (i := 93) rfl) rfl, sg1 (List.mem_of_getElem? (i := 8) rfl) rfl⟩, sg5 (List.mem_of_getElem? (i := 90) rfl) rfl, sg5 (List.mem_of_getElem? (i := 91) rfl) rfl, sg5 (List.mem_of_getElem? (i := 92) rfl) rfl⟩
set_option maxRecDepth 20000 in
theorem kX7_90 : mc_CS RX7 90 yX7_isByte cX7_isByte 1 (some .boolean) 1 := ⟨⟨nv_RX7, pd_7, sg5 (List.mem_of_getElem? (i := 96) rfl) rfl, sg1 (List.mem_of_getElem? (i := 8) rfl) rfl⟩, sg5 (List.mem_of_getElem? (i := 94) rfl) rfl, sg5 (List.mem_of_getElem? (i := 95) rfl) rfl⟩
set_option maxRecDepth 20000 in
theorem kL_32 : mc_CV "NoZeroWithinLaw" 32 yX7_text cX7_text 3 (some .int) 0 := ⟨⟨nv_RX7, pd_4, sg4 (List.mem_of_getElem? (i := 169) rfl) rfl, sg1 (List.mem_of_getElem? (i := 8) rfl) rfl⟩, sg5 (List.mem_of_getElem? (i := 97) rfl) rfl, sg4 (List.mem_of_getElem? (i := 167) rfl) rfl, sg4 (List.mem_of_getElem? (i := 168) rfl) rfl⟩
set_option maxRecDepth 20000 in
theorem kL_36 : mc_CV "NoZeroWithinLaw" 36 yX7_force cX7_force 3 (some .int) 1 := ⟨⟨nv_RX7, pd_3, sg5 (List.mem_of_getElem? (i := 101) rfl) rfl, sg1 (List.mem_of_getElem? (i := 8) rfl) rfl⟩, sg5 (List.mem_of_getElem? (i := 98) rfl) rfl, sg5 (List.mem_of_getElem? (i := 99) rfl) rfl, sg5 (List.mem_of_getElem? (i := 100) rfl) rfl⟩
set_option maxRecDepth 20000 in
theorem kL_41 : mc_CV "NoZeroWithinLaw" 41 yX7_asks cX7_asks 5 (some .int) 4 := ⟨⟨nv_RX7, pd_21, sg5 (List.mem_of_getElem? (i := 105) rfl) rfl, sg1 (List.mem_of_getElem? (i := 8) rfl) rfl⟩, sg5 (List.mem_of_getElem? (i := 102) rfl) rfl, sg5 (List.mem_of_getElem? (i := 103) rfl) rfl, sg5 (List.mem_of_getElem? (i := 104) rfl) rfl⟩
set_option maxRecDepth 20000 in
theorem kX7_159 : mc_CV RX7 159 yX7_isClerk cX7_isClerk 2 (some .boolean) 1 := ⟨⟨nv_RX7, pd_7, sg5 (List.mem_of_getElem? (i := 109) rfl) rfl, sg1 (List.mem_of_getElem? (i := 8) rfl) rfl⟩, sg5 (List.mem_of_getElem? (i := 106) rfl) rfl, sg5 (List.mem_of_getElem? (i := 108) rfl) rfl, mc_sel (pr3 (List.mem_of_getElem? (i := 3) rfl))⟩
set_option maxRecDepth 20000 in
theorem kX7_162 : mc_CS RX7 162 yX7_isNumber cX7_isNumber 1 (some .boolean) 1 := ⟨⟨nv_RX7, pd_7, sg5 (List.mem_of_getElem? (i := 112) rfl) rfl, sg1 (List.mem_of_getElem? (i := 8) rfl) rfl⟩, sg5 (List.mem_of_getElem? (i := 110) rfl) rfl, sg5 (List.mem_of_getElem? (i := 111) rfl) rfl⟩
set_option maxRecDepth 20000 in
theorem qX7_79 : Cond.constant RX7 79 99999 ∈ mc_WS := sg5 (List.mem_of_getElem? (i := 113) rfl) rfl
set_option maxRecDepth 20000 in
theorem kX7_165 : mc_CV RX7 165 yX7_asksOf cX7_asksOf 5 (some .int) 4 := ⟨⟨nv_RX7, pd_21, sg5 (List.mem_of_getElem? (i := 117) rfl) rfl, sg1 (List.mem_of_getElem? (i := 8) rfl) rfl⟩, sg5 (List.mem_of_getElem? (i := 114) rfl) rfl, sg5 (List.mem_of_getElem? (i := 116) rfl) rfl, mc_sel (pr3 (List.mem_of_getElem? (i := 4) rfl))⟩
set_option maxRecDepth 20000 in
theorem kX7_153 : mc_CV RX7 153 yX7_says cX7_says 5 (some .int) 1 := ⟨⟨nv_RX7, pd_3, sg5 (List.mem_of_getElem? (i := 121) rfl) rfl, sg1 (List.mem_of_getElem? (i := 8) rfl) rfl⟩, sg5 (List.mem_of_getElem? (i := 118) rfl) rfl, sg5 (List.mem_of_getElem? (i := 120) rfl) rfl, mc_sel (pr3 (List.mem_of_getElem? (i := 5) rfl))⟩
set_option maxRecDepth 20000 in
theorem kX7_149 : mc_CS RX7 149 yX7_two cX7_two 3 (some .int) 3 := ⟨⟨nv_RX7, pd_26, sg5 (List.mem_of_getElem? (i := 124) rfl) rfl, sg1 (List.mem_of_getElem? (i := 8) rfl) rfl⟩, sg5 (List.mem_of_getElem? (i := 122) rfl) rfl, sg5 (List.mem_of_getElem? (i := 123) rfl) rfl⟩
set_option maxRecDepth 20000 in
theorem kX7_156 : mc_CS RX7 156 yX7_within cX7_within 3 (some .int) 3 := ⟨⟨nv_RX7, pd_26, sg5 (List.mem_of_getElem? (i := 127) rfl) rfl, sg1 (List.mem_of_getElem? (i := 8) rfl) rfl⟩, sg5 (List.mem_of_getElem? (i := 125) rfl) rfl, sg5 (List.mem_of_getElem? (i := 126) rfl) rfl⟩
set_option maxRecDepth 20000 in
theorem kL_45 : mc_CV "NoZeroWithinLaw" 45 yX7_clerk cX7_clerk 3 (some .int) 2 := ⟨⟨nv_RX7, pd_5, sg5 (List.mem_of_getElem? (i := 131) rfl) rfl, sg1 (List.mem_of_getElem? (i := 8) rfl) rfl⟩, sg5 (List.mem_of_getElem? (i := 128) rfl) rfl, sg5 (List.mem_of_getElem? (i := 129) rfl) rfl, sg5 (List.mem_of_getElem? (i := 130) rfl) rfl⟩
set_option maxRecDepth 20000 in
theorem kL_49 : mc_CV "NoZeroWithinLaw" 49 yX7_told cX7_told 3 (some .int) 2 := ⟨⟨nv_RX7, pd_5, sg5 (List.mem_of_getElem? (i := 135) rfl) rfl, sg1 (List.mem_of_getElem? (i := 8) rfl) rfl⟩, sg5 (List.mem_of_getElem? (i := 132) rfl) rfl, sg5 (List.mem_of_getElem? (i := 133) rfl) rfl, sg5 (List.mem_of_getElem? (i := 134) rfl) rfl⟩
set_option maxRecDepth 20000 in
theorem kX7_169 : mc_CV RX7 169 yX7_figuresOf cX7_figuresOf 3 (some .int) 1 := ⟨⟨nv_RX7, pd_3, sg5 (List.mem_of_getElem? (i := 139) rfl) rfl, sg1 (List.mem_of_getElem? (i := 8) rfl) rfl⟩, sg5 (List.mem_of_getElem? (i := 136) rfl) rfl, sg5 (List.mem_of_getElem? (i := 138) rfl) rfl, mc_sel (pr3 (List.mem_of_getElem? (i := 6) rfl))⟩
set_option maxRecDepth 20000 in
theorem kX7_172 : mc_CV RX7 172 yX7_isTurned cX7_isTurned 2 (some .boolean) 1 := ⟨⟨nv_RX7, pd_7, sg5 (List.mem_of_getElem? (i := 143) rfl) rfl, sg1 (List.mem_of_getElem? (i := 8) rfl) rfl⟩, sg5 (List.mem_of_getElem? (i := 140) rfl) rfl, sg5 (List.mem_of_getElem? (i := 142) rfl) rfl, mc_sel (pr3 (List.mem_of_getElem? (i := 7) rfl))⟩
set_option maxRecDepth 20000 in
theorem kL_54 : mc_CV "NoZeroWithinLaw" 54 yX7_figure cX7_figure 4 (some .int) 3 := ⟨⟨nv_RX7, pd_26, sg5 (List.mem_of_getElem? (i := 147) rfl) rfl, sg1 (List.mem_of_getElem? (i := 8) rfl) rfl⟩, sg5 (List.mem_of_getElem? (i := 144) rfl) rfl, sg5 (List.mem_of_getElem? (i := 145) rfl) rfl, sg5 (List.mem_of_getElem? (i := 146) rfl) rfl⟩
set_option maxRecDepth 20000 in
theorem kX7_186 : mc_CV RX7 186 yX7_writes cX7_writes 6 none 2 := ⟨⟨nv_RX7, pd_15, sg5 (List.mem_of_getElem? (i := 151) rfl) rfl, sg1 (List.mem_of_getElem? (i := 8) rfl) rfl⟩, sg5 (List.mem_of_getElem? (i := 148) rfl) rfl, sg5 (List.mem_of_getElem? (i := 150) rfl) rfl, mc_sel (pr3 (List.mem_of_getElem? (i := 8) rfl))⟩
set_option maxRecDepth 20000 in
theorem kX7_178 : mc_CV RX7 178 yX7_makesOf cX7_makesOf 4 (some .int) 2 := ⟨⟨nv_RX7, pd_5, sg5 (List.mem_of_getElem? (i := 155) rfl) rfl, sg1 (List.mem_of_getElem? (i := 8) rfl) rfl⟩, sg5 (List.mem_of_getElem? (i := 152) rfl) rfl, sg5 (List.mem_of_getElem? (i := 154) rfl) rfl, mc_sel (pr3 (List.mem_of_getElem? (i := 9) rfl))⟩
set_option maxRecDepth 20000 in
theorem kX7_181 : mc_CV RX7 181 yX7_turnsFigures cX7_turnsFigures 3 none 0 := ⟨⟨nv_RX7, pd_0, sg5 (List.mem_of_getElem? (i := 159) rfl) rfl, sg1 (List.mem_of_getElem? (i := 8) rfl) rfl⟩, sg5 (List.mem_of_getElem? (i := 156) rfl) rfl, sg5 (List.mem_of_getElem? (i := 158) rfl) rfl, mc_sel (pr3 (List.mem_of_getElem? (i := 10) rfl))⟩
set_option maxRecDepth 20000 in
theorem kL_59 : mc_CV "NoZeroWithinLaw" 59 yX7_reads cX7_reads 5 (some .long) 2 := ⟨⟨nv_RX7, pd_29, sg5 (List.mem_of_getElem? (i := 163) rfl) rfl, sg1 (List.mem_of_getElem? (i := 8) rfl) rfl⟩, sg5 (List.mem_of_getElem? (i := 160) rfl) rfl, sg5 (List.mem_of_getElem? (i := 161) rfl) rfl, sg5 (List.mem_of_getElem? (i := 162) rfl) rfl⟩
set_option maxRecDepth 20000 in
theorem qX7_190 : Cond.constantLong RX7 190 (-5) ∈ mc_WS := sg5 (List.mem_of_getElem? (i := 164) rfl) rfl
set_option maxRecDepth 20000 in
theorem qX7_192 : Cond.constantLong RX7 192 (-7) ∈ mc_WS := sg5 (List.mem_of_getElem? (i := 165) rfl) rfl
set_option maxRecDepth 20000 in
theorem kX7_194 : mc_CV RX7 194 yX7_readsBy cX7_readsBy 6 (some .long) 2 := ⟨⟨nv_RX7, pd_30, sg5 (List.mem_of_getElem? (i := 169) rfl) rfl, sg1 (List.mem_of_getElem? (i := 8) rfl) rfl⟩, sg5 (List.mem_of_getElem? (i := 166) rfl) rfl, sg5 (List.mem_of_getElem? (i := 168) rfl) rfl, mc_sel (pr3 (List.mem_of_getElem? (i := 11) rfl))⟩
set_option maxRecDepth 20000 in
theorem qX7_184 : Cond.constantLong RX7 184 999999999999 ∈ mc_WS := sg5 (List.mem_of_getElem? (i := 170) rfl) rfl
set_option maxRecDepth 20000 in
theorem kL_63 : mc_CV "NoZeroWithinLaw" 63 yX7_plain cX7_plain 3 (some .long) 2 := ⟨⟨nv_RX7, pd_29, sg5 (List.mem_of_getElem? (i := 174) rfl) rfl, sg1 (List.mem_of_getElem? (i := 8) rfl) rfl⟩, sg5 (List.mem_of_getElem? (i := 171) rfl) rfl, sg5 (List.mem_of_getElem? (i := 172) rfl) rfl, sg5 (List.mem_of_getElem? (i := 173) rfl) rfl⟩
set_option maxRecDepth 20000 in
theorem kX7_198 : mc_CV RX7 198 yX7_plainOf cX7_plainOf 3 (some .long) 2 := ⟨⟨nv_RX7, pd_29, sg5 (List.mem_of_getElem? (i := 178) rfl) rfl, sg1 (List.mem_of_getElem? (i := 8) rfl) rfl⟩, sg5 (List.mem_of_getElem? (i := 175) rfl) rfl, sg5 (List.mem_of_getElem? (i := 177) rfl) rfl, mc_sel (pr3 (List.mem_of_getElem? (i := 12) rfl))⟩
set_option maxRecDepth 20000 in
theorem kL_68 : mc_CV "NoZeroWithinLaw" 68 yX7_adds cX7_adds 4 (some .long) 3 := ⟨⟨nv_RX7, pd_32, sg5 (List.mem_of_getElem? (i := 182) rfl) rfl, sg1 (List.mem_of_getElem? (i := 8) rfl) rfl⟩, sg5 (List.mem_of_getElem? (i := 179) rfl) rfl, sg5 (List.mem_of_getElem? (i := 180) rfl) rfl, sg5 (List.mem_of_getElem? (i := 181) rfl) rfl⟩
set_option maxRecDepth 20000 in
theorem kX7_202 : mc_CV RX7 202 yX7_addsOf cX7_addsOf 4 (some .long) 3 := ⟨⟨nv_RX7, pd_32, sg5 (List.mem_of_getElem? (i := 186) rfl) rfl, sg1 (List.mem_of_getElem? (i := 8) rfl) rfl⟩, sg5 (List.mem_of_getElem? (i := 183) rfl) rfl, sg5 (List.mem_of_getElem? (i := 185) rfl) rfl, mc_sel (pr3 (List.mem_of_getElem? (i := 13) rfl))⟩
set_option maxRecDepth 20000 in
theorem kL_72 : mc_CV "NoZeroWithinLaw" 72 yX7_apart cX7_apart 7 (some .int) 3 := ⟨⟨nv_RX7, pd_26, sg5 (List.mem_of_getElem? (i := 190) rfl) rfl, sg1 (List.mem_of_getElem? (i := 8) rfl) rfl⟩, sg5 (List.mem_of_getElem? (i := 187) rfl) rfl, sg5 (List.mem_of_getElem? (i := 188) rfl) rfl, sg5 (List.mem_of_getElem? (i := 189) rfl) rfl⟩
set_option maxRecDepth 20000 in
theorem qX7_206 : Cond.constantLong RX7 206 2 ∈ mc_WS := sg5 (List.mem_of_getElem? (i := 191) rfl) rfl
set_option maxRecDepth 20000 in
theorem pd_46 : (parseMethodDescriptor "(JJ)J").map (fun d => d.parameters.length) = some 2 := by decide +kernel
set_option maxRecDepth 20000 in
theorem kX7_208 : mc_CS RX7 208 yX7_far cX7_far 4 (some .long) 2 := ⟨⟨nv_RX7, pd_46, sg5 (List.mem_of_getElem? (i := 194) rfl) rfl, sg1 (List.mem_of_getElem? (i := 8) rfl) rfl⟩, sg5 (List.mem_of_getElem? (i := 192) rfl) rfl, sg5 (List.mem_of_getElem? (i := 193) rfl) rfl⟩
set_option maxRecDepth 20000 in
theorem kL_76 : mc_CV "NoZeroWithinLaw" 76 yX7_book cX7_book 9 (some .long) 3 := ⟨⟨nv_RX7, pd_32, sg5 (List.mem_of_getElem? (i := 198) rfl) rfl, sg1 (List.mem_of_getElem? (i := 8) rfl) rfl⟩, sg5 (List.mem_of_getElem? (i := 195) rfl) rfl, sg5 (List.mem_of_getElem? (i := 196) rfl) rfl, sg5 (List.mem_of_getElem? (i := 197) rfl) rfl⟩
set_option maxRecDepth 20000 in
theorem kX7_214 : mc_CV RX7 214 yX7_bookWrong cX7_bookWrong 3 (some .int) 1 := ⟨⟨nv_RX7, pd_3, sg5 (List.mem_of_getElem? (i := 202) rfl) rfl, sg1 (List.mem_of_getElem? (i := 8) rfl) rfl⟩, sg5 (List.mem_of_getElem? (i := 199) rfl) rfl, sg5 (List.mem_of_getElem? (i := 201) rfl) rfl, mc_sel (pr3 (List.mem_of_getElem? (i := 14) rfl))⟩
set_option maxRecDepth 20000 in
theorem kX7_217 : mc_CV RX7 217 yX7_hisBook cX7_hisBook 6 (some .long) 2 := ⟨⟨nv_RX7, pd_29, sg5 (List.mem_of_getElem? (i := 206) rfl) rfl, sg1 (List.mem_of_getElem? (i := 8) rfl) rfl⟩, sg5 (List.mem_of_getElem? (i := 203) rfl) rfl, sg5 (List.mem_of_getElem? (i := 205) rfl) rfl, mc_sel (pr3 (List.mem_of_getElem? (i := 15) rfl))⟩
set_option maxRecDepth 20000 in
theorem pd_47 : (parseMethodDescriptor "(I)J").map (fun d => d.parameters.length) = some 1 := by decide +kernel
set_option maxRecDepth 20000 in
theorem kX7_220 : mc_CV RX7 220 yX7_ourBook cX7_ourBook 5 (some .long) 1 := ⟨⟨nv_RX7, pd_47, sg5 (List.mem_of_getElem? (i := 210) rfl) rfl, sg1 (List.mem_of_getElem? (i := 8) rfl) rfl⟩, sg5 (List.mem_of_getElem? (i := 207) rfl) rfl, sg5 (List.mem_of_getElem? (i := 209) rfl) rfl, mc_sel (pr4 (List.mem_of_getElem? (i := 0) rfl))⟩
set_option maxRecDepth 20000 in
theorem pd_48 : (parseMethodDescriptor "(J)I").map (fun d => d.parameters.length) = some 1 := by decide +kernel
set_option maxRecDepth 20000 in
theorem kX7_224 : mc_CS RX7 224 yX7_great cX7_great 2 (some .int) 1 := ⟨⟨nv_RX7, pd_48, sg5 (List.mem_of_getElem? (i := 213) rfl) rfl, sg1 (List.mem_of_getElem? (i := 8) rfl) rfl⟩, sg5 (List.mem_of_getElem? (i := 211) rfl) rfl, sg5 (List.mem_of_getElem? (i := 212) rfl) rfl⟩
set_option maxRecDepth 20000 in
theorem qX7_212 : Cond.constantLong RX7 212 99999 ∈ mc_WS := sg5 (List.mem_of_getElem? (i := 214) rfl) rfl
set_option maxRecDepth 20000 in
theorem kL_80 : mc_CV "NoZeroWithinLaw" 80 yX7_who cX7_who 11 (some .long) 2 := ⟨⟨nv_RX7, pd_29, sg5 (List.mem_of_getElem? (i := 218) rfl) rfl, sg1 (List.mem_of_getElem? (i := 8) rfl) rfl⟩, sg5 (List.mem_of_getElem? (i := 215) rfl) rfl, sg5 (List.mem_of_getElem? (i := 216) rfl) rfl, sg5 (List.mem_of_getElem? (i := 217) rfl) rfl⟩
set_option maxRecDepth 20000 in
theorem qX7_228 : Cond.constantLong RX7 228 (-1) ∈ mc_WS := sg5 (List.mem_of_getElem? (i := 219) rfl) rfl
set_option maxRecDepth 20000 in
theorem kL_84 : mc_CV "NoZeroWithinLaw" 84 yX7_smuggled cX7_smuggled 14 (some .long) 3 := ⟨⟨nv_RX7, pd_32, sg5 (List.mem_of_getElem? (i := 223) rfl) rfl, sg1 (List.mem_of_getElem? (i := 8) rfl) rfl⟩, sg5 (List.mem_of_getElem? (i := 220) rfl) rfl, sg5 (List.mem_of_getElem? (i := 221) rfl) rfl, sg5 (List.mem_of_getElem? (i := 222) rfl) rfl⟩
set_option maxRecDepth 20000 in
theorem kL_88 : mc_CV "NoZeroWithinLaw" 88 yX7_slip cX7_slip 14 (some .long) 3 := ⟨⟨nv_RX7, pd_32, sg5 (List.mem_of_getElem? (i := 227) rfl) rfl, sg1 (List.mem_of_getElem? (i := 8) rfl) rfl⟩, sg5 (List.mem_of_getElem? (i := 224) rfl) rfl, sg5 (List.mem_of_getElem? (i := 225) rfl) rfl, sg5 (List.mem_of_getElem? (i := 226) rfl) rfl⟩
set_option maxRecDepth 20000 in
theorem kX7_230 : mc_CV RX7 230 yX7_slipped cX7_slipped 3 (some .int) 2 := ⟨⟨nv_RX7, pd_5, sg5 (List.mem_of_getElem? (i := 231) rfl) rfl, sg1 (List.mem_of_getElem? (i := 8) rfl) rfl⟩, sg5 (List.mem_of_getElem? (i := 228) rfl) rfl, sg5 (List.mem_of_getElem? (i := 230) rfl) rfl, mc_sel (pr4 (List.mem_of_getElem? (i := 1) rfl))⟩
set_option maxRecDepth 20000 in
theorem kL_92 : mc_CV "NoZeroWithinLaw" 92 yX7_sure cX7_sure 6 (some .long) 2 := ⟨⟨nv_RX7, pd_29, sg5 (List.mem_of_getElem? (i := 235) rfl) rfl, sg1 (List.mem_of_getElem? (i := 8) rfl) rfl⟩, sg5 (List.mem_of_getElem? (i := 232) rfl) rfl, sg5 (List.mem_of_getElem? (i := 233) rfl) rfl, sg5 (List.mem_of_getElem? (i := 234) rfl) rfl⟩
set_option maxRecDepth 20000 in
theorem qX7_233 : Cond.constantLong RX7 233 1000000000 ∈ mc_WS := sg5 (List.mem_of_getElem? (i := 236) rfl) rfl
set_option maxRecDepth 20000 in
theorem qX7_235 : Cond.constantLong RX7 235 100 ∈ mc_WS := sg5 (List.mem_of_getElem? (i := 237) rfl) rfl
set_option maxRecDepth 20000 in
theorem kL_96 : mc_CV "NoZeroWithinLaw" 96 yX7_shortest cX7_shortest 11 (some .int) 3 := ⟨⟨nv_RX7, pd_26, sg6 (List.mem_of_getElem? (i := 1) rfl) rfl, sg1 (List.mem_of_getElem? (i := 8) rfl) rfl⟩, sg5 (List.mem_of_getElem? (i := 238) rfl) rfl, sg5 (List.mem_of_getElem? (i := 239) rfl) rfl, sg6 (List.mem_of_getElem? (i := 0) rfl) rfl⟩
set_option maxRecDepth 20000 in
theorem kX7_237 : mc_CV RX7 237 yX7_figuresAll cX7_figuresAll 5 (some .int) 2 := ⟨⟨nv_RX7, pd_5, sg6 (List.mem_of_getElem? (i := 5) rfl) rfl, sg1 (List.mem_of_getElem? (i := 8) rfl) rfl⟩, sg6 (List.mem_of_getElem? (i := 2) rfl) rfl, sg6 (List.mem_of_getElem? (i := 4) rfl) rfl, mc_sel (pr4 (List.mem_of_getElem? (i := 2) rfl))⟩
set_option maxRecDepth 20000 in
theorem kL_100 : mc_CV "NoZeroWithinLaw" 100 yX7_lend cX7_lend 5 (some .int) 3 := ⟨⟨nv_RX7, pd_26, sg6 (List.mem_of_getElem? (i := 9) rfl) rfl, sg1 (List.mem_of_getElem? (i := 8) rfl) rfl⟩, sg6 (List.mem_of_getElem? (i := 6) rfl) rfl, sg6 (List.mem_of_getElem? (i := 7) rfl) rfl, sg6 (List.mem_of_getElem? (i := 8) rfl) rfl⟩
set_option maxRecDepth 20000 in
theorem kX7_240 : mc_CS RX7 240 yX7_areFolk cX7_areFolk 2 (some .boolean) 2 := ⟨⟨nv_RX7, pd_37, sg6 (List.mem_of_getElem? (i := 12) rfl) rfl, sg1 (List.mem_of_getElem? (i := 8) rfl) rfl⟩, sg6 (List.mem_of_getElem? (i := 10) rfl) rfl, sg6 (List.mem_of_getElem? (i := 11) rfl) rfl⟩
set_option maxRecDepth 20000 in
theorem kL_104 : mc_CV "NoZeroWithinLaw" 104 yX7_debt cX7_debt 3 (some .int) 2 := ⟨⟨nv_RX7, pd_5, sg6 (List.mem_of_getElem? (i := 16) rfl) rfl, sg1 (List.mem_of_getElem? (i := 8) rfl) rfl⟩, sg6 (List.mem_of_getElem? (i := 13) rfl) rfl, sg6 (List.mem_of_getElem? (i := 14) rfl) rfl, sg6 (List.mem_of_getElem? (i := 15) rfl) rfl⟩
set_option maxRecDepth 20000 in
theorem kL_108 : mc_CV "NoZeroWithinLaw" 108 yX7_pay cX7_pay 5 (some .int) 3 := ⟨⟨nv_RX7, pd_26, sg6 (List.mem_of_getElem? (i := 20) rfl) rfl, sg1 (List.mem_of_getElem? (i := 8) rfl) rfl⟩, sg6 (List.mem_of_getElem? (i := 17) rfl) rfl, sg6 (List.mem_of_getElem? (i := 18) rfl) rfl, sg6 (List.mem_of_getElem? (i := 19) rfl) rfl⟩
set_option maxRecDepth 20000 in
theorem kL_112 : mc_CV "NoZeroWithinLaw" 112 yX7_rings cX7_rings 1 (some .int) 0 := ⟨⟨nv_RX7, pd_4, sg6 (List.mem_of_getElem? (i := 24) rfl) rfl, sg1 (List.mem_of_getElem? (i := 8) rfl) rfl⟩, sg6 (List.mem_of_getElem? (i := 21) rfl) rfl, sg6 (List.mem_of_getElem? (i := 22) rfl) rfl, sg6 (List.mem_of_getElem? (i := 23) rfl) rfl⟩
set_option maxRecDepth 20000 in
theorem kX7_247 : mc_CV RX7 247 yX7_ringsNow cX7_ringsNow 3 (some .int) 0 := ⟨⟨nv_RX7, pd_4, sg6 (List.mem_of_getElem? (i := 28) rfl) rfl, sg1 (List.mem_of_getElem? (i := 8) rfl) rfl⟩, sg6 (List.mem_of_getElem? (i := 25) rfl) rfl, sg6 (List.mem_of_getElem? (i := 27) rfl) rfl, mc_sel (pr4 (List.mem_of_getElem? (i := 3) rfl))⟩
set_option maxRecDepth 20000 in
theorem kX7_244 : mc_CV RX7 244 yX7_reachedFrom cX7_reachedFrom 7 (some .int) 1 := ⟨⟨nv_RX7, pd_3, sg6 (List.mem_of_getElem? (i := 32) rfl) rfl, sg1 (List.mem_of_getElem? (i := 8) rfl) rfl⟩, sg6 (List.mem_of_getElem? (i := 29) rfl) rfl, sg6 (List.mem_of_getElem? (i := 31) rfl) rfl, mc_sel (pr4 (List.mem_of_getElem? (i := 4) rfl))⟩
set_option maxRecDepth 20000 in
theorem kL_116 : mc_CV "NoZeroWithinLaw" 116 yX7_clear cX7_clear 7 (some .int) 0 := ⟨⟨nv_RX7, pd_4, sg6 (List.mem_of_getElem? (i := 36) rfl) rfl, sg1 (List.mem_of_getElem? (i := 8) rfl) rfl⟩, sg6 (List.mem_of_getElem? (i := 33) rfl) rfl, sg6 (List.mem_of_getElem? (i := 34) rfl) rfl, sg6 (List.mem_of_getElem? (i := 35) rfl) rfl⟩
set_option maxRecDepth 20000 in
theorem kX7_250 : mc_CS RX7 250 yX7_least cX7_least 2 (some .int) 2 := ⟨⟨nv_RX7, pd_5, sg6 (List.mem_of_getElem? (i := 39) rfl) rfl, sg1 (List.mem_of_getElem? (i := 8) rfl) rfl⟩, sg6 (List.mem_of_getElem? (i := 37) rfl) rfl, sg6 (List.mem_of_getElem? (i := 38) rfl) rfl⟩
set_option maxRecDepth 20000 in
theorem kL_120 : mc_CV "NoZeroWithinLaw" 120 yX7_forgive cX7_forgive 7 (some .int) 1 := ⟨⟨nv_RX7, pd_3, sg6 (List.mem_of_getElem? (i := 43) rfl) rfl, sg1 (List.mem_of_getElem? (i := 8) rfl) rfl⟩, sg6 (List.mem_of_getElem? (i := 40) rfl) rfl, sg6 (List.mem_of_getElem? (i := 41) rfl) rfl, sg6 (List.mem_of_getElem? (i := 42) rfl) rfl⟩
set_option maxRecDepth 20000 in
theorem kX7_253 : mc_CS RX7 253 yX7_ones cX7_ones 3 (some .int) 1 := ⟨⟨nv_RX7, pd_3, sg6 (List.mem_of_getElem? (i := 46) rfl) rfl, sg1 (List.mem_of_getElem? (i := 8) rfl) rfl⟩, sg6 (List.mem_of_getElem? (i := 44) rfl) rfl, sg6 (List.mem_of_getElem? (i := 45) rfl) rfl⟩
set_option maxRecDepth 20000 in
theorem kL_124 : mc_CV "NoZeroWithinLaw" 124 yX7_span cX7_span 3 (some .int) 2 := ⟨⟨nv_RX7, pd_5, sg6 (List.mem_of_getElem? (i := 50) rfl) rfl, sg1 (List.mem_of_getElem? (i := 8) rfl) rfl⟩, sg6 (List.mem_of_getElem? (i := 47) rfl) rfl, sg6 (List.mem_of_getElem? (i := 48) rfl) rfl, sg6 (List.mem_of_getElem? (i := 49) rfl) rfl⟩
set_option maxRecDepth 20000 in
theorem kX7_256 : mc_CS RX7 256 yX7_asIfZero cX7_asIfZero 1 (some .int) 1 := ⟨⟨nv_RX7, pd_3, sg6 (List.mem_of_getElem? (i := 53) rfl) rfl, sg1 (List.mem_of_getElem? (i := 8) rfl) rfl⟩, sg6 (List.mem_of_getElem? (i := 51) rfl) rfl, sg6 (List.mem_of_getElem? (i := 52) rfl) rfl⟩
set_option maxRecDepth 20000 in
theorem qX7_259 : Cond.constant RX7 259 (-100000) ∈ mc_WS := sg6 (List.mem_of_getElem? (i := 54) rfl) rfl
set_option maxRecDepth 20000 in
theorem kL_128 : mc_CV "NoZeroWithinLaw" 128 yX7_behind cX7_behind 4 (some .int) 2 := ⟨⟨nv_RX7, pd_5, sg6 (List.mem_of_getElem? (i := 58) rfl) rfl, sg1 (List.mem_of_getElem? (i := 8) rfl) rfl⟩, sg6 (List.mem_of_getElem? (i := 55) rfl) rfl, sg6 (List.mem_of_getElem? (i := 56) rfl) rfl, sg6 (List.mem_of_getElem? (i := 57) rfl) rfl⟩
set_option maxRecDepth 20000 in
theorem kX7_260 : mc_CS RX7 260 yX7_asYear cX7_asYear 1 (some .int) 1 := ⟨⟨nv_RX7, pd_3, sg6 (List.mem_of_getElem? (i := 61) rfl) rfl, sg1 (List.mem_of_getElem? (i := 8) rfl) rfl⟩, sg6 (List.mem_of_getElem? (i := 59) rfl) rfl, sg6 (List.mem_of_getElem? (i := 60) rfl) rfl⟩
set_option maxRecDepth 20000 in
theorem qX7_263 : Cond.constant RX7 263 (-100001) ∈ mc_WS := sg6 (List.mem_of_getElem? (i := 62) rfl) rfl
set_option maxRecDepth 20000 in
theorem kL_132 : mc_CV "NoZeroWithinLaw" 132 yX7_alike cX7_alike 10 (some .int) 3 := ⟨⟨nv_RX7, pd_26, sg6 (List.mem_of_getElem? (i := 66) rfl) rfl, sg1 (List.mem_of_getElem? (i := 8) rfl) rfl⟩, sg6 (List.mem_of_getElem? (i := 63) rfl) rfl, sg6 (List.mem_of_getElem? (i := 64) rfl) rfl, sg6 (List.mem_of_getElem? (i := 65) rfl) rfl⟩
set_option maxRecDepth 20000 in
theorem qX7_264 : Cond.constant RX7 264 (-100005) ∈ mc_WS := sg6 (List.mem_of_getElem? (i := 67) rfl) rfl
set_option maxRecDepth 20000 in
theorem qX7_265 : Cond.constant RX7 265 (-100007) ∈ mc_WS := sg6 (List.mem_of_getElem? (i := 68) rfl) rfl
set_option maxRecDepth 20000 in
theorem kX7_266 : mc_CV RX7 266 yX7_lastFigure cX7_lastFigure 3 (some .int) 2 := ⟨⟨nv_RX7, pd_5, sg6 (List.mem_of_getElem? (i := 72) rfl) rfl, sg1 (List.mem_of_getElem? (i := 8) rfl) rfl⟩, sg6 (List.mem_of_getElem? (i := 69) rfl) rfl, sg6 (List.mem_of_getElem? (i := 71) rfl) rfl, mc_sel (pr4 (List.mem_of_getElem? (i := 5) rfl))⟩
set_option maxRecDepth 20000 in
theorem kL_136 : mc_CV "NoZeroWithinLaw" 136 yX7_judge cX7_judge 4 (some .int) 2 := ⟨⟨nv_RX7, pd_5, sg6 (List.mem_of_getElem? (i := 76) rfl) rfl, sg1 (List.mem_of_getElem? (i := 8) rfl) rfl⟩, sg6 (List.mem_of_getElem? (i := 73) rfl) rfl, sg6 (List.mem_of_getElem? (i := 74) rfl) rfl, sg6 (List.mem_of_getElem? (i := 75) rfl) rfl⟩
set_option maxRecDepth 20000 in
theorem kX7_272 : mc_CV RX7 272 yX7_toldWrong cX7_toldWrong 4 (some .int) 2 := ⟨⟨nv_RX7, pd_5, sg6 (List.mem_of_getElem? (i := 80) rfl) rfl, sg1 (List.mem_of_getElem? (i := 8) rfl) rfl⟩, sg6 (List.mem_of_getElem? (i := 77) rfl) rfl, sg6 (List.mem_of_getElem? (i := 79) rfl) rfl, mc_sel (pr4 (List.mem_of_getElem? (i := 6) rfl))⟩
set_option maxRecDepth 20000 in
theorem kX7_269 : mc_CV RX7 269 yX7_sheetWrong cX7_sheetWrong 3 (some .int) 1 := ⟨⟨nv_RX7, pd_3, sg6 (List.mem_of_getElem? (i := 84) rfl) rfl, sg1 (List.mem_of_getElem? (i := 8) rfl) rfl⟩, sg6 (List.mem_of_getElem? (i := 81) rfl) rfl, sg6 (List.mem_of_getElem? (i := 83) rfl) rfl, mc_sel (pr4 (List.mem_of_getElem? (i := 7) rfl))⟩
set_option maxRecDepth 20000 in
theorem kX7_275 : mc_CV RX7 275 yX7_unlike cX7_unlike 4 (some .int) 2 := ⟨⟨nv_RX7, pd_5, sg6 (List.mem_of_getElem? (i := 88) rfl) rfl, sg1 (List.mem_of_getElem? (i := 8) rfl) rfl⟩, sg6 (List.mem_of_getElem? (i := 85) rfl) rfl, sg6 (List.mem_of_getElem? (i := 87) rfl) rfl, mc_sel (pr4 (List.mem_of_getElem? (i := 8) rfl))⟩
set_option maxRecDepth 20000 in
theorem kL_140 : mc_CV "NoZeroWithinLaw" 140 yX7_kinds cX7_kinds 10 (some .int) 3 := ⟨⟨nv_RX7, pd_26, sg6 (List.mem_of_getElem? (i := 92) rfl) rfl, sg1 (List.mem_of_getElem? (i := 8) rfl) rfl⟩, sg6 (List.mem_of_getElem? (i := 89) rfl) rfl, sg6 (List.mem_of_getElem? (i := 90) rfl) rfl, sg6 (List.mem_of_getElem? (i := 91) rfl) rfl⟩
set_option maxRecDepth 20000 in
theorem kL_144 : mc_CV "NoZeroWithinLaw" 144 yX7_whose cX7_whose 5 (some .int) 1 := ⟨⟨nv_RX7, pd_3, sg6 (List.mem_of_getElem? (i := 96) rfl) rfl, sg1 (List.mem_of_getElem? (i := 8) rfl) rfl⟩, sg6 (List.mem_of_getElem? (i := 93) rfl) rfl, sg6 (List.mem_of_getElem? (i := 94) rfl) rfl, sg6 (List.mem_of_getElem? (i := 95) rfl) rfl⟩
set_option maxRecDepth 20000 in
theorem kL_148 : mc_CV "NoZeroWithinLaw" 148 yX7_laws cX7_laws 7 (some .int) 2 := ⟨⟨nv_RX7, pd_5, sg6 (List.mem_of_getElem? (i := 100) rfl) rfl, sg1 (List.mem_of_getElem? (i := 8) rfl) rfl⟩, sg6 (List.mem_of_getElem? (i := 97) rfl) rfl, sg6 (List.mem_of_getElem? (i := 98) rfl) rfl, sg6 (List.mem_of_getElem? (i := 99) rfl) rfl⟩
set_option maxRecDepth 20000 in
theorem kL_152 : mc_CV "NoZeroWithinLaw" 152 yX7_film cX7_film 10 (some .int) 4 := ⟨⟨nv_RX7, pd_21, sg6 (List.mem_of_getElem? (i := 104) rfl) rfl, sg1 (List.mem_of_getElem? (i := 8) rfl) rfl⟩, sg6 (List.mem_of_getElem? (i := 101) rfl) rfl, sg6 (List.mem_of_getElem? (i := 102) rfl) rfl, sg6 (List.mem_of_getElem? (i := 103) rfl) rfl⟩
set_option maxRecDepth 20000 in
theorem qX7_278 : Cond.constantLong RX7 278 2147483647 ∈ mc_WS := sg6 (List.mem_of_getElem? (i := 105) rfl) rfl
set_option maxRecDepth 20000 in
theorem qX7_280 : Cond.constant RX7 280 2147483647 ∈ mc_WS := sg6 (List.mem_of_getElem? (i := 106) rfl) rfl
set_option maxRecDepth 20000 in
theorem kL_156 : mc_CV "NoZeroWithinLaw" 156 yX7_drawn cX7_drawn 4 (some .long) 3 := ⟨⟨nv_RX7, pd_32, sg6 (List.mem_of_getElem? (i := 110) rfl) rfl, sg1 (List.mem_of_getElem? (i := 8) rfl) rfl⟩, sg6 (List.mem_of_getElem? (i := 107) rfl) rfl, sg6 (List.mem_of_getElem? (i := 108) rfl) rfl, sg6 (List.mem_of_getElem? (i := 109) rfl) rfl⟩
set_option maxRecDepth 20000 in
theorem kX7_283 : mc_CV RX7 283 yX7_slipsBy cX7_slipsBy 8 (some .long) 3 := ⟨⟨nv_RX7, pd_32, sg6 (List.mem_of_getElem? (i := 114) rfl) rfl, sg1 (List.mem_of_getElem? (i := 8) rfl) rfl⟩, sg6 (List.mem_of_getElem? (i := 111) rfl) rfl, sg6 (List.mem_of_getElem? (i := 113) rfl) rfl, mc_sel (pr4 (List.mem_of_getElem? (i := 9) rfl))⟩
set_option maxRecDepth 20000 in
theorem qX7_281 : Cond.constantLong RX7 281 48271 ∈ mc_WS := sg6 (List.mem_of_getElem? (i := 115) rfl) rfl
set_option maxRecDepth 20000 in
theorem kL_161 : mc_CV "NoZeroWithinLaw" 161 yX7_odds cX7_odds 11 (some .long) 5 := ⟨⟨nv_RX7, pd_41, sg6 (List.mem_of_getElem? (i := 119) rfl) rfl, sg1 (List.mem_of_getElem? (i := 8) rfl) rfl⟩, sg6 (List.mem_of_getElem? (i := 116) rfl) rfl, sg6 (List.mem_of_getElem? (i := 117) rfl) rfl, sg6 (List.mem_of_getElem? (i := 118) rfl) rfl⟩
set_option maxRecDepth 20000 in
theorem qX7_286 : Cond.constantLong RX7 286 (-4611686018427387904) ∈ mc_WS := sg6 (List.mem_of_getElem? (i := 120) rfl) rfl
set_option maxRecDepth 20000 in
theorem pd_49 : (parseMethodDescriptor "(JJI)J").map (fun d => d.parameters.length) = some 3 := by decide +kernel
set_option maxRecDepth 20000 in
theorem kX7_288 : mc_CS RX7 288 yX7_lowest cX7_lowest 11 (some .long) 3 := ⟨⟨nv_RX7, pd_49, sg6 (List.mem_of_getElem? (i := 123) rfl) rfl, sg1 (List.mem_of_getElem? (i := 8) rfl) rfl⟩, sg6 (List.mem_of_getElem? (i := 121) rfl) rfl, sg6 (List.mem_of_getElem? (i := 122) rfl) rfl⟩
set_option maxRecDepth 20000 in
theorem kL_165 : mc_CV "NoZeroWithinLaw" 165 yX7_image cX7_image 2 (some .int) 0 := ⟨⟨nv_RX7, pd_4, sg6 (List.mem_of_getElem? (i := 127) rfl) rfl, sg1 (List.mem_of_getElem? (i := 8) rfl) rfl⟩, sg6 (List.mem_of_getElem? (i := 124) rfl) rfl, sg6 (List.mem_of_getElem? (i := 125) rfl) rfl, sg6 (List.mem_of_getElem? (i := 126) rfl) rfl⟩
set_option maxRecDepth 20000 in
theorem kL_169 : mc_CV "NoZeroWithinLaw" 169 yX7_back cX7_back 2 (some .int) 0 := ⟨⟨nv_RX7, pd_4, sg6 (List.mem_of_getElem? (i := 131) rfl) rfl, sg1 (List.mem_of_getElem? (i := 8) rfl) rfl⟩, sg6 (List.mem_of_getElem? (i := 128) rfl) rfl, sg6 (List.mem_of_getElem? (i := 129) rfl) rfl, sg6 (List.mem_of_getElem? (i := 130) rfl) rfl⟩
set_option maxRecDepth 20000 in
theorem kL_173 : mc_CV "NoZeroWithinLaw" 173 yX7_sheet cX7_sheet 5 (some .int) 3 := ⟨⟨nv_RX7, pd_26, sg6 (List.mem_of_getElem? (i := 135) rfl) rfl, sg1 (List.mem_of_getElem? (i := 8) rfl) rfl⟩, sg6 (List.mem_of_getElem? (i := 132) rfl) rfl, sg6 (List.mem_of_getElem? (i := 133) rfl) rfl, sg6 (List.mem_of_getElem? (i := 134) rfl) rfl⟩
set_option maxRecDepth 20000 in
theorem kL_177 : mc_CV "NoZeroWithinLaw" 177 yX7_cell cX7_cell 4 (some .int) 3 := ⟨⟨nv_RX7, pd_26, sg6 (List.mem_of_getElem? (i := 139) rfl) rfl, sg1 (List.mem_of_getElem? (i := 8) rfl) rfl⟩, sg6 (List.mem_of_getElem? (i := 136) rfl) rfl, sg6 (List.mem_of_getElem? (i := 137) rfl) rfl, sg6 (List.mem_of_getElem? (i := 138) rfl) rfl⟩
set_option maxRecDepth 20000 in
theorem kL_182 : mc_CV "NoZeroWithinLaw" 182 yX7_copy cX7_copy 10 (some .int) 5 := ⟨⟨nv_RX7, pd_44, sg6 (List.mem_of_getElem? (i := 143) rfl) rfl, sg1 (List.mem_of_getElem? (i := 8) rfl) rfl⟩, sg6 (List.mem_of_getElem? (i := 140) rfl) rfl, sg6 (List.mem_of_getElem? (i := 141) rfl) rfl, sg6 (List.mem_of_getElem? (i := 142) rfl) rfl⟩
set_option maxRecDepth 20000 in
theorem kL_186 : mc_CV "NoZeroWithinLaw" 186 yX7_clerksBy cX7_clerksBy 9 (some .int) 4 := ⟨⟨nv_RX7, pd_21, sg6 (List.mem_of_getElem? (i := 147) rfl) rfl, sg1 (List.mem_of_getElem? (i := 8) rfl) rfl⟩, sg6 (List.mem_of_getElem? (i := 144) rfl) rfl, sg6 (List.mem_of_getElem? (i := 145) rfl) rfl, sg6 (List.mem_of_getElem? (i := 146) rfl) rfl⟩
set_option maxRecDepth 20000 in
theorem kX7_308 : mc_CV RX7 308 yX7_clerk cX7_clerk 3 (some .int) 2 := ⟨⟨nv_RX7, pd_5, sg5 (List.mem_of_getElem? (i := 131) rfl) rfl, sg1 (List.mem_of_getElem? (i := 8) rfl) rfl⟩, sg6 (List.mem_of_getElem? (i := 148) rfl) rfl, sg5 (List.mem_of_getElem? (i := 129) rfl) rfl, sg5 (List.mem_of_getElem? (i := 130) rfl) rfl⟩
set_option maxRecDepth 20000 in
theorem kL_190 : mc_CV "NoZeroWithinLaw" 190 yX7_taken cX7_taken 5 (some .int) 2 := ⟨⟨nv_RX7, pd_5, sg6 (List.mem_of_getElem? (i := 152) rfl) rfl, sg1 (List.mem_of_getElem? (i := 8) rfl) rfl⟩, sg6 (List.mem_of_getElem? (i := 149) rfl) rfl, sg6 (List.mem_of_getElem? (i := 150) rfl) rfl, sg6 (List.mem_of_getElem? (i := 151) rfl) rfl⟩
set_option maxRecDepth 20000 in
theorem kX7_311 : mc_CS RX7 311 yX7_isUnder cX7_isUnder 2 (some .boolean) 2 := ⟨⟨nv_RX7, pd_37, sg6 (List.mem_of_getElem? (i := 155) rfl) rfl, sg1 (List.mem_of_getElem? (i := 8) rfl) rfl⟩, sg6 (List.mem_of_getElem? (i := 153) rfl) rfl, sg6 (List.mem_of_getElem? (i := 154) rfl) rfl⟩
set_option maxRecDepth 20000 in
theorem sJ0_9 : Cond.fieldLink RJ0 9 "java/lang/String" "value" "[B" ∈ mc_WS := sg6 (List.mem_of_getElem? (i := 156) rfl) rfl
set_option maxRecDepth 20000 in
theorem sJ0_15 : Cond.fieldLink RJ0 15 "java/lang/String" "coder" "B" ∈ mc_WS := sg6 (List.mem_of_getElem? (i := 157) rfl) rfl
set_option maxRecDepth 20000 in
theorem kX1_35 : mc_CN RX1 35 yX6_isOfKind cX6_isOfKind 4 (some .boolean) 2 := ⟨⟨nv_RX6, pd_37, sg2 (List.mem_of_getElem? (i := 230) rfl) rfl, sg1 (List.mem_of_getElem? (i := 1) rfl) rfl⟩, by decide +kernel, sg2 (List.mem_of_getElem? (i := 229) rfl) rfl⟩
set_option maxRecDepth 20000 in
theorem kX0_18 : mc_CN RX0 18 yX6_isFolk cX6_isFolk 1 (some .boolean) 1 := ⟨⟨nv_RX6, pd_7, sg3 (List.mem_of_getElem? (i := 157) rfl) rfl, sg1 (List.mem_of_getElem? (i := 1) rfl) rfl⟩, by decide +kernel, sg3 (List.mem_of_getElem? (i := 156) rfl) rfl⟩
set_option maxRecDepth 20000 in
theorem kX0_22 : mc_CN RX0 22 yX6_areTwoFolk cX6_areTwoFolk 2 (some .boolean) 2 := ⟨⟨nv_RX6, pd_37, sg3 (List.mem_of_getElem? (i := 154) rfl) rfl, sg1 (List.mem_of_getElem? (i := 1) rfl) rfl⟩, by decide +kernel, sg3 (List.mem_of_getElem? (i := 153) rfl) rfl⟩
set_option maxRecDepth 20000 in
theorem insX6 : Cond.instantiable RX6 14 ∈ mc_WS := sg1 (List.mem_of_getElem? (i := 18) rfl) rfl
set_option maxRecDepth 20000 in
theorem iniX6 : Cond.initialized RX6 ∈ mc_WS := sg1 (List.mem_of_getElem? (i := 1) rfl) rfl
set_option maxRecDepth 20000 in
theorem insX0 : Cond.instantiable RX0 2 ∈ mc_WS := sg1 (List.mem_of_getElem? (i := 80) rfl) rfl
set_option maxRecDepth 20000 in
theorem iniX0 : Cond.initialized RX0 ∈ mc_WS := sg1 (List.mem_of_getElem? (i := 4) rfl) rfl
set_option maxRecDepth 20000 in
theorem insX1 : Cond.instantiable RX1 6 ∈ mc_WS := sg1 (List.mem_of_getElem? (i := 120) rfl) rfl
set_option maxRecDepth 20000 in
theorem iniX1 : Cond.initialized RX1 ∈ mc_WS := sg1 (List.mem_of_getElem? (i := 6) rfl) rfl
set_option maxRecDepth 20000 in
theorem insX2 : Cond.instantiable RX2 6 ∈ mc_WS := sg1 (List.mem_of_getElem? (i := 93) rfl) rfl
set_option maxRecDepth 20000 in
theorem iniX2 : Cond.initialized RX2 ∈ mc_WS := sg1 (List.mem_of_getElem? (i := 5) rfl) rfl
set_option maxRecDepth 20000 in
theorem insX3 : Cond.instantiable RX3 3 ∈ mc_WS := sg1 (List.mem_of_getElem? (i := 144) rfl) rfl
set_option maxRecDepth 20000 in
theorem iniX3 : Cond.initialized RX3 ∈ mc_WS := sg1 (List.mem_of_getElem? (i := 7) rfl) rfl
set_option maxRecDepth 20000 in
theorem insX4 : Cond.instantiable RX4 9 ∈ mc_WS := sg1 (List.mem_of_getElem? (i := 44) rfl) rfl
set_option maxRecDepth 20000 in
theorem iniX4 : Cond.initialized RX4 ∈ mc_WS := sg1 (List.mem_of_getElem? (i := 3) rfl) rfl
set_option maxRecDepth 20000 in
theorem insX5 : Cond.instantiable RX5 3 ∈ mc_WS := sg1 (List.mem_of_getElem? (i := 26) rfl) rfl
set_option maxRecDepth 20000 in
theorem iniX5 : Cond.initialized RX5 ∈ mc_WS := sg1 (List.mem_of_getElem? (i := 2) rfl) rfl
set_option maxRecDepth 20000 in
theorem insX7 : Cond.instantiable RX7 35 ∈ mc_WS := sg4 (List.mem_of_getElem? (i := 161) rfl) rfl
set_option maxRecDepth 20000 in
theorem iniX7 : Cond.initialized RX7 ∈ mc_WS := sg1 (List.mem_of_getElem? (i := 8) rfl) rfl
set_option maxRecDepth 20000 in
theorem ini_Sys : Cond.initialized "java/lang/System" ∈ mc_WS := sg1 (List.mem_of_getElem? (i := 15) rfl) rfl
set_option maxRecDepth 20000 in
theorem nat_cpy : Cond.native arraycopyName ∈ mc_WS := sg2 (List.mem_of_getElem? (i := 159) rfl) rfl
set_option maxRecDepth 20000 in
theorem sta_cpy : Cond.static arraycopyName ∈ mc_WS := sg2 (List.mem_of_getElem? (i := 158) rfl) rfl
set_option maxRecDepth 20000 in
theorem obj_inst : Cond.instanceMethod Lib.objectInit ∈ mc_WS := sg1 (List.mem_of_getElem? (i := 23) rfl) rfl
set_option maxRecDepth 20000 in
theorem obj_code : Cond.code Lib.objectInit ⟨#[0xb1]⟩ 1 none ∈ mc_WS := sg1 (List.mem_of_getElem? (i := 24) rfl) rfl
set_option maxRecDepth 20000 in
theorem arr_int : Cond.arrayClass .int ∈ mc_WS := sg1 (List.mem_of_getElem? (i := 41) rfl) rfl
