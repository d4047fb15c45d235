/-! calls: the whole world goes in, a world comes back -/
def mc_CB (y : MethodName) (cc : ByteArray) (nL : Nat) (ret : Option FieldType) (n : Nat) : Prop :=
  (y.cls ≠ "java/lang/invoke/MethodHandle" ∧ y.cls ≠ "java/lang/invoke/VarHandle") ∧ (parseMethodDescriptor y.desc).map (fun d => d.parameters.length) = some n ∧ Cond.code y cc nL ret ∈ mc_WS ∧ Cond.initialized y.cls ∈ mc_WS
def mc_CV (own : String) (i : Nat) (y : MethodName) (cc : ByteArray) (nL : Nat) (ret : Option FieldType) (n : Nat) : Prop := mc_CB y cc nL ret n ∧ Cond.methodLink own i y ∈ mc_WS ∧ Cond.instanceMethod y ∈ mc_WS ∧ Cond.selects y.cls y y ∈ mc_WS
def mc_CS (own : String) (i : Nat) (y : MethodName) (cc : ByteArray) (nL : Nat) (ret : Option FieldType) (n : Nat) : Prop := mc_CB y cc nL ret n ∧ Cond.methodLink own i y ∈ mc_WS ∧ Cond.static y ∈ mc_WS
def mc_CI (own : String) (i : Nat) (y : MethodName) (cc : ByteArray) (nL : Nat) (n : Nat) : Prop := mc_CB y cc nL none n ∧ Cond.methodLink own i y ∈ mc_WS ∧ Cond.instanceMethod y ∈ mc_WS ∧ y.name = "<init>"
def mc_CN (own : String) (i : Nat) (y : MethodName) (cc : ByteArray) (nL : Nat) (ret : Option FieldType) (n : Nat) : Prop := mc_CB y cc nL ret n ∧ (own, i, y) ∈ mc_ns ∧ Cond.static y ∈ mc_WS
/-- there is room for the call -/
def mc_CR (J : mc_J) (d mc ms nL kc ks : Nat) : Prop := d + 1 ≤ J.2.2.1.frames ∧ 8 + (nL + 11) + 64 * d ≤ J.2.2.1.locals ∧ kc + mc ≤ J.2.2.1.cells ∧ ks + ms ≤ J.2.2.1.slots
theorem mc_CB_good {y : MethodName} {cc : ByteArray} {nL n : Nat} {ret : Option FieldType} (h : mc_CB y cc nL ret n) : GoodIn mc_WS (Cond.code y cc nL ret :: mc_WS) := by
  intro w hw
  rcases List.mem_cons.mp hw with rfl | hw
  · exact mc_WS_self _ h.2.2.1
  · exact mc_WS_self _ hw
theorem mc_Pc_blind {g : mc_G} {av : List Value} {w : mc_W} : FrameBlind (mc_Pc g av w) :=
  fun a U gf mk q => ⟨q.1, mc_GG_calling q.2.1, q.2.2.1, q.2.2.2.1, q.2.2.2.2⟩
theorem mc_Pc_pre {g : mc_G} {av : List Value} {w : mc_W} {s U : State} {H : Heap} {locs : List Loc} (G : mc_GG g s) (R : mc_Rel g w s H locs) (hU : U.heap = H) (hW : s.WarmedH U.vm) : mc_Pc g av w (av.map (mc_vm g)).toArray U :=
  ⟨rfl, mc_GG_moved G hW R.2.2.1.2.1 (Nat.le_trans G.2.1 R.2.2.1.1) hU, by rw [hU]; exact R.1, by rw [hU]; exact R.2.1, R.2.2.2⟩
section Goes
variable {p : Program} {l : Launch} {e : Env} {R : Room} {s : State} {m : MethodId} {args : Array Value} {below : List Frame} {meth : Method} {c : Code} {H : Heap} {locs : List Loc} {cells slots : Nat} {Q : State → Prop}
variable {pc : Nat} {ls : Array Slot} {rest st0 : List Value} {g : mc_G} {w : mc_W}
theorem mc_go {mc ms : Nat} {P2 : Option Value → mc_W → Prop} {a : Array Value} (hr : va_Run p l e R s m args below meth c H locs cells slots mc ms (F0 m pc ls st0) rest (mc_Q g P2 a) (mc_A g)) (R0 : mc_Rel g w s H locs)
    (kk : ∀ (r : Option Value) (w' : mc_W) (H1 : Heap) (locs1 : List Loc), P2 r w' → mc_Rel g w' s H1 locs1 → W p l e R s m args below meth c H1 locs1 (cells + mc) (slots + ms) Q (F0 m (pc + 3) ls ((r.map (mc_vm g)).toList ++ rest))) : W p l e R s m args below meth c H locs cells slots Q (F0 m pc ls st0) := by
  intro T hT X
  obtain ⟨v, st₀, t, T', L, h0, X', hL, e1, e2, ⟨⟨r, w', hv, hp, hz, hP, hlen⟩, hsz, hk⟩, st⟩ := hr T hT X
  cases hv
  rw [h0] at hsz hk
  obtain ⟨t2, a1, b1⟩ := kk r w' T'.heap (locs ++ L) hp ⟨by rw [e1]; exact hz, by rw [e1]; exact hP,
    ⟨Nat.le_trans R0.2.2.1.1 (by rw [e1]; exact hsz), fun q h1 h2 => by rw [e1, hk q (Nat.lt_of_lt_of_le h1 R0.2.2.1.1) h2]; exact R0.2.2.1.2.1 q h1 h2, fun q hq => by
      rcases List.mem_append.mp hq with h | h
      · exact R0.2.2.1.2.2 q h
      · exact hL q h⟩, hlen⟩ T' rfl X'
  exact ⟨t2, st t2 a1, b1⟩
end Goes
section Rules5
variable {own : String} {cc : ByteArray} {nL : Nat} {J : mc_J} {pc : Nat} {L : List (Option Value)} {st st0 : List Value} {w : mc_W} {kc ks : Nat}
variable {y : MethodName} {c2 : ByteArray} {n2 : Nat} {ret2 : Option FieldType} {d mc ms n i : Nat} {As : List Value} {P2 : Option Value → mc_W → Prop}
theorem e_callV {a ci : Nat} {fs : List Value} {C : String} {T0 : u_T} {N : Nat} (hS : mc_S y c2 n2 ret2 d mc ms (.ref a :: As) w P2) (hd : decode cc pc = .ok (.invokevirtual i, 3)) (hf : mc_CV own i y c2 n2 ret2 n) (hw : w[a]? = some (.inl (ci, fs))) (hc : mc_cl[ci]? = some (C, T0, N)) (hC : y.cls = C) (hn : As.length = n) (hR : mc_CR J d mc ms n2 kc ks) (hst : st0 = As.reverse ++ .ref a :: st) (hs : (st.map fun v => v.category).sum ≤ 8)
    (kk : ∀ (r : Option Value) (w' : mc_W), P2 r w' → mc_E own cc nL J (pc + 3) L (r.toList ++ st) w' (kc + mc) (ks + ms)) : mc_E own cc nL J pc L st0 w kc ks := by
  intro p l e s m args below meth c H locs ls g X G R T hl
  subst hst
  subst hC
  obtain ⟨hB, h1, h2, h3⟩ := hf
  have hts := X.2.2.2.2.1
  refine mc_go (P2 := P2) (rest := st.map (mc_vm g)) (va_runV (b := mc_ra g a) (As := As.map (mc_vm g)) (Ts := mc_WS) ⟨X.1, X.2.1, X.2.2.1, X.2.2.2.1, hts⟩ (hS l g)
    ⟨callB_of n hts (mc_CB_good hB) rfl rfl rfl (hts _ hB.2.2.2) (hts _ h1) ⟨hB.1.1, hB.1.2, hB.2.1⟩ ⟨hR.1, hR.2.1⟩, hts _ h2, hts _ h3⟩
    ⟨mc_Pc_blind, ?_, fun U hU hW => mc_Pc_pre G R hU hW⟩ rfl (by rw [List.length_map]; exact hn) hl.1 (by show List.map _ _ = _; rw [List.map_append, List.map_reverse]; rfl) (lv_room (by rw [mc_catsum]; exact hs)) hd hR.2.2) R (fun r w' H1 locs1 hp R1 => ?_)
  · have ea : mc_ra g a = g.1 + a := mc_ra_lt (mc_lt_of hw R.2.2.2)
    rw [ea]
    exact va_recv (q := (y.cls, T0, N)) G.1 R.2.1 hc (mc_rl_at hw)
  · have K := kk r w' hp p l e s m args below meth c H1 locs1 ls g X G R1 T hl
    rw [List.map_append] at K
    cases r <;> exact K
theorem e_callS (hS : mc_S y c2 n2 ret2 d mc ms As w P2) (hd : decode cc pc = .ok (.invokestatic i, 3)) (hf : mc_CS own i y c2 n2 ret2 n) (hn : As.length = n) (hR : mc_CR J d mc ms n2 kc ks) (hst : st0 = As.reverse ++ st) (hs : (st.map fun v => v.category).sum ≤ 8)
    (kk : ∀ (r : Option Value) (w' : mc_W), P2 r w' → mc_E own cc nL J (pc + 3) L (r.toList ++ st) w' (kc + mc) (ks + ms)) : mc_E own cc nL J pc L st0 w kc ks := by
  intro p l e s m args below meth c H locs ls g X G R T hl
  subst hst
  obtain ⟨hB, h1, h2⟩ := hf
  have hts := X.2.2.2.2.1
  refine mc_go (P2 := P2) (rest := st.map (mc_vm g)) (va_runS (As := As.map (mc_vm g)) (Ts := mc_WS) ⟨X.1, X.2.1, X.2.2.1, X.2.2.2.1, hts⟩ (hS l g)
    ⟨callB_of n hts (mc_CB_good hB) rfl rfl rfl (hts _ hB.2.2.2) (hts _ h1) ⟨hB.1.1, hB.1.2, hB.2.1⟩ ⟨hR.1, hR.2.1⟩, hts _ h2⟩
    ⟨mc_Pc_blind, fun U hU hW => mc_Pc_pre G R hU hW⟩ rfl (by rw [List.length_map]; exact hn) hl.1 (by show List.map _ _ = _; rw [List.map_append, List.map_reverse]) (lv_room (by rw [mc_catsum]; exact hs)) hd hR.2.2) R (fun r w' H1 locs1 hp R1 => ?_)
  have K := kk r w' hp p l e s m args below meth c H1 locs1 ls g X G R1 T hl
  rw [List.map_append] at K
  cases r <;> exact K
theorem e_callN (hS : mc_S y c2 n2 ret2 d mc ms As w P2) (hd : decode cc pc = .ok (.invokestatic i, 3)) (hf : mc_CN own i y c2 n2 ret2 n) (hn : As.length = n) (hR : mc_CR J d mc ms n2 kc ks) (hst : st0 = As.reverse ++ st) (hs : (st.map fun v => v.category).sum ≤ 8)
    (kk : ∀ (r : Option Value) (w' : mc_W), P2 r w' → mc_E own cc nL J (pc + 3) L (r.toList ++ st) w' (kc + mc) (ks + ms)) : mc_E own cc nL J pc L st0 w kc ks := by
  intro p l e s m args below meth c H locs ls g X G R T hl
  subst hst
  obtain ⟨hB, h1, h2⟩ := hf
  have hts := X.2.2.2.2.1
  have hNw := G.2.2.2.2.2.2.2.2.1 _ h1
  refine mc_go (P2 := P2) (rest := st.map (mc_vm g)) (va_runSN (host := "NoZeroWithin") (As := As.map (mc_vm g)) (Ts := mc_WS) ⟨X.1, X.2.1, X.2.2.1, X.2.2.2.1, hts⟩ (hS l g)
    ⟨va_cnB n hts (mc_CB_good hB) rfl rfl rfl hNw (hts _ hB.2.2.2) ⟨hB.1.1, hB.1.2, hB.2.1⟩ ⟨hR.1, hR.2.1⟩, hts _ h2, trivial⟩
    ⟨mc_Pc_blind, fun U hU hW => mc_Pc_pre G R hU hW⟩ rfl (by rw [List.length_map]; exact hn) hl.1 (by show List.map _ _ = _; rw [List.map_append, List.map_reverse]) (lv_room (by rw [mc_catsum]; exact hs)) hd hR.2.2) R (fun r w' H1 locs1 hp R1 => ?_)
  have K := kk r w' hp p l e s m args below meth c H1 locs1 ls g X G R1 T hl
  rw [List.map_append] at K
  cases r <;> exact K
theorem e_callI {a : Nat} (hS : mc_S y c2 n2 none d mc ms (.ref a :: As) w P2) (hd : decode cc pc = .ok (.invokespecial i, 3)) (hf : mc_CI own i y c2 n2 n) (hn : As.length = n) (hR : mc_CR J d mc ms n2 kc ks) (hst : st0 = As.reverse ++ .ref a :: st) (hs : (st.map fun v => v.category).sum ≤ 8)
    (kk : ∀ (r : Option Value) (w' : mc_W), P2 r w' → mc_E own cc nL J (pc + 3) L (r.toList ++ st) w' (kc + mc) (ks + ms)) : mc_E own cc nL J pc L st0 w kc ks := by
  intro p l e s m args below meth c H locs ls g X G R T hl
  subst hst
  obtain ⟨hB, h1, h2, h3⟩ := hf
  have hts := X.2.2.2.2.1
  refine mc_go (P2 := P2) (rest := st.map (mc_vm g)) (va_runI (b := mc_ra g a) (As := As.map (mc_vm g)) (Ts := mc_WS) ⟨X.1, X.2.1, X.2.2.1, X.2.2.2.1, hts⟩ (hS l g)
    ⟨callB_of n hts (mc_CB_good hB) rfl rfl rfl (hts _ hB.2.2.2) (hts _ h1) ⟨hB.1.1, hB.1.2, hB.2.1⟩ ⟨hR.1, hR.2.1⟩, h3, hts _ h2⟩
    ⟨mc_Pc_blind, fun U hU hW => mc_Pc_pre G R hU hW⟩ rfl (by rw [List.length_map]; exact hn) hl.1 (by show List.map _ _ = _; rw [List.map_append, List.map_reverse]; rfl) (lv_room (by rw [mc_catsum]; exact hs)) hd hR.2.2) R (fun r w' H1 locs1 hp R1 => ?_)
  have K := kk r w' hp p l e s m args below meth c H1 locs1 ls g X G R1 T hl
  rw [List.map_append] at K
  cases r <;> exact K
end Rules5
/-! what stood there before: the row of kinds, the texts, the statics -/
section Rules6
variable {own : String} {cc : ByteArray} {nL : Nat} {J : mc_J} {pc : Nat} {L : List (Option Value)} {st : List Value} {w : mc_W} {kc ks : Nat}
theorem mc_ra_old (g : mc_G) (k : Nat) : mc_ra g (1000000 + k) = g.2.2.2 k := by
  unfold mc_ra
  rw [if_neg (by omega), Nat.add_sub_cancel_left]
theorem e_getsKA {i : Nat} (hd : decode cc pc = .ok (.getstatic i, 3)) (hf : Cond.fieldLink own i "NoZeroWithin" "KIND_ABOVE" "[I" ∈ mc_WS) (kk : mc_E own cc nL J (pc + 3) L (.ref 1000000 :: st) w kc ks) : mc_E own cc nL J pc L st w kc ks := by
  intro p l e s m args below meth c H locs ls g X G R T hl
  have K := kk p l e s m args below meth c H locs ls g X G R T hl
  rw [show List.map (mc_vm g) (.ref 1000000 :: st) = .ref (mc_ra g (1000000 + 0)) :: st.map (mc_vm g) from rfl, mc_ra_old] at K
  exact va_gets X.1 X.2.1 G.2.2.1 R.2.2.1 X.2.2.2.1 (X.2.2.2.2.1 _ hf) (fun x h => h) hd K
theorem e_getsCS {i : Nat} (hd : decode cc pc = .ok (.getstatic i, 3)) (hf : Cond.fieldLink own i "java/lang/String" "COMPACT_STRINGS" "Z" ∈ mc_WS) (kk : mc_E own cc nL J (pc + 3) L (.int 1 :: st) w kc ks) : mc_E own cc nL J pc L st w kc ks := by
  intro p l e s m args below meth c H locs ls g X G R T hl
  exact va_gets X.1 X.2.1 G.2.2.2.2.1 R.2.2.1 X.2.2.2.1 (X.2.2.2.2.1 _ hf) (fun x h => h) hd (kk p l e s m args below meth c H locs ls g X G R T hl)
theorem e_getsFM {i : Nat} (hd : decode cc pc = .ok (.getstatic i, 3)) (hf : Cond.fieldLink own i "jdk/internal/util/Preconditions" "SIOOBE_FORMATTER" "Ljava/util/function/BiFunction;" ∈ mc_WS) (k1 : mc_E own cc nL J (pc + 3) L (.null :: st) w kc ks) (k2 : mc_E own cc nL J (pc + 3) L (.ref 1000200 :: st) w kc ks) : mc_E own cc nL J pc L st w kc ks := by
  intro p l e s m args below meth c H locs ls g X G R T hl
  rcases G.2.2.2.2.2.1 with h6 | h6
  · exact va_gets X.1 X.2.1 h6 R.2.2.1 X.2.2.2.1 (X.2.2.2.2.1 _ hf) (fun x h => h) hd (k1 p l e s m args below meth c H locs ls g X G R T hl)
  · have K := k2 p l e s m args below meth c H locs ls g X G R T hl
    rw [show List.map (mc_vm g) (.ref 1000200 :: st) = .ref (mc_ra g (1000000 + 200)) :: st.map (mc_vm g) from rfl, mc_ra_old] at K
    exact va_gets X.1 X.2.1 h6 R.2.2.1 X.2.2.2.1 (X.2.2.2.2.1 _ hf) (fun x h => h) hd K
theorem e_ialdKA {i x : Int32} (hd : decode cc pc = .ok (.iaload, 1)) (hi : vp_in i 6) (hx : mc_ka.getD i.toNatClampNeg 0 = x) (kk : mc_E own cc nL J (pc + 1) L (.int x :: st) w kc ks) : mc_E own cc nL J pc L (.int i :: .ref 1000000 :: st) w kc ks := by
  intro p l e s m args below meth c H locs ls g X G R T hl
  subst hx
  show W _ _ _ _ _ _ _ _ _ _ _ _ _ _ _ (F0 m pc ls (.int i :: .ref (mc_ra g (1000000 + 0)) :: st.map (mc_vm g)))
  rw [mc_ra_old]
  exact va_ti X.1 X.2.1 G.2.2.2.1 R.2.2.1 hi rfl hd (kk p l e s m args below meth c H locs ls g X G R T hl)
theorem e_alenKA (hd : decode cc pc = .ok (.arraylength, 1)) (kk : mc_E own cc nL J (pc + 1) L (.int 6 :: st) w kc ks) : mc_E own cc nL J pc L (.ref 1000000 :: st) w kc ks := by
  intro p l e s m args below meth c H locs ls g X G R T hl
  show W _ _ _ _ _ _ _ _ _ _ _ _ _ _ _ (F0 m pc ls (.ref (mc_ra g (1000000 + 0)) :: st.map (mc_vm g)))
  rw [mc_ra_old]
  exact va_tlen X.1 X.2.1 G.2.2.2.1 R.2.2.1 (v := 6) rfl hd (kk p l e s m args below meth c H locs ls g X G R T hl)
/-- the texts: number j of twelve at 1000001 + j, its bytes at 1000101 + j -/
theorem e_ldcS {i j : Nat} {tx : String} (hd : decode cc pc = .ok (.ldc i, 2)) (ho : own = "NoZeroWithin$Tape") (hj : j < 12) (hq : mc_tx[j]? = some (i, tx)) (kk : mc_E own cc nL J (pc + 2) L (.ref (1000000 + (1 + j)) :: st) w kc ks) : mc_E own cc nL J pc L st w kc ks := by
  intro p l e s m args below meth c H locs ls g X G R T hl
  subst ho
  have K := kk p l e s m args below meth c H locs ls g X G R T hl
  rw [show List.map (mc_vm g) (.ref (1000000 + (1 + j)) :: st) = .ref (mc_ra g (1000000 + (1 + j))) :: st.map (mc_vm g) from rfl, mc_ra_old] at K
  exact va_ldcS X.1 X.2.1 X.2.2.2.1 (G.2.2.2.2.2.2.2.1 j hj _ hq) hd K
theorem e_getSV {i j : Nat} (hd : decode cc pc = .ok (.getfield i, 3)) (hj : j < 12) (hf : Cond.fieldLink own i "java/lang/String" "value" "[B" ∈ mc_WS) (kk : mc_E own cc nL J (pc + 3) L (.ref (1000000 + (101 + j)) :: st) w kc ks) : mc_E own cc nL J pc L (.ref (1000000 + (1 + j)) :: st) w kc ks := by
  intro p l e s m args below meth c H locs ls g X G R T hl
  have K := kk p l e s m args below meth c H locs ls g X G R T hl
  rw [show List.map (mc_vm g) (.ref (1000000 + (101 + j)) :: st) = .ref (mc_ra g (1000000 + (101 + j))) :: st.map (mc_vm g) from rfl, mc_ra_old] at K
  show W _ _ _ _ _ _ _ _ _ _ _ _ _ _ _ (F0 m pc ls (.ref (mc_ra g (1000000 + (1 + j))) :: st.map (mc_vm g)))
  rw [mc_ra_old]
  exact vk_getf X.1 X.2.1 (G.2.2.2.2.2.2.1.1 j hj).2.2.1 R.2.2.1 X.2.2.2.1 (X.2.2.2.2.1 _ hf) (fun x h => h) hd K
theorem e_getSC {i j : Nat} (hd : decode cc pc = .ok (.getfield i, 3)) (hj : j < 12) (hf : Cond.fieldLink own i "java/lang/String" "coder" "B" ∈ mc_WS) (kk : mc_E own cc nL J (pc + 3) L (.int 0 :: st) w kc ks) : mc_E own cc nL J pc L (.ref (1000000 + (1 + j)) :: st) w kc ks := by
  intro p l e s m args below meth c H locs ls g X G R T hl
  show W _ _ _ _ _ _ _ _ _ _ _ _ _ _ _ (F0 m pc ls (.ref (mc_ra g (1000000 + (1 + j))) :: st.map (mc_vm g)))
  rw [mc_ra_old]
  exact vk_getf X.1 X.2.1 (G.2.2.2.2.2.2.1.1 j hj).2.1 R.2.2.1 X.2.2.2.1 (X.2.2.2.2.1 _ hf) (fun x h => h) hd (kk p l e s m args below meth c H locs ls g X G R T hl)
theorem e_alenS {j : Nat} {v : Int32} (hd : decode cc pc = .ok (.arraylength, 1)) (hj : j < 12) (hv : Int32.ofNat (mc_len.getD j 0) = v) (kk : mc_E own cc nL J (pc + 1) L (.int v :: st) w kc ks) : mc_E own cc nL J pc L (.ref (1000000 + (101 + j)) :: st) w kc ks := by
  intro p l e s m args below meth c H locs ls g X G R T hl
  show W _ _ _ _ _ _ _ _ _ _ _ _ _ _ _ (F0 m pc ls (.ref (mc_ra g (1000000 + (101 + j))) :: st.map (mc_vm g)))
  rw [mc_ra_old]
  exact va_tlen X.1 X.2.1 (G.2.2.2.2.2.2.1.1 j hj).2.2.2 R.2.2.1 hv hd (kk p l e s m args below meth c H locs ls g X G R T hl)
theorem e_baldS {j : Nat} {i x : Int32} (hd : decode cc pc = .ok (.baload, 1)) (hj : j < 12) (hi : vp_in i (mc_len.getD j 0)) (hx : (mc_byt.getD j []).getD i.toNatClampNeg 0 = x) (kk : mc_E own cc nL J (pc + 1) L (.int x :: st) w kc ks) : mc_E own cc nL J pc L (.int i :: .ref (1000000 + (101 + j)) :: st) w kc ks := by
  intro p l e s m args below meth c H locs ls g X G R T hl
  subst hx
  show W _ _ _ _ _ _ _ _ _ _ _ _ _ _ _ (F0 m pc ls (.int i :: .ref (mc_ra g (1000000 + (101 + j))) :: st.map (mc_vm g)))
  rw [mc_ra_old]
  exact va_tb X.1 X.2.1 (G.2.2.2.2.2.2.1.1 j hj).2.2.2 R.2.2.1 hi rfl hd (kk p l e s m args below meth c H locs ls g X G R T hl)
/-- a call on one of the texts -/
theorem e_callT {y : MethodName} {c2 : ByteArray} {n2 : Nat} {ret2 : Option FieldType} {d mc ms n i j : Nat} {As st0 : List Value} {P2 : Option Value → mc_W → Prop} (hS : mc_S y c2 n2 ret2 d mc ms (.ref (1000000 + (1 + j)) :: As) w P2) (hd : decode cc pc = .ok (.invokevirtual i, 3)) (hf : mc_CV own i y c2 n2 ret2 n) (hj : j < 12) (hC : y.cls = "java/lang/String") (hn : As.length = n) (hR : mc_CR J d mc ms n2 kc ks) (hst : st0 = As.reverse ++ .ref (1000000 + (1 + j)) :: st) (hs : (st.map fun v => v.category).sum ≤ 8)
    (kk : ∀ (r : Option Value) (w' : mc_W), P2 r w' → mc_E own cc nL J (pc + 3) L (r.toList ++ st) w' (kc + mc) (ks + ms)) : mc_E own cc nL J pc L st0 w kc ks := by
  intro p l e s m args below meth c H locs ls g X G R T hl
  subst hst
  obtain ⟨hB, h1, h2, h3⟩ := hf
  have hts := X.2.2.2.2.1
  refine mc_go (P2 := P2) (rest := st.map (mc_vm g)) (va_runV (C := y.cls) (b := mc_ra g (1000000 + (1 + j))) (As := As.map (mc_vm g)) (Ts := mc_WS) ⟨X.1, X.2.1, X.2.2.1, X.2.2.2.1, hts⟩ (hS l g)
    ⟨callB_of n hts (mc_CB_good hB) rfl rfl rfl (hts _ hB.2.2.2) (hts _ h1) ⟨hB.1.1, hB.1.2, hB.2.1⟩ ⟨hR.1, hR.2.1⟩, hts _ h2, hts _ h3⟩
    ⟨mc_Pc_blind, ?_, fun U hU hW => mc_Pc_pre G R hU hW⟩ rfl (by rw [List.length_map]; exact hn) hl.1 (by show List.map _ _ = _; rw [List.map_append, List.map_reverse]; rfl) (lv_room (by rw [mc_catsum]; exact hs)) hd hR.2.2) R (fun r w' H1 locs1 hp R1 => ?_)
  · rw [mc_ra_old, hC]
    exact vk_recv (i := j) G.2.2.2.2.2.2.1 hj R.2.2.1
  · have K := kk r w' hp p l e s m args below meth c H1 locs1 ls g X G R1 T hl
    rw [List.map_append] at K
    cases r <;> exact K
end Rules6
