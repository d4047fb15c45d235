/-! THE CLAIM OUT OF ONE WALK OF THE LAW'S BODY. Your part is whole_start (and what it stands on); all else here is the same for every law, but numbers. -/
def R_law : String := "NoZeroWithinLaw"
def lw_P (b : Addr) (xs : List Int32) (args : Array Value) (s : State) : Prop := args = #[.ref b] ∧ s.IntsAt b xs ∧ xs.length ≤ 3584 ∧ (Jvm.Cond.and given_1 narrow_1).before args s = true
def lw_Q (_ : Array Value) (s : State) (o : Outcome) (t : State) : Prop := o = .returned (some (.int 1)) ∧ Framed s o t [] 600000 7302250
def lw_Z (below : List Frame) (a : Array Value) (s : State) : State → Prop := fun t => ∃ o, t.status = .running ∧ Ended t below o ∧ lw_Q a s o t
/-- the law's own end, with 1 on the stack, nothing written that was there before, its room as the claim has it -/
theorem lw_ret {p : Program} {l : Launch} {e : Env} {s : State} {m : MethodId} {below : List Frame} {meth : Method} {c : Code} {b : Nat} (hx : p.tables.exec = Jvm.exec) (hb : c.code = code) (hr : meth.sig.returnType = ret) (hlocks : meth.locks = false) {pc : Nat} {H : Heap} {ls : Array Slot} (hdg : decode code pc = .ok (.ireturn, 1)) : W p l e room_1 s m #[Value.ref b] below meth c H [] 600000 7302250 (lw_Z below #[Value.ref b] s) (F0 m pc ls [.int 1]) := by
  intro T hT X
  obtain ⟨fs, hret, hrun, hended, hW, hframe⟩ := X.leave (v := some (.int 1)) (hlocks := hlocks) (fun h => by rw [hr] at h; cases h)
  have hmeth' : T.vm.method? m = some meth := X.method'
  refine ⟨T.setFrames fs, ?_, .returned (some (.int 1)), hrun, hended, rfl, ⟨_, rfl⟩, hW, hframe⟩
  jvm_step X.here [X.here.top, hx, hb, hdg, hmeth', hr, ret, narrow_b1]
  (try refine ⟨rfl, ?_⟩); (try refine ⟨rfl, ?_⟩)
  first | (intro acts; rw [hret _ acts rfl rfl rfl]) | rw [hret _ _ rfl rfl rfl]
  exact Steps.refl _
/-- what holds at the law's entry: the machine, the code, the tables' words (any of lw_tbl by 'hts w (by decide +kernel)'), the script of L ints xs at the cell b, what the Statement gives of the start (any of its parts by flat_of_before) -/
def lw_At (p : Program) (s : State) (m : MethodId) (meth : Method) (c : Code) (b L : Nat) (xs : Nat → Int32) : Prop :=
  p.tables.exec = Jvm.exec ∧ c.code = code ∧ meth.sig.returnType = ret ∧ c.maxLocals = 4 ∧ s.vm.findClass R_law = some m.cls ∧ (∀ w ∈ lw_tbl, w.before #[Value.ref b] s = true) ∧ va_X b L xs s s.heap ∧ b < s.heap.size ∧ meth.locks = false ∧ (Jvm.Cond.and given_1 narrow_1).before #[Value.ref b] s = true

set_option maxRecDepth 20000 in
theorem tw_ao5 : Cond.arrayOver (.object "NoZeroWithin$Text") ∈ lw_tbl := List.mem_append_right _ (List.mem_append_left _ (List.mem_of_getElem? (i := 42) rfl))
set_option maxRecDepth 20000 in
theorem tw_ao3 : Cond.arrayOver (.object "NoZeroWithin$Sheet") ∈ lw_tbl := List.mem_append_right _ (List.mem_append_left _ (List.mem_of_getElem? (i := 78) rfl))
set_option maxRecDepth 20000 in
theorem tw_lsK : Cond.laysStatic "NoZeroWithin" "KIND_ABOVE" "[I" ∈ lw_tbl := List.mem_append_right _ (List.mem_append_right _ (List.mem_append_left _ (List.mem_of_getElem? (i := 232) rfl)))
set_option maxRecDepth 20000 in
theorem tw_lsC : Cond.laysStatic "java/lang/String" "COMPACT_STRINGS" "Z" ∈ lw_tbl := List.mem_append_right _ (List.mem_append_right _ (List.mem_append_left _ (List.mem_of_getElem? (i := 31) rfl)))
set_option maxRecDepth 20000 in
theorem tw_lsF : Cond.laysStatic "jdk/internal/util/Preconditions" "SIOOBE_FORMATTER" "Ljava/util/function/BiFunction;" ∈ lw_tbl := List.mem_append_right _ (List.mem_append_right _ (List.mem_append_left _ (List.mem_of_getElem? (i := 47) rfl)))
set_option maxRecDepth 20000 in
theorem tw_inC : Cond.initialized "java/lang/String" ∈ lw_tbl := List.mem_append_right _ (List.mem_append_left _ (List.mem_of_getElem? (i := 9) rfl))
set_option maxRecDepth 20000 in
theorem tw_inF : Cond.initialized "jdk/internal/util/Preconditions" ∈ lw_tbl := List.mem_append_right _ (List.mem_append_left _ (List.mem_of_getElem? (i := 11) rfl))
set_option maxRecDepth 20000 in
theorem tw_inK : Cond.initialized "NoZeroWithin" ∈ lw_tbl := List.mem_append_right _ (List.mem_append_left _ (List.mem_of_getElem? (i := 1) rfl))
set_option maxRecDepth 20000 in
theorem tw_acI : Cond.arrayClass .int ∈ lw_tbl := List.mem_append_right _ (List.mem_append_left _ (List.mem_of_getElem? (i := 41) rfl))
set_option maxRecDepth 20000 in
theorem tw_st0 : Cond.stringRef "NoZeroWithin$Tape" 115 "more" ∈ lw_tbl := List.mem_append_right _ (List.mem_append_right _ (List.mem_append_left _ (List.mem_of_getElem? (i := 17) rfl)))
set_option maxRecDepth 20000 in
theorem tw_st1 : Cond.stringRef "NoZeroWithin$Tape" 121 "clerk" ∈ lw_tbl := List.mem_append_right _ (List.mem_append_right _ (List.mem_append_left _ (List.mem_of_getElem? (i := 70) rfl)))
set_option maxRecDepth 20000 in
theorem tw_st2 : Cond.stringRef "NoZeroWithin$Tape" 123 "v" ∈ lw_tbl := List.mem_append_right _ (List.mem_append_right _ (List.mem_append_left _ (List.mem_of_getElem? (i := 71) rfl)))
set_option maxRecDepth 20000 in
theorem tw_st3 : Cond.stringRef "NoZeroWithin$Tape" 125 "off" ∈ lw_tbl := List.mem_append_right _ (List.mem_append_right _ (List.mem_append_left _ (List.mem_of_getElem? (i := 72) rfl)))
set_option maxRecDepth 20000 in
theorem tw_st4 : Cond.stringRef "NoZeroWithin$Tape" 127 "base" ∈ lw_tbl := List.mem_append_right _ (List.mem_append_right _ (List.mem_append_left _ (List.mem_of_getElem? (i := 73) rfl)))
set_option maxRecDepth 20000 in
theorem tw_st5 : Cond.stringRef "NoZeroWithin$Tape" 129 "year" ∈ lw_tbl := List.mem_append_right _ (List.mem_append_right _ (List.mem_append_left _ (List.mem_of_getElem? (i := 74) rfl)))
set_option maxRecDepth 20000 in
theorem tw_st6 : Cond.stringRef "NoZeroWithin$Tape" 131 "nought" ∈ lw_tbl := List.mem_append_right _ (List.mem_append_right _ (List.mem_append_left _ (List.mem_of_getElem? (i := 75) rfl)))
set_option maxRecDepth 20000 in
theorem tw_st7 : Cond.stringRef "NoZeroWithin$Tape" 133 "slips" ∈ lw_tbl := List.mem_append_right _ (List.mem_append_right _ (List.mem_append_left _ (List.mem_of_getElem? (i := 76) rfl)))
set_option maxRecDepth 20000 in
theorem tw_st8 : Cond.stringRef "NoZeroWithin$Tape" 135 "costs" ∈ lw_tbl := List.mem_append_right _ (List.mem_append_right _ (List.mem_append_left _ (List.mem_of_getElem? (i := 77) rfl)))
set_option maxRecDepth 20000 in
theorem tw_st9 : Cond.stringRef "NoZeroWithin$Tape" 137 "or" ∈ lw_tbl := List.mem_append_right _ (List.mem_append_right _ (List.mem_append_left _ (List.mem_of_getElem? (i := 78) rfl)))
set_option maxRecDepth 20000 in
theorem tw_st10 : Cond.stringRef "NoZeroWithin$Tape" 139 "and" ∈ lw_tbl := List.mem_append_right _ (List.mem_append_right _ (List.mem_append_left _ (List.mem_of_getElem? (i := 79) rfl)))
set_option maxRecDepth 20000 in
theorem tw_st11 : Cond.stringRef "NoZeroWithin$Tape" 141 "not" ∈ lw_tbl := List.mem_append_right _ (List.mem_append_right _ (List.mem_append_left _ (List.mem_of_getElem? (i := 80) rfl)))
set_option maxRecDepth 20000 in
theorem tw_ne0 : Cond.methodLinkNest RX1 35 yX6_isOfKind "NoZeroWithin" ∈ lw_tbl := List.mem_append_right _ (List.mem_append_right _ (List.mem_append_left _ (List.mem_of_getElem? (i := 228) rfl)))
set_option maxRecDepth 20000 in
theorem tw_ne1 : Cond.methodLinkNest RX0 18 yX6_isFolk "NoZeroWithin" ∈ lw_tbl := List.mem_append_right _ (List.mem_append_right _ (List.mem_append_right _ (List.mem_append_left _ (List.mem_of_getElem? (i := 162) rfl))))
set_option maxRecDepth 20000 in
theorem tw_ne2 : Cond.methodLinkNest RX0 22 yX6_areTwoFolk "NoZeroWithin" ∈ lw_tbl := List.mem_append_right _ (List.mem_append_right _ (List.mem_append_right _ (List.mem_append_left _ (List.mem_of_getElem? (i := 167) rfl))))
def tw_b : List Nat := [34, 42, 52, 59, 69, 81, 94, 110, 126, 143, 158, 175]
def tw_tm (i : Nat) : Term := .string "NoZeroWithin$Tape" ((mc_tx.getD i (0, "")).1)
theorem tw_arr {s : State} {cA : ClassId} {k : Class} {comp : ClassId} {ty : FieldType} (hk : s.vm.classes[cA]? = some k) (hkind : k.kind = .array comp ty) : ArrOfT s cA ty := fun n z => ⟨fun j h => (by cases h), k, hk, comp, hkind⟩
theorem tw_wIn {b : Nat} {s : State} (hgv : (Jvm.Cond.and given_1 narrow_1).before #[Value.ref b] s = true) {w : Cond} (h : w ∈ flatC (Jvm.Cond.and given_1 narrow_1)) : w.before #[Value.ref b] s = true := flat_of_before _ hgv w h
theorem tw_str {args : Array Value} {s : State} (h : ∀ w ∈ flatC (Jvm.Cond.and given_1 narrow_1), w.before args s = true) {A : Nat → Prop} (hA : ∀ a : Nat, a < s.heap.size → ¬ A a) : ∃ adK adV : Nat → Nat, vk_S 12 mc_len mc_byt adK adV A s s.heap ∧ ∀ i : Nat, i < 12 → (tw_tm i).eval args s none [] s = some (.ref (adK i)) := by
  have G1 : ∀ i, i < 12 → (flatC (Jvm.Cond.and given_1 narrow_1))[tw_b.getD i 0]? = some (Cond.exactly (tw_tm i) "java/lang/String") := by decide +kernel
  have G2 : ∀ i, i < 12 → (flatC (Jvm.Cond.and given_1 narrow_1))[tw_b.getD i 0 + 1]? = some (Cond.eq (.field (tw_tm i) "java/lang/String" "coder" "B") (.int 0)) := by decide +kernel
  have G3 : ∀ i, i < 12 → (flatC (Jvm.Cond.and given_1 narrow_1))[tw_b.getD i 0 + 2]? = some (Cond.arrayOf (.field (tw_tm i) "java/lang/String" "value" "[B") .byte) := by decide +kernel
  have G4 : ∀ i, i < 12 → (flatC (Jvm.Cond.and given_1 narrow_1))[tw_b.getD i 0 + 3]? = some (Cond.eq (.length (.field (tw_tm i) "java/lang/String" "value" "[B")) (.int (Int32.ofNat (mc_len.getD i 0)))) := by decide +kernel
  have G5 : ∀ i, i < 12 → ∀ j, j < mc_len.getD i 0 → (flatC (Jvm.Cond.and given_1 narrow_1))[tw_b.getD i 0 + 4 + j]? = some (Cond.eq (.elem (.field (tw_tm i) "java/lang/String" "value" "[B") (.int (Int32.ofNat j))) (.int ((mc_byt.getD i []).getD j 0))) := by decide +kernel
  have G6 : ∀ i, i < 12 → ∀ j, j < i → (flatC (Jvm.Cond.and given_1 narrow_1))[tw_b.getD i 0 + 4 + mc_len.getD i 0 + j]? = some (Cond.not (Cond.eq (tw_tm j) (tw_tm i))) := by decide +kernel
  have D1 := fun i hi => List.mem_of_getElem? (G1 i hi)
  have D2 := fun i hi => List.mem_of_getElem? (G2 i hi)
  have D3 := fun i hi => List.mem_of_getElem? (G3 i hi)
  have D4 := fun i hi => List.mem_of_getElem? (G4 i hi)
  have D5 := fun i hi j hj => List.mem_of_getElem? (G5 i hi j hj)
  have D6 : ∀ i, i < 12 → ∀ j, j < 12 → i ≠ j → (Cond.not (Cond.eq (tw_tm i) (tw_tm j))) ∈ (flatC (Jvm.Cond.and given_1 narrow_1)) ∨ (Cond.not (Cond.eq (tw_tm j) (tw_tm i))) ∈ (flatC (Jvm.Cond.and given_1 narrow_1)) := fun i hi j hj hne => by
    rcases Nat.lt_or_ge i j with q | q
    · exact Or.inl (List.mem_of_getElem? (G6 j hj i q))
    · exact Or.inr (List.mem_of_getElem? (G6 i hi j (by omega)))
  exact vk_Sof (tm := tw_tm) (len := mc_len) (byt := mc_byt) (by decide +kernel) (fun i hi => h _ (D1 i hi)) (fun i hi => h _ (D2 i hi)) (fun i hi => h _ (D3 i hi)) (fun i hi => h _ (D4 i hi)) (fun i hi j hj => h _ (D5 i hi j hj)) (fun i j hi hj hne => (D6 i hi j hj hne).imp (fun q => h _ q) (fun q => h _ q)) hA
/-- at the law's entry: a frame for the worlds -/
theorem mc_enter {s : State} {b : Nat} (hts : ∀ w ∈ lw_tbl, w.before #[Value.ref b] s = true) (hgv : (Jvm.Cond.and given_1 narrow_1).before #[Value.ref b] s = true) : ∃ g : mc_G, g.1 = s.heap.size ∧ g.2.2.2 300 = b ∧ mc_GG g s := by
  have hfl : ∀ w ∈ flatC (Jvm.Cond.and given_1 narrow_1), w.before #[Value.ref b] s = true := flat_of_before _ hgv
  have hT : ∀ w ∈ mc_WS, w.before #[Value.ref b] s = true := fun w hw => hts w (mc_WS_ok w hw).1
  obtain ⟨c0, j0, K0⟩ := u_known (C := RX0) (T := TX0) hT mcf0.2.1 (hT _ insX0)
  obtain ⟨c1, j1, K1⟩ := u_known (C := RX1) (T := TX1) hT mcf1.2.1 (hT _ insX1)
  obtain ⟨c2, j2, K2⟩ := u_known (C := RX2) (T := TX2) hT mcf2.2.1 (hT _ insX2)
  obtain ⟨c3, j3, K3⟩ := u_known (C := RX3) (T := TX3) hT mcf3.2.1 (hT _ insX3)
  obtain ⟨c4, j4, K4⟩ := u_known (C := RX4) (T := TX4) hT mcf4.2.1 (hT _ insX4)
  obtain ⟨c5, j5, K5⟩ := u_known (C := RX5) (T := TX5) hT mcf5.2.1 (hT _ insX5)
  obtain ⟨c6, j6, K6⟩ := u_known (C := RX6) (T := TX6) hT mcf6.2.1 (hT _ insX6)
  obtain ⟨c7, j7, K7⟩ := u_known (C := RX7) (T := TX7) hT mcf7.2.1 (hT _ insX7)
  obtain ⟨dC, dI, hKc⟩ : ∃ (dC : Nat → ClassId) (dI : Nat → Nat → Nat), ∀ (k : Nat) (q : vw_C), mc_cl[k]? = some q → u_Kn s q.1 q.2.1 q.2.2 (dC k) (dI k) := by
    refine ⟨fun k => match k with | 0 => c0 | 1 => c1 | 2 => c2 | 3 => c3 | 4 => c4 | 5 => c5 | 6 => c6 | _ => c7, fun k => match k with | 0 => j0 | 1 => j1 | 2 => j2 | 3 => j3 | 4 => j4 | 5 => j5 | 6 => j6 | _ => j7, ?_⟩
    intro k q hq
    match k, hq with
    | 0, hq => cases hq; exact K0
    | 1, hq => cases hq; exact K1
    | 2, hq => cases hq; exact K2
    | 3, hq => cases hq; exact K3
    | 4, hq => cases hq; exact K4
    | 5, hq => cases hq; exact K5
    | 6, hq => cases hq; exact K6
    | 7, hq => cases hq; exact K7
    | k + 8, hq => simp [mc_cl] at hq
  obtain ⟨aI, kI, pI, hI1, hI2, hI3⟩ := Cond.arrayClass_spec (hts _ tw_acI)
  obtain ⟨p5, a5, k5, h51, -, h53, h54, h55⟩ := Cond.arrayOver_spec (hts _ tw_ao5)
  obtain ⟨p3, a3, k3, h31, -, h33, h34, h35⟩ := Cond.arrayOver_spec (hts _ tw_ao3)
  have hA : ∀ a : Nat, a < s.heap.size → ¬ (s.heap.size ≤ a) := fun a h => by omega
  obtain ⟨adK, adV, hS, hSe⟩ := tw_str hfl (A := fun q => s.heap.size ≤ q) hA
  have hZC := va_Zof (A := fun q => s.heap.size ≤ q) (hts _ tw_lsC) (hts _ tw_inC) (va_eqi (hfl (Cond.eq (.static "java/lang/String" "COMPACT_STRINGS" "Z") (.int 1)) (by decide +kernel))) hA
  have hZF := va_Zqof (A := fun q => s.heap.size ≤ q) (hts _ tw_lsF) (hts _ tw_inF) (hfl (Cond.isRef (.static "jdk/internal/util/Preconditions" "SIOOBE_FORMATTER" "Ljava/util/function/BiFunction;")) (by decide +kernel)) hA
  obtain ⟨kK, hkK, hTK⟩ := va_Tof (A := fun q => s.heap.size ≤ q) (N := 6) (f := fun j => .int (mc_ka.getD j 0)) (by decide) (hfl (Cond.arrayOf (.static "NoZeroWithin" "KIND_ABOVE" "[I") .int) (by decide +kernel)) (va_eqt (hfl (Cond.eq (.length (.static "NoZeroWithin" "KIND_ABOVE" "[I")) (.int (Int32.ofNat 6))) (by decide +kernel)))
    (fun j hj => va_eqt (hfl (Cond.eq (.elem (.static "NoZeroWithin" "KIND_ABOVE" "[I") (.int (Int32.ofNat j))) (.int (mc_ka.getD j 0))) ((show ∀ j, j < 6 → (Cond.eq (.elem (.static "NoZeroWithin" "KIND_ABOVE" "[I") (.int (Int32.ofNat j))) (.int (mc_ka.getD j 0))) ∈ flatC (Jvm.Cond.and given_1 narrow_1) by decide +kernel) j hj))) hA
  have hZK := va_Zof (A := fun q => s.heap.size ≤ q) (hts _ tw_lsK) (hts _ tw_inK) hkK hA
  obtain ⟨fF, hF⟩ : ∃ t : Nat, va_Z "jdk/internal/util/Preconditions" "SIOOBE_FORMATTER" "Ljava/util/function/BiFunction;" .null (fun q => s.heap.size ≤ q) s s.heap ∨ va_Z "jdk/internal/util/Preconditions" "SIOOBE_FORMATTER" "Ljava/util/function/BiFunction;" (.ref t) (fun q => s.heap.size ≤ q) s s.heap := by
    rcases hZF with h | ⟨t, h⟩
    · exact ⟨0, Or.inl h⟩
    · exact ⟨t, Or.inr h⟩
  let old : Nat → Nat := fun i => if i = 0 then kK else if i = 200 then fF else if i = 300 then b else if i < 101 then adK (i - 1) else adV (i - 101)
  have o0 : old 0 = kK := rfl
  have o2 : old 200 = fF := rfl
  have o3 : old 300 = b := rfl
  have oK : ∀ i, i < 12 → old (1 + i) = adK i := fun i hi => by
    show (if 1 + i = 0 then _ else if 1 + i = 200 then _ else if 1 + i = 300 then _ else if 1 + i < 101 then adK (1 + i - 1) else _) = _
    rw [if_neg (by omega), if_neg (by omega), if_neg (by omega), if_pos (by omega), Nat.add_sub_cancel_left]
  have oV : ∀ i, i < 12 → old (101 + i) = adV i := fun i hi => by
    show (if 101 + i = 0 then _ else if 101 + i = 200 then _ else if 101 + i = 300 then _ else if 101 + i < 101 then _ else adV (101 + i - 101)) = _
    rw [if_neg (by omega), if_neg (by omega), if_neg (by omega), if_neg (by omega), Nat.add_sub_cancel_left]
  refine ⟨(s.heap.size, (dC, dI), fun k => match k with | 0 => aI | 1 => a5 | _ => a3, old), rfl, rfl, ⟨hKc, fun k q hq => ?_⟩, Nat.le_refl _, hZK, hTK, hZC, ?_, ?_, fun i hi q hq => ?_, fun q hq => ?_, hts _ tw_ao5, hts _ tw_ao3⟩
  · match k, hq with
    | 0, hq => cases hq; exact ⟨tw_arr hI2 hI3, hI1⟩
    | 1, hq => cases hq; exact ⟨tw_arr h53 h54, k5, p5, h53, h54, h51, h55⟩
    | 2, hq => cases hq; exact ⟨tw_arr h33 h34, k3, p3, h33, h34, h31, h35⟩
    | k + 3, hq => simp [mc_tys] at hq
  · exact hF
  · refine ⟨fun i hi => ?_, fun i j hi hj e => ?_⟩
    · show va_O "java/lang/String" (old (1 + i)) _ _ _ ∧ va_OF "java/lang/String" "coder" "B" (.int 0) (old (1 + i)) _ _ _ ∧ va_OF "java/lang/String" "value" "[B" (.ref (old (101 + i))) (old (1 + i)) _ _ _ ∧ va_T .byte (old (101 + i)) _ _ _ _ _
      rw [oK i hi, oV i hi]
      exact hS.1 i hi
    · have e : old (1 + i) = old (1 + j) := e
      rw [oK i hi, oK j hj] at e
      exact hS.2 i j hi hj e
  · show vk_R "NoZeroWithin$Tape" q.1 q.2 (old (1 + i)) s
    rw [oK i hi]
    have he := hSe i hi
    have hst : (Cond.stringRef "NoZeroWithin$Tape" q.1 q.2).before #[Value.ref b] s = true := by
      match i, hi, hq with
      | 0, _, hq => cases hq; exact hts _ tw_st0
      | 1, _, hq => cases hq; exact hts _ tw_st1
      | 2, _, hq => cases hq; exact hts _ tw_st2
      | 3, _, hq => cases hq; exact hts _ tw_st3
      | 4, _, hq => cases hq; exact hts _ tw_st4
      | 5, _, hq => cases hq; exact hts _ tw_st5
      | 6, _, hq => cases hq; exact hts _ tw_st6
      | 7, _, hq => cases hq; exact hts _ tw_st7
      | 8, _, hq => cases hq; exact hts _ tw_st8
      | 9, _, hq => cases hq; exact hts _ tw_st9
      | 10, _, hq => cases hq; exact hts _ tw_st10
      | 11, _, hq => cases hq; exact hts _ tw_st11
      | i + 12, hi, _ => omega
    have hev : (Term.string "NoZeroWithin$Tape" q.1).eval #[Value.ref b] s none [] s = some (.ref (adK i)) := by
      have e : tw_tm i = .string "NoZeroWithin$Tape" q.1 := by
        unfold tw_tm
        rw [List.getD_eq_getElem?_getD, hq]
        rfl
      rw [← e]; exact he
    exact vk_R.of hst hev
  · rcases List.mem_cons.mp hq with rfl | hq
    · exact va_Nw.of rfl (hts _ tw_ne1)
    · rcases List.mem_cons.mp hq with rfl | hq
      · exact va_Nw.of rfl (hts _ tw_ne2)
      · rcases List.mem_cons.mp hq with rfl | hq
        · exact va_Nw.of rfl (hts _ tw_ne0)
        · cases hq
/-- what is known of the script at the start; the end that the law owes -/
def mc_TL (L : Nat) (xs : Nat → Int32) (g : mc_G) (s : State) (args : Array Value) : Prop := g.1 = s.heap.size ∧ args = #[Value.ref (g.2.2.2 300)] ∧ va_X (g.2.2.2 300) L xs s s.heap ∧ g.2.2.2 300 < s.heap.size
def mc_JL (L : Nat) (xs : Nat → Int32) : mc_J := (ret, false, room_1, fun _ s below args => lw_Z below args s, mc_TL L xs)
section LawRules
variable {pc : Nat} {Ls : List (Option Value)} {st : List Value} {w : mc_W} {kc ks N : Nat} {xs : Nat → Int32}
theorem e_lawret (hd : decode code pc = .ok (.ireturn, 1)) (hk : kc ≤ 600000) (hs : ks ≤ 7302250) : mc_E R_law code 4 (mc_JL N xs) pc Ls [.int 1] w kc ks := by
  intro p l e s m args below meth c H locs ls g X G R T hl
  obtain ⟨h1, rfl, -, -⟩ := T
  refine W.widen hk hs (va_forget (fun q hq => ?_) ?_)
  · have := R.2.2.1.2.2 q hq
    have : g.1 ≤ q.base := this
    omega
  · exact lw_ret X.1 X.2.1 X.2.2.2.2.2.1 X.2.2.2.2.2.2.1 hd
theorem e_slen (hd : decode code pc = .ok (.arraylength, 1)) (kk : mc_E R_law code 4 (mc_JL N xs) (pc + 1) Ls (.int (nI N) :: st) w kc ks) : mc_E R_law code 4 (mc_JL N xs) pc Ls (.ref 1000300 :: st) w kc ks := by
  intro p l e s m args below meth c H locs ls g X G R T hl
  have K := kk p l e s m args below meth c H locs ls g X G R T hl
  obtain ⟨h1, h2, h3, h4⟩ := T
  show W _ _ _ _ _ _ _ _ _ _ _ _ _ _ _ (F0 m pc ls (.ref (mc_ra g (1000000 + 300)) :: st.map (mc_vm g)))
  rw [mc_ra_old]
  exact va_slen X.1 X.2.1 h3 h4 (by unfold mc_A; omega) R.2.2.1 hd K
theorem e_sld {i x : Int32} (hd : decode code pc = .ok (.iaload, 1)) (hi : vp_in i N) (hx : xs i.toNatClampNeg = x) (kk : mc_E R_law code 4 (mc_JL N xs) (pc + 1) Ls (.int x :: st) w kc ks) : mc_E R_law code 4 (mc_JL N xs) pc Ls (.int i :: .ref 1000300 :: st) w kc ks := by
  intro p l e s m args below meth c H locs ls g X G R T hl
  subst hx
  have K := kk p l e s m args below meth c H locs ls g X G R T hl
  obtain ⟨h1, h2, h3, h4⟩ := T
  show W _ _ _ _ _ _ _ _ _ _ _ _ _ _ _ (F0 m pc ls (.int i :: .ref (mc_ra g (1000000 + 300)) :: st.map (mc_vm g)))
  rw [mc_ra_old]
  exact va_sld X.1 X.2.1 h3 h4 (by unfold mc_A; omega) R.2.2.1 hi hd K
end LawRules
theorem law_of {p : Program} {e : Env} {s : State} {m : MethodId} {below : List Frame} {meth : Method} {c : Code} (l : Launch) {b L : Nat} {xs : Nat → Int32} (C0 : lw_At p s m meth c b L xs) (k : mc_E R_law code 4 (mc_JL L xs) 0 [some (.ref 1000300), none, none, none] [] [] 0 0) : W p l e room_1 s m #[Value.ref b] below meth c s.heap [] 0 0 (lw_Z below #[Value.ref b] s) (entryFrame m ([Value.ref b] : List Value).toArray 4) := by
  obtain ⟨hx, hb, hr, hml, hown, hts, hX, hbl, hlocks, hgv⟩ := id C0
  obtain ⟨g, g1, g2, G⟩ := mc_enter hts hgv
  have hl := lv_entry ([.ref b]) (n := 4) (Nat.le_of_ble_eq_true rfl)
  rw [lg_entry_eq]
  generalize (lg_sl ([.ref b]) ++ List.replicate (4 - (lg_sl ([.ref b])).length) Slot.unset).toArray = ls at hl ⊢
  have hl : lv_has ls 4 [(0, .ref b)] := hl
  have hra : mc_ra g 1000300 = b := (mc_ra_old g 300).trans g2
  refine k p l e s m #[Value.ref b] below meth c s.heap [] ls g ⟨hx, hb, hml, hown, fun w hw => hts w (mc_WS_ok w hw).1, hr, hlocks, fun h => by cases h⟩ G ⟨?_, fun k q h => by simp [mc_rl] at h, va_S.rf, Nat.zero_le _⟩ ⟨g1, by rw [g2], by rw [g2]; exact hX, by rw [g2]; exact hbl⟩ ?_
  · rw [g1]; rfl
  · show lv_has ls 4 [(0, mc_vm g (.ref 1000300))]
    show lv_has ls 4 [(0, .ref (mc_ra g 1000300))]
    rw [hra]; exact hl
