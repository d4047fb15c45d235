/-! THE SMALL LOGIC: worlds with numbered cells (numbers 0, 1, 2 .. for what the run makes, from 1000000 on what stood there before), one rule an instruction, contracts that hand the whole world on. -/
abbrev mc_C : Type := (Nat × List Value) ⊕ (List Int32 ⊕ (Nat × List (Option Nat)))
abbrev mc_W : Type := List mc_C
/-- where the run's cells begin, the numbers of the kinds of objects, of the kinds of rows, the elder cells -/
abbrev mc_G : Type := Nat × va_G × (Nat → ClassId) × (Nat → Nat)
def mc_ra (g : mc_G) (k : Nat) : Nat := if k < 1000000 then g.1 + k else g.2.2.2 (k - 1000000)
def mc_vm (g : mc_G) : Value → Value
  | .ref k => .ref (mc_ra g k)
  | v => v
theorem mc_vm_cat (g : mc_G) (v : Value) : (mc_vm g v).category = v.category := by cases v <;> rfl
abbrev mc_cl : List vw_C := [(RX0, TX0, 2), (RX1, TX1, 6), (RX2, TX2, 6), (RX3, TX3, 3), (RX4, TX4, 9), (RX5, TX5, 3), (RX6, TX6, 14), (RX7, TX7, 35)]
def mc_tys (g : mc_G) : List (ClassId × FieldType) := [(g.2.2.1 0, .int), (g.2.2.1 1, .object RX5), (g.2.2.1 2, .object RX3)]
def mc_em (g : mc_G) : mc_C → va_E
  | .inl o => .inr (o.1, o.2.map (mc_vm g))
  | .inr (.inl xs) => .inl (g.2.2.1 0, xs.length, .inl (fun j => xs.getD j 0))
  | .inr (.inr r) => .inl (g.2.2.1 r.1, r.2.length, .inr (.inr (.inr (.inr (fun j => (r.2.getD j none).map (mc_ra g))))))
def mc_rl (g : mc_G) (w : mc_W) : va_W := w.mapIdx (fun k c => (g.1 + k, mc_em g c))
def mc_A (g : mc_G) : Nat → Prop := fun q => g.1 ≤ q
theorem mc_rl_get (g : mc_G) (w : mc_W) (k : Nat) : (mc_rl g w)[k]? = (w[k]?).map (fun c => (g.1 + k, mc_em g c)) := by
  simp [mc_rl]
theorem mc_rl_at {g : mc_G} {w : mc_W} {k : Nat} {c : mc_C} (h : w[k]? = some c) : (mc_rl g w)[k]? = some (g.1 + k, mc_em g c) := by
  rw [mc_rl_get, h]; rfl
theorem mc_rl_len (g : mc_G) (w : mc_W) : (mc_rl g w).length = w.length := by simp [mc_rl]
theorem mc_rl_set (g : mc_G) (w : mc_W) (k : Nat) (c : mc_C) : mc_rl g (w.set k c) = (mc_rl g w).set k (g.1 + k, mc_em g c) := by
  apply List.ext_getElem?
  intro i
  rw [mc_rl_get, List.getElem?_set, List.getElem?_set, mc_rl_get, mc_rl_len]
  by_cases h : k = i
  · subst h
    by_cases h2 : k < w.length
    · simp [h2]
    · simp [h2]
  · simp [h]
theorem mc_rl_push (g : mc_G) (w : mc_W) (c : mc_C) : mc_rl g (w ++ [c]) = mc_rl g w ++ [(g.1 + w.length, mc_em g c)] := by
  simp [mc_rl, List.mapIdx_append]
theorem mc_rl_D (g : mc_G) (w : mc_W) : va_D (mc_A g) (mc_rl g w) := by
  refine ⟨fun i j p q hp hq h => ?_, fun k q hq => ?_⟩
  · rw [mc_rl_get] at hp hq
    obtain ⟨c1, -, rfl⟩ := Option.map_eq_some_iff.mp hp
    obtain ⟨c2, -, rfl⟩ := Option.map_eq_some_iff.mp hq
    have : g.1 + i = g.1 + j := h
    omega
  · rw [mc_rl_get] at hq
    obtain ⟨c1, -, rfl⟩ := Option.map_eq_some_iff.mp hq
    exact Nat.le_add_right _ _
/-- the words that every method stands on -/
def mc_WS : List Cond := lw_tbl.filter goodWord
theorem mc_WS_ok : GoodIn lw_tbl mc_WS := fun w hw => ⟨(List.mem_filter.mp hw).1, good_of_word (List.mem_filter.mp hw).2⟩
theorem mc_WS_self : GoodIn mc_WS mc_WS := fun w hw => ⟨hw, good_of_word (List.mem_filter.mp hw).2⟩
/-- texts that the class asks for by their constants: places in the pool of the tape's class, and the bytes -/
def mc_tx : List (Nat × String) := [(115, "more"), (121, "clerk"), (123, "v"), (125, "off"), (127, "base"), (129, "year"), (131, "nought"), (133, "slips"), (135, "costs"), (137, "or"), (139, "and"), (141, "not")]
def mc_byt : List (List Int32) := [[109, 111, 114, 101], [99, 108, 101, 114, 107], [118], [111, 102, 102], [98, 97, 115, 101], [121, 101, 97, 114], [110, 111, 117, 103, 104, 116], [115, 108, 105, 112, 115], [99, 111, 115, 116, 115], [111, 114], [97, 110, 100], [110, 111, 116]]
def mc_len : List Nat := [4, 5, 1, 3, 4, 4, 6, 5, 5, 2, 3, 3]
def mc_ka : List Int32 := [-1, 0, 0, 1, 2, 0]
/-- static methods that another kind of the same nest hides -/
def mc_ns : List (String × Nat × MethodName) := [(RX0, 18, yX6_isFolk), (RX0, 22, yX6_areTwoFolk), (RX1, 35, yX6_isOfKind)]
/-- what stood there before the run: the row of kinds, the texts, the statics -/
def mc_GG (g : mc_G) (U : State) : Prop :=
  va_K g.2.1 mc_cl (mc_tys g) U ∧ g.1 ≤ U.heap.size ∧
  va_Z "NoZeroWithin" "KIND_ABOVE" "[I" (.ref (g.2.2.2 0)) (mc_A g) U U.heap ∧
  va_T .int (g.2.2.2 0) 6 (fun j => .int (mc_ka.getD j 0)) (mc_A g) U U.heap ∧
  va_Z "java/lang/String" "COMPACT_STRINGS" "Z" (.int 1) (mc_A g) U U.heap ∧
  (va_Z "jdk/internal/util/Preconditions" "SIOOBE_FORMATTER" "Ljava/util/function/BiFunction;" .null (mc_A g) U U.heap ∨ va_Z "jdk/internal/util/Preconditions" "SIOOBE_FORMATTER" "Ljava/util/function/BiFunction;" (.ref (g.2.2.2 200)) (mc_A g) U U.heap) ∧
  vk_S 12 mc_len mc_byt (fun i => g.2.2.2 (1 + i)) (fun i => g.2.2.2 (101 + i)) (mc_A g) U U.heap ∧
  (∀ i, i < 12 → ∀ q, mc_tx[i]? = some q → vk_R "NoZeroWithin$Tape" q.1 q.2 (g.2.2.2 (1 + i)) U) ∧
  (∀ q ∈ mc_ns, va_Nw (.methodLinkNest q.1 q.2.1 q.2.2 "NoZeroWithin") U) ∧ va_AO RX5 U ∧ va_AO RX3 U
theorem mc_GG_moved {g : mc_G} {s U : State} {H : Heap} (h : mc_GG g s) (hW : s.WarmedH U.vm) (hS : ∀ q : Nat, q < s.heap.size → ¬ mc_A g q → H[q]? = s.heap[q]?) (hz : g.1 ≤ H.size) (hU : U.heap = H) : mc_GG g U := by
  obtain ⟨h1, h2, h3, h4, h5, h6, h7, h8, h9, h10, h11⟩ := h
  subst hU
  refine ⟨h1.moved hW.alike, hz, (h3.moved hW.alike).kept hS, (h4.moved hW.alike).kept hS, (h5.moved hW.alike).kept hS, ?_, (h7.moved hW.alike).kept hS, fun i hi q hq => (h8 i hi q hq).warm hW, fun q hq => (h9 q hq).warmM hW, h10.moved hW.alike, h11.moved hW.alike⟩
  rcases h6 with h6 | h6
  · exact Or.inl ((h6.moved hW.alike).kept hS)
  · exact Or.inr ((h6.moved hW.alike).kept hS)
theorem mc_GG_calling {g : mc_G} {U : State} {gf : JFrame} {mk : MethodId} {a : Array Value} (h : mc_GG g U) : mc_GG g (U.calling gf mk a) := by
  obtain ⟨h1, h2, h3, h4, h5, h6, h7, h8, h9, h10, h11⟩ := h
  have hA : U.vm.Alike (U.calling gf mk a).vm := Vm.Alike.refl U.vm
  refine ⟨va_K.moved (u := U) (U := U.calling gf mk a) hA h1, h2, va_Z.moved (u := U) hA h3, va_T.moved (u := U) hA h4, va_Z.moved (u := U) hA h5, ?_, vk_S.moved (u := U) hA h7, fun i hi q hq => vk_R.same (u := U) rfl (h8 i hi q hq), fun q hq => va_Nw.same (u := U) rfl rfl (h9 q hq), va_AO.moved (u := U) hA h10, va_AO.moved (u := U) hA h11⟩
  rcases h6 with h6 | h6
  · exact Or.inl (va_Z.moved (u := U) hA h6)
  · exact Or.inr (va_Z.moved (u := U) hA h6)
/-- the world w lies in the heap H, since the state s -/
def mc_Rel (g : mc_G) (w : mc_W) (s : State) (H : Heap) (locs : List Loc) : Prop :=
  H.size = g.1 + w.length ∧ va_P g.2.1 mc_cl (mc_rl g w) H ∧ va_S (mc_A g) s.heap H locs ∧ w.length ≤ 1000000
/-- the locals, by their places -/
def mc_as (g : mc_G) : Nat → List (Option Value) → List (Nat × Value)
  | _, [] => []
  | i, none :: r => mc_as g (i + 1) r
  | i, some v :: r => (i, mc_vm g v) :: mc_as g (i + 1) r
theorem mc_as_mem {g : mc_G} {q : Nat × Value} : ∀ (L : List (Option Value)) (i : Nat), q ∈ mc_as g i L → ∃ j v, L[j]? = some (some v) ∧ q = (i + j, mc_vm g v) := by
  intro L
  induction L with
  | nil => intro i h; cases h
  | cons a r ih =>
    intro i h
    cases a with
    | none =>
      obtain ⟨j, v, h1, h2⟩ := ih (i + 1) h
      exact ⟨j + 1, v, by simpa using h1, by rw [h2]; congr 1; omega⟩
    | some x =>
      rcases List.mem_cons.mp h with h | h
      · exact ⟨0, x, rfl, h⟩
      · obtain ⟨j, v, h1, h2⟩ := ih (i + 1) h
        exact ⟨j + 1, v, by simpa using h1, by rw [h2]; congr 1; omega⟩
theorem mc_as_of {g : mc_G} : ∀ (L : List (Option Value)) (i j : Nat) (v : Value), L[j]? = some (some v) → (i + j, mc_vm g v) ∈ mc_as g i L := by
  intro L
  induction L with
  | nil => intro i j v h; simp at h
  | cons a r ih =>
    intro i j v h
    cases j with
    | zero =>
      have : a = some v := by simpa using h
      subst this
      exact List.mem_cons_self
    | succ j =>
      have h1 := ih (i + 1) j v (by simpa using h)
      have e : i + 1 + j = i + (j + 1) := by omega
      rw [e] at h1
      cases a with
      | none => exact h1
      | some x => exact List.mem_cons_of_mem _ h1
theorem mc_lv_at {g : mc_G} {ls : Array Slot} {n i : Nat} {L : List (Option Value)} {v : Value} (h : lv_has ls n (mc_as g 0 L)) (hv : L[i]? = some (some v)) : ls[i]? = some (.val (mc_vm g v)) := by
  have := h.2.2 _ (mc_as_of L 0 i v hv)
  simpa using this
theorem mc_lv_weak {g : mc_G} {ls : Array Slot} {n : Nat} {lv : List (Nat × Value)} {L : List (Option Value)} (h : lv_has ls n lv) (hs : ∀ j v, L[j]? = some (some v) → (j, mc_vm g v) ∈ lv) : lv_has ls n (mc_as g 0 L) := by
  refine ⟨h.1, h.2.1, fun q hq => ?_⟩
  obtain ⟨j, v, h1, rfl⟩ := mc_as_mem L 0 hq
  have := h.2.2 _ (hs j v h1)
  simpa using this
/-- whether a place holds a value of two words -/
def mc_is2 : Option (Option Value) → Bool
  | some (some v) => v.category == 2
  | _ => false
/-- the locals behind a store of one word, of two -/
def mc_st1 (L : List (Option Value)) (i : Nat) (v : Value) : List (Option Value) :=
  (match i with | 0 => L | k + 1 => if mc_is2 L[k]? then L.set k none else L).set i (some v)
def mc_st2 (L : List (Option Value)) (i : Nat) (v : Value) : List (Option Value) :=
  ((match i with | 0 => L | k + 1 => if mc_is2 L[k]? then L.set k none else L).set i (some v)).set (i + 1) none
theorem mc_set_mem {M : List (Option Value)} {i j : Nat} {v x : Value} (h : (M.set i (some v))[j]? = some (some x)) : (j = i ∧ x = v) ∨ (j ≠ i ∧ M[j]? = some (some x)) := by
  rw [List.getElem?_set] at h
  by_cases hj : i = j
  · subst hj
    rw [if_pos rfl] at h
    by_cases hl : i < M.length
    · rw [if_pos hl] at h
      exact Or.inl ⟨rfl, by simpa using h.symm⟩
    · rw [if_neg hl] at h
      cases h
  · rw [if_neg hj] at h
    exact Or.inr ⟨fun e => hj e.symm, h⟩
theorem mc_st_mem {L : List (Option Value)} {i j : Nat} {v x : Value} (hh : ((match i with | 0 => L | k + 1 => if mc_is2 L[k]? then L.set k none else L).set i (some v))[j]? = some (some x)) : (j = i ∧ x = v) ∨ (j ≠ i ∧ L[j]? = some (some x) ∧ ¬ (j + 1 = i ∧ x.category = 2)) := by
  rcases mc_set_mem hh with h1 | ⟨hj, h⟩
  · exact Or.inl h1
  · right
    cases i with
    | zero => exact ⟨hj, h, fun q => by omega⟩
    | succ k =>
      dsimp only at h
      by_cases h2 : mc_is2 L[k]? = true
      · rw [if_pos h2, List.getElem?_set] at h
        by_cases h3 : k = j
        · subst h3
          rw [if_pos rfl] at h
          by_cases hl : k < L.length
          · rw [if_pos hl] at h
            simp at h
          · rw [if_neg hl] at h
            cases h
        · rw [if_neg h3] at h
          exact ⟨hj, h, fun q => by omega⟩
      · rw [if_neg h2] at h
        refine ⟨hj, h, fun q => ?_⟩
        have e : j = k := by omega
        subst e
        rw [h] at h2
        simp [mc_is2, q.2] at h2
theorem mc_store1 {g : mc_G} {ls : Array Slot} {n i : Nat} {L : List (Option Value)} {v : Value} {ls' : Array Slot} (h : lv_has ls' n ((i, mc_vm g v) :: (mc_as g 0 L).filter (fun q => !(q.1 == i) && !(q.1 + 1 == i && q.2.category == 2)))) : lv_has ls' n (mc_as g 0 (mc_st1 L i v)) := by
  refine mc_lv_weak h fun j x hx => ?_
  rcases mc_st_mem hx with ⟨rfl, rfl⟩ | ⟨h1, h2, h3⟩
  · exact List.mem_cons_self
  · refine List.mem_cons_of_mem _ (List.mem_filter.mpr ⟨by simpa using mc_as_of L 0 j x h2, ?_⟩)
    simp only [Bool.and_eq_true, Bool.not_eq_true', beq_eq_false_iff_ne, ne_eq, Bool.and_eq_false_iff, mc_vm_cat]
    refine ⟨h1, ?_⟩
    by_cases e : j + 1 = i
    · exact Or.inr fun q => h3 ⟨e, q⟩
    · exact Or.inl e
theorem mc_store2 {g : mc_G} {ls : Array Slot} {n i : Nat} {L : List (Option Value)} {v : Value} {ls' : Array Slot} (h : lv_has ls' n ((i, mc_vm g v) :: (mc_as g 0 L).filter (fun q => !(q.1 == i) && (!(q.1 == i + 1) && !(q.1 + 1 == i && q.2.category == 2))))) : lv_has ls' n (mc_as g 0 (mc_st2 L i v)) := by
  refine mc_lv_weak h fun j x hx => ?_
  unfold mc_st2 at hx
  rw [List.getElem?_set] at hx
  by_cases h0 : i + 1 = j
  · rw [if_pos h0] at hx
    exact absurd hx (by split <;> simp)
  rw [if_neg h0] at hx
  rcases mc_st_mem hx with ⟨rfl, rfl⟩ | ⟨h1, h2, h3⟩
  · exact List.mem_cons_self
  · refine List.mem_cons_of_mem _ (List.mem_filter.mpr ⟨by simpa using mc_as_of L 0 j x h2, ?_⟩)
    simp only [Bool.and_eq_true, Bool.not_eq_true', beq_eq_false_iff_ne, ne_eq, Bool.and_eq_false_iff, mc_vm_cat]
    refine ⟨h1, fun q => h0 q.symm, ?_⟩
    by_cases e : j + 1 = i
    · exact Or.inr fun q => h3 ⟨e, q⟩
    · exact Or.inl e
/-- the end that is owed, by what is known of the start -/
abbrev mc_J : Type := Option FieldType × Bool × Room × (mc_G → State → List Frame → Array Value → State → Prop) × (mc_G → State → Array Value → Prop)
/-- what is known inside a method's walk -/
def mc_X (own : String) (cc : ByteArray) (nL : Nat) (ret : Option FieldType) (ini : Bool) (p : Program) (s : State) (m : MethodId) (args : Array Value) (meth : Method) (c : Code) : Prop :=
  p.tables.exec = Jvm.exec ∧ c.code = cc ∧ c.maxLocals = nL ∧ s.vm.findClass own = some m.cls ∧ (∀ w ∈ mc_WS, w.before args s = true) ∧ meth.sig.returnType = ret ∧ meth.locks = false ∧ (ini = true → meth.name = "<init>")
/-- from here (place, locals, stack, world, cells and words made so far) the method comes to its end -/
def mc_E (own : String) (cc : ByteArray) (nL : Nat) (J : mc_J) (pc : Nat) (L : List (Option Value)) (st : List Value) (w : mc_W) (kc ks : Nat) : Prop :=
  ∀ (p : Program) (l : Launch) (e : Env) (s : State) (m : MethodId) (args : Array Value) (below : List Frame) (meth : Method) (c : Code) (H : Heap) (locs : List Loc) (ls : Array Slot) (g : mc_G),
    mc_X own cc nL J.1 J.2.1 p s m args meth c → mc_GG g s → mc_Rel g w s H locs → J.2.2.2.2 g s args → lv_has ls nL (mc_as g 0 L) →
    W p l e J.2.2.1 s m args below meth c H locs kc ks (J.2.2.2.1 g s below args) (F0 m pc ls (st.map (mc_vm g)))
def mc_rm (d mc ms : Nat) : Room := { frames := d, cells := mc, slots := ms, locals := 64 * d }
/-- a method's end: an answer and a world that the post allows -/
def mc_Q (g : mc_G) (P : Option Value → mc_W → Prop) : Array Value → State → Outcome → State → Prop := fun _ st o t =>
  (∃ (r : Option Value) (w' : mc_W), o = .returned (r.map (mc_vm g)) ∧ P r w' ∧ t.heap.size = g.1 + w'.length ∧ va_P g.2.1 mc_cl (mc_rl g w') t.heap ∧ w'.length ≤ 1000000) ∧ va_F (mc_A g) st t
def mc_JM (ret : Option FieldType) (ini : Bool) (d mc ms : Nat) (P : Option Value → mc_W → Prop) : mc_J :=
  (ret, ini, mc_rm d mc ms, fun g s below args => MQ below (mc_Q g P) args s mc ms (mc_A g), fun _ _ _ => True)
def mc_Pc (g : mc_G) (av : List Value) (w : mc_W) : Array Value → State → Prop := fun v U => v = (av.map (mc_vm g)).toArray ∧ mc_GG g U ∧ U.heap.size = g.1 + w.length ∧ va_P g.2.1 mc_cl (mc_rl g w) U.heap ∧ w.length ≤ 1000000
/-- the contract: by d frames, mc cells of ms words; from the world w with these arguments the method answers as the post allows -/
def mc_S (y : MethodName) (cc : ByteArray) (nL : Nat) (ret : Option FieldType) (d mc ms : Nat) (av : List Value) (w : mc_W) (P : Option Value → mc_W → Prop) : Prop :=
  ∀ (l : Launch) (g : mc_G), Met l y (Cond.code y cc nL ret :: mc_WS) (mc_rm d mc ms) (mc_Pc g av w) (mc_Q g P) mc ms (mc_A g)
/-- the locals at a method's entry -/
def mc_in : List Value → List (Option Value)
  | [] => []
  | v :: r => if v.category = 2 then some v :: none :: mc_in r else some v :: mc_in r
def mc_ent (nL : Nat) (av : List Value) : List (Option Value) := mc_in av ++ List.replicate (nL - (mc_in av).length) none
