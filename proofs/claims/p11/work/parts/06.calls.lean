/-! new cells, rows of references, copies, calls, answers -/
def mc_cpy (xs ys : List Int32) (sp dp n : Nat) : List Int32 := (List.range ys.length).map (fun j => if dp ≤ j ∧ j < dp + n then xs.getD (sp + (j - dp)) 0 else ys.getD j 0)
theorem mc_cpy_len (xs ys : List Int32) (sp dp n : Nat) : (mc_cpy xs ys sp dp n).length = ys.length := by simp [mc_cpy]
theorem mc_cpy_get (xs ys : List Int32) (sp dp n : Nat) (h : dp + n ≤ ys.length) : (fun j => (mc_cpy xs ys sp dp n).getD j 0) = va_cpy (fun j => xs.getD j 0) (fun j => ys.getD j 0) sp dp n := by
  funext j
  unfold mc_cpy va_cpy
  rw [List.getD_eq_getElem?_getD, List.getElem?_map]
  by_cases hj : j < ys.length
  · rw [List.getElem?_range hj]
    rfl
  · rw [List.getElem?_eq_none (by simpa using hj)]
    rw [if_neg (by omega)]
    show (0 : Int32) = ys.getD j 0
    rw [List.getD_eq_getElem?_getD, List.getElem?_eq_none (by omega)]
    rfl
section Heaps2
variable {p : Program} {l : Launch} {e : Env} {R : Room} {s : State} {m : MethodId} {args : Array Value} {below : List Frame} {meth : Method} {c : Code} {H : Heap} {locs : List Loc} {cells slots : Nat} {Q : State → Prop}
variable {cc : ByteArray} {pc : Nat} {ls : Array Slot} {rest : List Value} {g : mc_G} {w : mc_W}
theorem mc_copy (hexec : p.tables.exec = Jvm.exec) (hb : c.code = cc) (hml : c.maxLocals = ls.size) {own : String} {index : Nat} (hown : s.vm.findClass own = some m.cls) (hlink : (Cond.methodLink own index arraycopyName).before args s = true) (hnat : (Cond.native arraycopyName).before args s = true) (hstat : (Cond.static arraycopyName).before args s = true) (hini : (Cond.initialized "java/lang/System").before args s = true)
    (hK : va_K g.2.1 mc_cl (mc_tys g) s) (R0 : mc_Rel g w s H locs) {a0 a : Nat} {xs ys : List Int32} (ha0 : w[a0]? = some (.inr (.inl xs))) (ha1 : w[a]? = some (.inr (.inl ys)))
    {sp dp n : Int32} (h1 : ¬ sp < 0) (h2 : ¬ dp < 0) (h3 : ¬ n < 0) (h4 : sp.toNatClampNeg + n.toNatClampNeg ≤ xs.length) (h5 : dp.toNatClampNeg + n.toNatClampNeg ≤ ys.length)
    (hframes : 1 ≤ R.frames) (hlocals : (rest.map fun v => v.category).sum + (nativeFrameWords "java/lang/System" "arraycopy" 5 + 11) ≤ R.locals) (hdg : decode cc pc = .ok (.invokestatic index, 3))
    (kk : ∀ (H1 : Heap) (locs1 : List Loc), mc_Rel g (w.set a (.inr (.inl (mc_cpy xs ys sp.toNatClampNeg dp.toNatClampNeg n.toNatClampNeg)))) s H1 locs1 → W p l e R s m args below meth c H1 locs1 cells slots Q (F0 m (pc + 3) ls rest)) : W p l e R s m args below meth c H locs cells slots Q (F0 m pc ls (.int n :: .int dp :: .ref (g.1 + a) :: .int sp :: .ref (g.1 + a0) :: rest)) := by
  have nn : ∀ z : Int32, ¬ z < 0 → z.toInt = (z.toNatClampNeg : Int) := by
    intro z hz
    have hz0 : (0 : Int) ≤ z.toInt := by
      have := Int32.not_lt.mp hz
      simpa using Int32.le_iff_toInt_le.mp this
    show z.toInt = ((z.toInt.toNat : Nat) : Int)
    omega
  intro T hT X
  have ht : (mc_tys g)[0]? = some (g.2.2.1 0, .int) := rfl
  have hc0 : H[g.1 + a0]? = some (vp_cell (g.2.2.1 0) (xs.length, .inl (fun j => xs.getD j 0))) := R0.2.1 a0 _ (mc_rl_at ha0)
  have hc1 : H[g.1 + a]? = some (vp_cell (g.2.2.1 0) (ys.length, .inl (fun j => ys.getD j 0))) := R0.2.1 a _ (mc_rl_at ha1)
  obtain ⟨-, k0, hk0, cm0, hkk0⟩ := (hK.2 0 _ ht).1 xs.length (fun j => .int (xs.getD j 0))
  obtain ⟨vm', X', step⟩ := X.arraycopy hexec hown hlink hnat hstat hini (src := g.1 + a0) (dst := g.1 + a) (cs := vp_cell (g.2.2.1 0) (xs.length, .inl (fun j => xs.getD j 0))) (cd := vp_cell (g.2.2.1 0) (ys.length, .inl (fun j => ys.getD j 0))) (srcPos := sp) (destPos := dp) (n := n) (by rw [hT]; exact hc0) (by rw [hT]; exact hc1)
    (fun _ h => by cases h) (fun _ h => by cases h) (fun h => by cases h) (fun h => by cases h) hk0 hk0 hkk0 hkk0 (by simp [refKind]) h1 h2 h3
    (by rw [nn sp h1, nn n h3]; show ¬ _ > ((arrV _ xs.length (fun j => .int (xs.getD j 0))).slots.size : Int); rw [arrV_size]; omega)
    (by rw [nn dp h2, nn n h3]; show ¬ _ > ((arrV _ ys.length (fun j => .int (ys.getD j 0))).slots.size : Int); rw [arrV_size]; omega)
    (fun vm₁ _ i hi => by
      have e : (vp_cell (g.2.2.1 0) (xs.length, .inl (fun j => xs.getD j 0))).slots.getD (sp.toNatClampNeg + i) .null = .int (xs.getD (sp.toNatClampNeg + i) 0) := by
        show (arrV _ xs.length (fun j => .int (xs.getD j 0))).slots.getD _ _ = _
        rw [Array.getD_eq_getD_getElem?, arrV_read _ _ (by omega)]
        rfl
      refine ⟨?_, ?_⟩
      · rw [e]
        rfl
      · rw [e]
        exact trivial)
    (g := F0 m pc ls (.int n :: .int dp :: .ref (g.1 + a) :: .int sp :: .ref (g.1 + a0) :: rest)) rfl (by rw [hml]) (rest := rest) rfl (by rw [hb]; exact hdg) hframes (by show 2 * 0 + _ + _ ≤ _; omega)
  have e1 := va_copied (sp := sp.toNatClampNeg) (dp := dp.toNatClampNeg) (n := n.toNatClampNeg) (n1 := ys.length) (fun z => .int z) (g.2.2.1 0) (g.2.2.1 0) (fun j => xs.getD j 0) (fun j => ys.getD j 0) h4
  have e2 : copied (vp_cell (g.2.2.1 0) (xs.length, .inl (fun j => xs.getD j 0))) (vp_cell (g.2.2.1 0) (ys.length, .inl (fun j => ys.getD j 0))) sp dp n = vp_cell (g.2.2.1 0) (ys.length, .inl (va_cpy (fun j => xs.getD j 0) (fun j => ys.getD j 0) sp.toNatClampNeg dp.toNatClampNeg n.toNatClampNeg)) := e1
  rw [e2] at X' step
  have hl : g.1 + a < H.size := (Array.getElem?_eq_some_iff.mp hc1).1
  generalize hY : vp_cell (g.2.2.1 0) (ys.length, .inl (va_cpy (fun j => xs.getD j 0) (fun j => ys.getD j 0) sp.toNatClampNeg dp.toNatClampNeg n.toNatClampNeg)) = Y at X' step
  have hheap : ((T.setVm vm').setCell (g.1 + a) Y).heap = H.setIfInBounds (g.1 + a) Y := by rw [← hT]; rfl
  have oq : ∀ q : Nat, q ≠ g.1 + a → (H.setIfInBounds (g.1 + a) Y)[q]? = H[q]? := fun q hq => by simp [Array.getElem?_setIfInBounds, Ne.symm hq]
  have hat : va_at g.2.1 mc_cl (g.1 + a, mc_em g (.inr (.inl (mc_cpy xs ys sp.toNatClampNeg dp.toNatClampNeg n.toNatClampNeg)))) (H.setIfInBounds (g.1 + a) Y) := by
    show (H.setIfInBounds (g.1 + a) Y)[g.1 + a]? = some (vp_cell (g.2.2.1 0) ((mc_cpy xs ys sp.toNatClampNeg dp.toNatClampNeg n.toNatClampNeg).length, .inl (fun j => (mc_cpy xs ys sp.toNatClampNeg dp.toNatClampNeg n.toNatClampNeg).getD j 0)))
    rw [mc_cpy_len, mc_cpy_get _ _ _ _ _ h5, hY]
    simp [Array.getElem?_setIfInBounds, hl]
  have R1 := mc_Rel_set (k := 0) (H1 := H.setIfInBounds (g.1 + a) Y) R0 ha1 hat (by simp) oq
  obtain ⟨t, a1, b1⟩ := kk _ _ (⟨R1.1, R1.2.1, ⟨R1.2.2.1.1, R1.2.2.1.2.1, fun q hq => by
      rcases List.mem_append.mp hq with h | h
      · exact R0.2.2.1.2.2 q h
      · obtain ⟨z, -, hz⟩ := List.mem_map.mp h
        rw [← hz]
        exact Nat.le_add_right _ _⟩, R1.2.2.2⟩ : mc_Rel g _ s _ _) _ hheap X'
  exact ⟨t, step t a1, b1⟩
end Heaps2
section Rules3
variable {own : String} {cc : ByteArray} {nL : Nat} {J : mc_J} {pc : Nat} {L : List (Option Value)} {st : List Value} {w : mc_W} {kc ks : Nat}
theorem e_copy {i a0 a : Nat} {xs ys : List Int32} {sp dp n : Int32} (hd : decode cc pc = .ok (.invokestatic i, 3)) (hlink : Cond.methodLink own i arraycopyName ∈ mc_WS) (hnat : Cond.native arraycopyName ∈ mc_WS) (hstat : Cond.static arraycopyName ∈ mc_WS) (hini : Cond.initialized "java/lang/System" ∈ mc_WS)
    (hx : w[a0]? = some (.inr (.inl xs))) (hy : w[a]? = some (.inr (.inl ys))) (h1 : ¬ sp < 0) (h2 : ¬ dp < 0) (h3 : ¬ n < 0) (h4 : sp.toNatClampNeg + n.toNatClampNeg ≤ xs.length) (h5 : dp.toNatClampNeg + n.toNatClampNeg ≤ ys.length)
    (hR : 1 ≤ J.2.2.1.frames ∧ 64 ≤ J.2.2.1.locals) (hs : (st.map fun v => v.category).sum ≤ 8)
    (kk : mc_E own cc nL J (pc + 3) L st (w.set a (.inr (.inl (mc_cpy xs ys sp.toNatClampNeg dp.toNatClampNeg n.toNatClampNeg)))) kc ks) : mc_E own cc nL J pc L (.int n :: .int dp :: .ref a :: .int sp :: .ref a0 :: st) w kc ks := by
  intro p l e s m args below meth c H locs ls g X G R T hl
  have ea : mc_ra g a = g.1 + a := mc_ra_lt (mc_lt_of hy R.2.2.2)
  have ea0 : mc_ra g a0 = g.1 + a0 := mc_ra_lt (mc_lt_of hx R.2.2.2)
  show W _ _ _ _ _ _ _ _ _ _ _ _ _ _ _ (F0 m pc ls (.int n :: .int dp :: .ref (mc_ra g a) :: .int sp :: .ref (mc_ra g a0) :: st.map (mc_vm g)))
  rw [ea, ea0]
  have hs2 : ((st.map (mc_vm g)).map fun v => v.category).sum ≤ 8 := by
    rw [List.map_map]
    have : ((fun v : Value => v.category) ∘ mc_vm g) = fun v => v.category := funext (mc_vm_cat g)
    rw [this]
    exact hs
  have hW : nativeFrameWords "java/lang/System" "arraycopy" 5 = 7 := by decide +kernel
  exact mc_copy X.1 X.2.1 (by rw [X.2.2.1]; exact hl.1.symm) X.2.2.2.1 (X.2.2.2.2.1 _ hlink) (X.2.2.2.2.1 _ hnat) (X.2.2.2.2.1 _ hstat) (X.2.2.2.2.1 _ hini) G.1 R hx hy h1 h2 h3 h4 h5 hR.1 (by rw [hW]; omega) hd (fun H1 locs1 R1 => kk p l e s m args below meth c H1 locs1 ls g X G R1 T hl)
theorem e_newa {n : Int32} {N : Nat} (hd : decode cc pc = .ok (.newarray .int, 2)) (harr : Cond.arrayClass .int ∈ mc_WS) (hn : ¬ n < 0) (hN : n.toNatClampNeg = N) (hb : N ≤ 100000000) (hw : w.length < 1000000) (hc : kc + 1 ≤ J.2.2.1.cells) (hs : ks + N ≤ J.2.2.1.slots)
    (kk : mc_E own cc nL J (pc + 2) L (.ref w.length :: st) (w ++ [.inr (.inl (List.replicate N 0))]) (kc + 1) (ks + N)) : mc_E own cc nL J pc L (.int n :: st) w kc ks := by
  intro p l e s m args below meth c H locs ls g X G R T hl
  refine va_newaK (atype := .int) X.1 X.2.1 (X.2.2.2.2.1 _ harr) rfl hd rfl hn hN (by show N * 4 ≤ 536870912; omega) hc hs R.1 fun H1 cA e1 z1 o1 hAr hNm => ?_
  have hcA : cA = g.2.2.1 0 := Option.some.inj (hNm.symm.trans (G.1.2 0 _ rfl).2)
  have ea : mc_ra g w.length = g.1 + w.length := mc_ra_lt hw
  have K := kk p l e s m args below meth c H1 locs ls g X G (mc_Rel_push R hw (c1 := .inr (.inl (List.replicate N 0))) (by
    show H1[g.1 + w.length]? = some (vp_cell (g.2.2.1 0) ((List.replicate N (0 : Int32)).length, .inl (fun j => (List.replicate N (0 : Int32)).getD j 0)))
    rw [e1, hcA, List.length_replicate, vp_cell_i]
    congr 2
    funext j
    show Value.int 0 = Value.int _
    congr 1
    rw [List.getD_eq_getElem?_getD, List.getElem?_replicate]
    split <;> rfl) (by rw [z1, R.1]) (fun q hq => o1 q (by rw [← R.1]; exact hq))) T hl
  rw [show List.map (mc_vm g) (.ref w.length :: st) = .ref (mc_ra g w.length) :: st.map (mc_vm g) from rfl, ea] at K
  exact K
theorem e_newq {n : Int32} {N i kd : Nat} {C : String} (hd : decode cc pc = .ok (.anewarray i, 3)) (hkd : (kd, C) = (1, RX5) ∨ (kd, C) = (2, RX3)) (hcl : Cond.classLink own i C ∈ mc_WS) (hn : ¬ n < 0) (hN : n.toNatClampNeg = N) (hb : N ≤ 100000000) (hw : w.length < 1000000) (hc : kc + 1 ≤ J.2.2.1.cells) (hs : ks + N ≤ J.2.2.1.slots)
    (kk : mc_E own cc nL J (pc + 3) L (.ref w.length :: st) (w ++ [.inr (.inr (kd, List.replicate N none))]) (kc + 1) (ks + N)) : mc_E own cc nL J pc L (.int n :: st) w kc ks := by
  intro p l e s m args below meth c H locs ls g X G R T hl
  subst hN
  have hov : va_AO C s := by
    rcases hkd with h | h <;> cases h
    · exact G.2.2.2.2.2.2.2.2.2.1
    · exact G.2.2.2.2.2.2.2.2.2.2
  refine W.anew X.1 X.2.1 X.2.2.2.1 (X.2.2.2.2.1 _ hcl) (va_AO.use hov) rfl hd rfl hn (by omega) hc hs fun cA kA comp f1 f2 f3 f4 => ?_
  have hcA : cA = g.2.2.1 kd := by
    rcases hkd with h | h <;> cases h
    · obtain ⟨-, -, -, -, -, -, hN⟩ := G.1.2 1 _ rfl
      exact Option.some.inj (f1.symm.trans hN)
    · obtain ⟨-, -, -, -, -, -, hN⟩ := G.1.2 2 _ rfl
      exact Option.some.inj (f1.symm.trans hN)
  have ea : mc_ra g w.length = g.1 + w.length := mc_ra_lt hw
  generalize hH1 : H.push ({ cls := cA, slots := Array.replicate n.toNatClampNeg .null, vm := .none } : Cell) = H1
  have z1 : H1.size = H.size + 1 := by rw [← hH1, Array.size_push]
  have e1 : H1[H.size]? = some (arrV cA n.toNatClampNeg (fun _ => .null)) := by rw [← hH1, Array.getElem?_push_size, ← arrV_new]
  have o1 : ∀ q : Nat, q < H.size → H1[q]? = H[q]? := fun q hq => by rw [← hH1, Array.getElem?_push, if_neg (Nat.ne_of_lt hq)]
  have K := kk p l e s m args below meth c H1 locs ls g X G (mc_Rel_push R hw (c1 := .inr (.inr (kd, List.replicate n.toNatClampNeg none))) (by
    show H1[g.1 + w.length]? = some (vp_cell (g.2.2.1 kd) ((List.replicate n.toNatClampNeg (none : Option Nat)).length, .inr (.inr (.inr (.inr (fun j => ((List.replicate n.toNatClampNeg (none : Option Nat)).getD j none).map (mc_ra g)))))))
    rw [← R.1, e1, hcA, List.length_replicate, vp_cell_q]
    congr 2
    funext j
    rw [List.getD_eq_getElem?_getD, List.getElem?_replicate]
    split <;> rfl) z1 o1) T hl
  rw [show List.map (mc_vm g) (.ref w.length :: st) = .ref (mc_ra g w.length) :: st.map (mc_vm g) from rfl, ea, ← R.1] at K
  exact K
theorem e_new {i ci N : Nat} {C : String} {T0 : u_T} {ty : Nat → FieldType} {fs : List Value} (hd : decode cc pc = .ok (.new i, 3)) (hf : mc_CF ci C T0 N ty) (hcl : Cond.classLink own i C ∈ mc_WS) (hins : Cond.instantiable C N ∈ mc_WS) (hini : Cond.initialized C ∈ mc_WS) (hfs : (List.range N).map (fun j => defaultValue (ty j)) = fs) (hw : w.length < 1000000) (hc : kc + 1 ≤ J.2.2.1.cells) (hs : ks + N ≤ J.2.2.1.slots)
    (kk : mc_E own cc nL J (pc + 3) L (.ref w.length :: st) (w ++ [.inl (ci, fs)]) (kc + 1) (ks + N)) : mc_E own cc nL J pc L st w kc ks := by
  intro p l e s m args below meth c H locs ls g X G R T hl
  obtain ⟨hcc, hws, hty, -⟩ := hf
  have hKn := G.1.1 ci _ hcc
  refine W.newcK X.1 X.2.1 X.2.2.2.1 (X.2.2.2.2.1 _ hcl) (X.2.2.2.2.1 _ hins) (X.2.2.2.2.1 _ hini) rfl hd hc hs hKn.2.1 R.1 fun H1 kC hkC e1 z1 o1 => ?_
  have ea : mc_ra g w.length = g.1 + w.length := mc_ra_lt hw
  have K := kk p l e s m args below meth c H1 locs ls g X G (mc_Rel_push R hw (c1 := .inl (ci, fs)) (by
    refine ⟨_, hcc, (u_born ty X.2.2.2.2.1 hws hKn hkC e1 hty).to fun j hj => ?_⟩
    show defaultValue (ty j) = vp_V (fs.map (mc_vm g)) j
    subst hfs
    have : (((List.range N).map (fun j => defaultValue (ty j))).map (mc_vm g))[j]? = some (mc_vm g (defaultValue (ty j))) := by
      rw [List.getElem?_map, List.getElem?_map, List.getElem?_range hj]
      rfl
    unfold vp_V
    rw [List.getD_eq_getElem?_getD, this]
    cases ty j <;> rfl) (by rw [z1, R.1]) (fun q hq => o1 q (by rw [← R.1]; exact hq))) T hl
  rw [show List.map (mc_vm g) (.ref w.length :: st) = .ref (mc_ra g w.length) :: st.map (mc_vm g) from rfl, ea] at K
  exact K
theorem e_alenq {a kd : Nat} {rs : List (Option Nat)} {v : Int32} (hd : decode cc pc = .ok (.arraylength, 1)) (hw : w[a]? = some (.inr (.inr (kd, rs)))) (hk : kd = 1 ∨ kd = 2) (hv : Int32.ofNat rs.length = v) (kk : mc_E own cc nL J (pc + 1) L (.int v :: st) w kc ks) : mc_E own cc nL J pc L (.ref a :: st) w kc ks := by
  intro p l e s m args below meth c H locs ls g X G R T hl
  have ea : mc_ra g a = g.1 + a := mc_ra_lt (mc_lt_of hw R.2.2.2)
  show W _ _ _ _ _ _ _ _ _ _ _ _ _ _ _ (F0 m pc ls (.ref (mc_ra g a) :: st.map (mc_vm g)))
  rw [ea]
  rcases hk with rfl | rfl
  · exact va_alen X.1 X.2.1 G.1 R.2.1 a 1 (mc_rl_at hw) (ty := .object RX5) rfl hv hd (kk p l e s m args below meth c H locs ls g X G R T hl)
  · exact va_alen X.1 X.2.1 G.1 R.2.1 a 2 (mc_rl_at hw) (ty := .object RX3) rfl hv hd (kk p l e s m args below meth c H locs ls g X G R T hl)
def mc_rf : Option Nat → Value
  | none => .null
  | some a => .ref a
theorem mc_rf_vm (g : mc_G) (r : Option Nat) : mc_vm g (mc_rf r) = va_rf (r.map (mc_ra g)) := by cases r <;> rfl
theorem e_aldq {a kd : Nat} {rs : List (Option Nat)} {i : Int32} {r : Option Nat} (hd : decode cc pc = .ok (.aaload, 1)) (hw : w[a]? = some (.inr (.inr (kd, rs)))) (hk : kd = 1 ∨ kd = 2) (hi : vp_in i rs.length) (hr : rs.getD i.toNatClampNeg none = r) (kk : mc_E own cc nL J (pc + 1) L (mc_rf r :: st) w kc ks) : mc_E own cc nL J pc L (.int i :: .ref a :: st) w kc ks := by
  intro p l e s m args below meth c H locs ls g X G R T hl
  subst hr
  have ea : mc_ra g a = g.1 + a := mc_ra_lt (mc_lt_of hw R.2.2.2)
  show W _ _ _ _ _ _ _ _ _ _ _ _ _ _ _ (F0 m pc ls (.int i :: .ref (mc_ra g a) :: st.map (mc_vm g)))
  rw [ea]
  have K := kk p l e s m args below meth c H locs ls g X G R T hl
  rw [show List.map (mc_vm g) (mc_rf (rs.getD i.toNatClampNeg none) :: st) = mc_vm g (mc_rf (rs.getD i.toNatClampNeg none)) :: st.map (mc_vm g) from rfl, mc_rf_vm] at K
  rcases hk with rfl | rfl
  · exact va_aldq X.1 X.2.1 G.1 R.2.1 a 1 (mc_rl_at hw) (C := RX5) rfl hi hd K
  · exact va_aldq X.1 X.2.1 G.1 R.2.1 a 2 (mc_rl_at hw) (C := RX3) rfl hi hd K
end Rules3
