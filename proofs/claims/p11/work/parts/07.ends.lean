/-! stores of references, Math, answers, calls, a method's start, what stood there before -/
section Heaps3
variable {p : Program} {l : Launch} {e : Env} {R : Room} {s : State} {m : MethodId} {args : Array Value} {below : List Frame} {meth : Method} {c : Code} {H : Heap} {locs : List Loc} {cells slots : Nat} {Q : State → Prop}
variable {cc : ByteArray} {pc : Nat} {ls : Array Slot} {rest : List Value} {g : mc_G} {w : mc_W}
theorem mc_aast (hx : p.tables.exec = Jvm.exec) (hb : c.code = cc) {a v kd ci : Nat} {q0 : vw_C} {rs : List (Option Nat)} {vs : List Value} {i : Int32} (hK : va_K g.2.1 mc_cl (mc_tys g) s) (R0 : mc_Rel g w s H locs) (ht : (mc_tys g)[kd]? = some (g.2.2.1 kd, .object q0.1)) (hq : mc_cl[ci]? = some q0) (hw : w[a]? = some (.inr (.inr (kd, rs)))) (hv : w[v]? = some (.inl (ci, vs))) (hin : vp_in i rs.length) (hd : decode cc pc = .ok (.aastore, 1))
    (kk : ∀ (H1 : Heap) (locs1 : List Loc), mc_Rel g (w.set a (.inr (.inr (kd, rs.set i.toNatClampNeg (some v))))) s H1 locs1 → W p l e R s m args below meth c H1 locs1 cells slots Q (F0 m (pc + 1) ls rest)) : W p l e R s m args below meth c H locs cells slots Q (F0 m pc ls (.ref (g.1 + v) :: .int i :: .ref (g.1 + a) :: rest)) := by
  have ha := mc_rl_at (g := g) hw
  have hlt : i.toNatClampNeg < rs.length := Nat.not_le.mp fun q => hin (Or.inr q)
  have h0 : ¬ i < 0 := fun q => hin (Or.inl q)
  obtain ⟨r', hr', cellV, g1, g2, g3, -⟩ := R0.2.1 v _ (mc_rl_at hv)
  have hcls := (hK.1 ci q0 hq).2
  obtain ⟨kA, comp, k1, k2, k3, -⟩ := (hK.2 kd _ ht).2
  have hcomp : comp = g.2.1.1 ci := Option.some.inj (k3.symm.trans hcls.1)
  subst hcomp
  obtain ⟨kC, hkC, -⟩ := hcls.2
  have ev : mc_ra g v = g.1 + v := mc_ra_lt (mc_lt_of hv R0.2.2.2)
  refine W.aast hx hb (R0.2.1 a _ ha) (fun q h => by cases h) (fun h => by cases h) k1 k2 rfl hkC ⟨h0, by show _ < (arrV _ _ _).slots.size; rw [arrV_size]; exact hlt⟩ g1 (fun q h => by rw [g3] at h; cases h) (by rw [g2]; exact hkC) (by rw [g2]; exact va_assign hcls) rfl rfl hd fun H1 e1 z oq => ?_
  refine kk H1 _ (mc_Rel_set R0 hw ?_ z oq)
  show H1[g.1 + a]? = some (vp_cell _ _)
  rw [e1]
  show some ((vp_cell (g.2.2.1 kd) (rs.length, .inr (.inr (.inr (.inr (fun j => (rs.getD j none).map (mc_ra g))))))).setSlot i.toNatClampNeg (.ref (g.1 + v))) = some (vp_cell (g.2.2.1 kd) ((rs.set i.toNatClampNeg (some v)).length, .inr (.inr (.inr (.inr (fun j => ((rs.set i.toNatClampNeg (some v)).getD j none).map (mc_ra g)))))))
  rw [List.length_set, vp_cell_q, vp_cell_q, arrV_store]
  congr 2
  funext q
  have e2 := congrFun (mc_getD_set rs i.toNatClampNeg (some v) none hlt) q
  rw [e2]
  by_cases hq : q = i.toNatClampNeg
  · subst hq
    simp [updV, va_rf, ev]
  · simp [updV, hq]
end Heaps3
section Rules4
variable {own : String} {cc : ByteArray} {nL : Nat} {J : mc_J} {pc : Nat} {L : List (Option Value)} {st : List Value} {w : mc_W} {kc ks : Nat}
theorem e_aast {a v kd ci : Nat} {rs : List (Option Nat)} {vs : List Value} {i : Int32} (hd : decode cc pc = .ok (.aastore, 1)) (hk : (kd = 1 ∧ ci = 5) ∨ (kd = 2 ∧ ci = 3)) (hw : w[a]? = some (.inr (.inr (kd, rs)))) (hv : w[v]? = some (.inl (ci, vs))) (hi : vp_in i rs.length) (kk : mc_E own cc nL J (pc + 1) L st (w.set a (.inr (.inr (kd, rs.set i.toNatClampNeg (some v))))) kc ks) : mc_E own cc nL J pc L (.ref v :: .int i :: .ref a :: st) w kc ks := by
  intro p l e s m args below meth c H locs ls g X G R T hl
  have ea : mc_ra g a = g.1 + a := mc_ra_lt (mc_lt_of hw R.2.2.2)
  have ev : mc_ra g v = g.1 + v := mc_ra_lt (mc_lt_of hv R.2.2.2)
  show W _ _ _ _ _ _ _ _ _ _ _ _ _ _ _ (F0 m pc ls (.ref (mc_ra g v) :: .int i :: .ref (mc_ra g a) :: st.map (mc_vm g)))
  rw [ea, ev]
  rcases hk with ⟨rfl, rfl⟩ | ⟨rfl, rfl⟩
  · exact mc_aast X.1 X.2.1 G.1 R (q0 := (RX5, TX5, 3)) rfl rfl hw hv hi hd (fun H1 locs1 R1 => kk p l e s m args below meth c H1 locs1 ls g X G R1 T hl)
  · exact mc_aast X.1 X.2.1 G.1 R (q0 := (RX3, TX3, 3)) rfl rfl hw hv hi hd (fun H1 locs1 R1 => kk p l e s m args below meth c H1 locs1 ls g X G R1 T hl)
theorem mc_catsum (g : mc_G) (st : List Value) : ((st.map (mc_vm g)).map fun v => v.category).sum = (st.map fun v => v.category).sum := by
  rw [List.map_map]
  have : ((fun v : Value => v.category) ∘ mc_vm g) = fun v => v.category := funext (mc_vm_cat g)
  rw [this]
/-- an inner method of the machine's own Math: what its link says -/
def mc_MF (own : String) (i : Nat) (y : MethodName) (cc : ByteArray) (nL : Nat) (ret : Option FieldType) : Prop := Cond.methodLink own i y ∈ mc_WS ∧ Cond.static y ∈ mc_WS ∧ Cond.initialized "java/lang/Math" ∈ mc_WS ∧ Cond.code y cc nL ret ∈ mc_WS
def mc_JR (J : mc_J) (kc ks : Nat) (st : List Value) : Prop := 1 ≤ J.2.2.1.frames ∧ 64 ≤ J.2.2.1.locals ∧ kc ≤ J.2.2.1.cells ∧ ks ≤ J.2.2.1.slots ∧ (st.map fun v => v.category).sum ≤ 8
theorem e_max {i : Nat} {x y : Int32} (hd : decode cc pc = .ok (.invokestatic i, 3)) (hf : mc_MF own i Lib.Math.max.name Lib.Math.max.code 2 (some .int)) (hR : mc_JR J kc ks st) (k : mc_E own cc nL J (pc + 3) L (.int (if x < y then y else x) :: st) w kc ks) : mc_E own cc nL J pc L (.int y :: .int x :: st) w kc ks := by
  intro p l e s m args below meth c H locs ls g X G R T hl
  exact va_mmax X.1 X.2.1 (by rw [X.2.2.1]; exact hl.1.symm) X.2.2.2.1 (X.2.2.2.2.1 _ hf.1) (X.2.2.2.2.1 _ hf.2.1) (X.2.2.2.2.1 _ hf.2.2.1) (X.2.2.2.2.1 _ hf.2.2.2) hR.1 (by rw [mc_catsum]; have := hR.2.1; have := hR.2.2.2.2; omega) hR.2.2.1 hR.2.2.2.1 hd (k p l e s m args below meth c H locs ls g X G R T hl)
theorem e_min {i : Nat} {x y : Int32} (hd : decode cc pc = .ok (.invokestatic i, 3)) (hf : mc_MF own i Lib.Math.min.name Lib.Math.min.code 2 (some .int)) (hR : mc_JR J kc ks st) (k : mc_E own cc nL J (pc + 3) L (.int (if y < x then y else x) :: st) w kc ks) : mc_E own cc nL J pc L (.int y :: .int x :: st) w kc ks := by
  intro p l e s m args below meth c H locs ls g X G R T hl
  exact va_mmin X.1 X.2.1 (by rw [X.2.2.1]; exact hl.1.symm) X.2.2.2.1 (X.2.2.2.2.1 _ hf.1) (X.2.2.2.2.1 _ hf.2.1) (X.2.2.2.2.1 _ hf.2.2.1) (X.2.2.2.2.1 _ hf.2.2.2) hR.1 (by rw [mc_catsum]; have := hR.2.1; have := hR.2.2.2.2; omega) hR.2.2.1 hR.2.2.2.1 hd (k p l e s m args below meth c H locs ls g X G R T hl)
theorem e_abs {i : Nat} {x : Int32} (hd : decode cc pc = .ok (.invokestatic i, 3)) (hf : mc_MF own i Lib.Math.abs.name Lib.Math.abs.code 1 (some .int)) (hR : mc_JR J kc ks st) (k : mc_E own cc nL J (pc + 3) L (.int (if 0 ≤ x then x else -x) :: st) w kc ks) : mc_E own cc nL J pc L (.int x :: st) w kc ks := by
  intro p l e s m args below meth c H locs ls g X G R T hl
  exact va_mabs X.1 X.2.1 (by rw [X.2.2.1]; exact hl.1.symm) X.2.2.2.1 (X.2.2.2.2.1 _ hf.1) (X.2.2.2.2.1 _ hf.2.1) (X.2.2.2.2.1 _ hf.2.2.1) (X.2.2.2.2.1 _ hf.2.2.2) hR.1 (by rw [mc_catsum]; have := hR.2.1; have := hR.2.2.2.2; omega) hR.2.2.1 hR.2.2.2.1 hd (k p l e s m args below meth c H locs ls g X G R T hl)
theorem e_minl {i : Nat} {x y : Int64} (hd : decode cc pc = .ok (.invokestatic i, 3)) (hf : mc_MF own i Lib.MathLoose.min_long.x Lib.MathLoose.min_long.code 4 (some .long)) (hR : mc_JR J kc ks st) (k : mc_E own cc nL J (pc + 3) L (.long (if y < x then y else x) :: st) w kc ks) : mc_E own cc nL J pc L (.long y :: .long x :: st) w kc ks := by
  intro p l e s m args below meth c H locs ls g X G R T hl
  exact va_mmin_long X.1 X.2.1 (by rw [X.2.2.1]; exact hl.1.symm) X.2.2.2.1 (X.2.2.2.2.1 _ hf.1) (X.2.2.2.2.1 _ hf.2.1) (X.2.2.2.2.1 _ hf.2.2.1) (X.2.2.2.2.1 _ hf.2.2.2) hR.1 (by rw [mc_catsum]; have := hR.2.1; have := hR.2.2.2.2; omega) hR.2.2.1 hR.2.2.2.1 hd (k p l e s m args below meth c H locs ls g X G R T hl)
theorem e_absl {i : Nat} {x : Int64} (hd : decode cc pc = .ok (.invokestatic i, 3)) (hf : mc_MF own i Lib.MathLoose.abs_long.x Lib.MathLoose.abs_long.code 2 (some .long)) (hR : mc_JR J kc ks st) (k : mc_E own cc nL J (pc + 3) L (.long (if 0 < x then x else -x) :: st) w kc ks) : mc_E own cc nL J pc L (.long x :: st) w kc ks := by
  intro p l e s m args below meth c H locs ls g X G R T hl
  exact va_mabs_long X.1 X.2.1 (by rw [X.2.2.1]; exact hl.1.symm) X.2.2.2.1 (X.2.2.2.2.1 _ hf.1) (X.2.2.2.2.1 _ hf.2.1) (X.2.2.2.2.1 _ hf.2.2.1) (X.2.2.2.2.1 _ hf.2.2.2) hR.1 (by rw [mc_catsum]; have := hR.2.1; have := hR.2.2.2.2; omega) hR.2.2.1 hR.2.2.2.1 hd (k p l e s m args below meth c H locs ls g X G R T hl)
theorem e_objInit {i a : Nat} (hd : decode cc pc = .ok (.invokespecial i, 3)) (hlink : Cond.methodLink own i Lib.objectInit ∈ mc_WS) (hinst : Cond.instanceMethod Lib.objectInit ∈ mc_WS) (hcode : Cond.code Lib.objectInit ⟨#[0xb1]⟩ 1 none ∈ mc_WS) (hR : mc_JR J kc ks st) (k : mc_E own cc nL J (pc + 3) L st w kc ks) : mc_E own cc nL J pc L (.ref a :: st) w kc ks := by
  intro p l e s m args below meth c H locs ls g X G R T hl
  exact W.objInit X.1 X.2.1 X.2.2.2.1 (X.2.2.2.2.1 _ hlink) (X.2.2.2.2.1 _ hinst) (X.2.2.2.2.1 _ hcode) (g := F0 m pc ls ((.ref a :: st).map (mc_vm g))) rfl (by rw [X.2.2.1]; exact hl.1) rfl hd hR.1 (by show 2 * 0 + _ + 12 ≤ _; rw [mc_catsum]; have := hR.2.1; have := hR.2.2.2.2; omega) (k p l e s m args below meth c H locs ls g X G R T hl)
end Rules4
/-! answers -/
section Ends
variable {own : String} {cc : ByteArray} {nL : Nat} {pc : Nat} {L : List (Option Value)} {w : mc_W} {kc ks : Nat}
variable {ret : Option FieldType} {ini : Bool} {d mc ms : Nat} {P : Option Value → mc_W → Prop}
theorem mc_end {g : mc_G} {s t : State} {H : Heap} {locs : List Loc} {args : Array Value} {r : Option Value} (R : mc_Rel g w s H locs) (hP : P r w) (ht : t.heap = H) : mc_Q g P args s (.returned (r.map (mc_vm g))) t :=
  ⟨⟨r, w, rfl, hP, by rw [ht]; exact R.1, by rw [ht]; exact R.2.1, R.2.2.2⟩, R.2.2.1.F ht⟩
theorem e_iret {x : Int32} (hd : decode cc pc = .ok (.ireturn, 1)) (hr : ret = some .int) (hk : kc ≤ mc) (hs : ks ≤ ms) (hP : P (some (.int x)) w) : mc_E own cc nL (mc_JM ret ini d mc ms P) pc L [.int x] w kc ks := by
  intro p l e s m args below meth c H locs ls g X G R T hl
  subst hr
  exact W.widen hk hs (W.iret X.1 X.2.1 X.2.2.2.2.2.1 (fun t ht _ => mc_end R hP ht) R.2.2.1.2.2 hd (hlocks := X.2.2.2.2.2.2.1))
theorem e_zret {x : Int32} {t : FieldType} (hd : decode cc pc = .ok (.ireturn, 1)) (hr : ret = some t) (hn : narrow t (.int x) = .int x) (hk : kc ≤ mc) (hs : ks ≤ ms) (hP : P (some (.int x)) w) : mc_E own cc nL (mc_JM ret ini d mc ms P) pc L [.int x] w kc ks := by
  intro p l e s m args below meth c H locs ls g X G R T hl
  subst hr
  exact W.widen hk hs (W.zret X.1 X.2.1 X.2.2.2.2.2.1 hn (fun t ht _ => mc_end R hP ht) R.2.2.1.2.2 hd (hlocks := X.2.2.2.2.2.2.1))
theorem e_lret {x : Int64} (hd : decode cc pc = .ok (.lreturn, 1)) (hr : ret = some .long) (hk : kc ≤ mc) (hs : ks ≤ ms) (hP : P (some (.long x)) w) : mc_E own cc nL (mc_JM ret ini d mc ms P) pc L [.long x] w kc ks := by
  intro p l e s m args below meth c H locs ls g X G R T hl
  subst hr
  exact W.widen hk hs (W.lret X.1 X.2.1 X.2.2.2.2.2.1 (fun t ht _ => mc_end R hP ht) R.2.2.1.2.2 hd (hlocks := X.2.2.2.2.2.2.1))
theorem e_vret (hd : decode cc pc = .ok (.return_, 1)) (hr : ret = none) (hk : kc ≤ mc) (hs : ks ≤ ms) (hP : P none w) : mc_E own cc nL (mc_JM ret ini d mc ms P) pc L [] w kc ks := by
  intro p l e s m args below meth c H locs ls g X G R T hl
  subst hr
  exact W.widen hk hs (W.vret X.1 X.2.1 X.2.2.2.2.2.1 (fun t ht _ => mc_end R hP ht) R.2.2.1.2.2 hd (hlocks := X.2.2.2.2.2.2.1))
theorem e_aret {a : Nat} {t : FieldType} (hd : decode cc pc = .ok (.areturn, 1)) (hr : ret = some t) (ht : (∃ n, t = .object n) ∨ ∃ u, t = .array u) (hk : kc ≤ mc) (hs : ks ≤ ms) (hP : P (some (.ref a)) w) : mc_E own cc nL (mc_JM ret ini d mc ms P) pc L [.ref a] w kc ks := by
  intro p l e s m args below meth c H locs ls g X G R T hl
  subst hr
  exact W.widen hk hs (W.aret X.1 X.2.1 X.2.2.2.2.2.1 ht (Or.inr ⟨_, rfl⟩) (fun t ht _ => mc_end R hP ht) R.2.2.1.2.2 hd (hlocks := X.2.2.2.2.2.2.1))
end Ends
/-! a method's start -/
theorem mc_in_len (g : mc_G) : ∀ av : List Value, (lg_sl (av.map (mc_vm g))).length = (mc_in av).length := by
  intro av
  induction av with
  | nil => rfl
  | cons v r ih =>
    cases v <;> simp [lg_sl, mc_in, mc_vm, Value.category] at ih ⊢ <;> exact ih
theorem mc_as_in (g : mc_G) : ∀ (av : List Value) (i : Nat), mc_as g i (mc_in av) = lv_args i (av.map (mc_vm g)) := by
  intro av
  induction av with
  | nil => intro i; rfl
  | cons v r ih =>
    intro i
    cases v <;> simp [lv_args, mc_in, mc_vm, Value.category, mc_as, ih]
theorem mc_as_none (g : mc_G) : ∀ (n i : Nat), mc_as g i (List.replicate n none) = [] := by
  intro n
  induction n with
  | zero => intro i; rfl
  | succ n ih => intro i; exact ih (i + 1)
theorem mc_as_app (g : mc_G) : ∀ (A B : List (Option Value)) (i : Nat), mc_as g i (A ++ B) = mc_as g i A ++ mc_as g (i + A.length) B := by
  intro A
  induction A with
  | nil => intro B i; rfl
  | cons a r ih =>
    intro B i
    have e : i + (a :: r).length = i + 1 + r.length := by simp; omega
    cases a with
    | none => show mc_as g (i + 1) (r ++ B) = _; rw [ih, e]; rfl
    | some v => show _ :: mc_as g (i + 1) (r ++ B) = _; rw [ih, e]; rfl
theorem mc_start {y : MethodName} {own : String} {cc : ByteArray} {nL : Nat} {ret : Option FieldType} {ini : Bool} {d mc ms : Nat} {av : List Value} {w : mc_W} {P : Option Value → mc_W → Prop} (ho : y.cls = own) (hp : plainName own = true) (hini : ini = true → y.name = "<init>") (hL : (mc_in av).length ≤ nL)
    (k : mc_E own cc nL (mc_JM ret ini d mc ms P) 0 (mc_ent nL av) [] w 0 0) : mc_S y cc nL ret d mc ms av w P := by
  intro l g
  subst ho
  refine Met.ofW (cc := cc) (maxL := nL) (ret := ret) hp rfl ?_
  intro p e s m args below meth c s₁ B hml hv
  obtain ⟨rfl, hG, hz, hP, hlen⟩ := hv
  have hts := atoms_spec (ws := Cond.code y cc nL ret :: mc_WS) B.pre
  rw [lg_entry_eq]
  have hl := lv_entry (av.map (mc_vm g)) (n := nL) (by rw [mc_in_len]; exact hL)
  refine k p l e s m _ below meth c s.heap [] _ g ⟨B.exec, B.bytes, hml, findClass_of_methodNamed B.named, fun w hw => hts w (List.mem_cons_of_mem _ hw), B.returns, B.notSynchronized, fun h => ?_⟩ hG ⟨hz, hP, va_S.rf, hlen⟩ trivial ?_
  · rw [(name_of_methodNamed B.named B.method).1]; exact hini h
  · unfold mc_ent
    rw [mc_as_app, mc_as_none, List.append_nil, mc_as_in]
    exact hl
