/-! fields, rows, new cells -/
def mc_CF (ci : Nat) (C : String) (T : u_T) (N : Nat) (ty : Nat → FieldType) : Prop :=
  mc_cl[ci]? = some (C, T, N) ∧ (∀ w ∈ u_ws C T N, w ∈ mc_WS) ∧ (∀ k, k < N → parseFieldDescriptor (T k).2.2.1 = some (ty k)) ∧ (∀ a, a < N → ∀ b, b < N → a ≠ b → (T a).2.1 ≠ (T b).2.1)
/-- what the pool of a kind says of a field, to read it -/
def mc_FL (own : String) (i ci k : Nat) : Prop := ∃ (C : String) (T : u_T) (N : Nat) (ty : Nat → FieldType), mc_CF ci C T N ty ∧ k < N ∧ Cond.fieldLink own i (T k).1 (T k).2.1 (T k).2.2.1 ∈ mc_WS
/-- and to write it; final: by its own kind alone -/
def mc_FP (own : String) (i ci k : Nat) (t : FieldType) (fin : Bool) : Prop := ∃ (C : String) (T : u_T) (N : Nat) (ty : Nat → FieldType), mc_CF ci C T N ty ∧ k < N ∧ Cond.fieldLink own i (T k).1 (T k).2.1 (T k).2.2.1 ∈ mc_WS ∧ parseFieldDescriptor (T k).2.2.1 = some t ∧ (T k).2.2.2 = fin ∧ (T k).1 = own
def mc_fit : FieldType → Value → Bool
  | .int, .int _ => true
  | .boolean, .int v => v == 0 || v == 1
  | .object _, .null => true
  | .object _, .ref _ => true
  | .array _, .null => true
  | .array _, .ref _ => true
  | _, _ => false
theorem mc_fit_ok {g : mc_G} {t : FieldType} {v : Value} (h : mc_fit t v = true) : narrow t (mc_vm g v) = mc_vm g v ∧ fits t (mc_vm g v) = true := by
  cases t <;> cases v <;> first | exact ⟨rfl, rfl⟩ | (simp [mc_fit] at h; done) | skip
  rename_i v
  simp only [mc_fit, Bool.or_eq_true, beq_iff_eq] at h
  rcases h with rfl | rfl <;> exact ⟨rfl, rfl⟩
theorem mc_ra_lt {g : mc_G} {a : Nat} (h : a < 1000000) : mc_ra g a = g.1 + a := if_pos h
theorem mc_lt_of {w : mc_W} {a : Nat} {c : mc_C} (h : w[a]? = some c) (hl : w.length ≤ 1000000) : a < 1000000 := Nat.lt_of_lt_of_le (List.getElem?_eq_some_iff.mp h).1 hl
section Heaps
variable {p : Program} {l : Launch} {e : Env} {R : Room} {s : State} {m : MethodId} {args : Array Value} {below : List Frame} {meth : Method} {c : Code} {H : Heap} {locs : List Loc} {cells slots : Nat} {Q : State → Prop}
variable {cc : ByteArray} {pc : Nat} {ls : Array Slot} {rest : List Value} {g : mc_G} {w : mc_W}
/-- a store into one cell of the world -/
theorem mc_Rel_set {a : Nat} {c0 c1 : mc_C} {H1 : Heap} {k : Nat} (R0 : mc_Rel g w s H locs) (h : w[a]? = some c0) (he : va_at g.2.1 mc_cl (g.1 + a, mc_em g c1) H1) (hz : H1.size = H.size) (oq : ∀ q : Nat, q ≠ g.1 + a → H1[q]? = H[q]?) : mc_Rel g (w.set a c1) s H1 (locs ++ [⟨g.1 + a, k⟩]) := by
  obtain ⟨h1, h2, h3, h4⟩ := R0
  refine ⟨by rw [hz, h1, List.length_set], ?_, h3.put hz oq (Nat.le_add_right _ _), by rw [List.length_set]; exact h4⟩
  rw [mc_rl_set]
  exact h2.set (mc_rl_D g w) (mc_rl_at h) he oq
theorem mc_put (hx : p.tables.exec = Jvm.exec) (hb : c.code = cc) {own : String} {i ci k a : Nat} {t : FieldType} {fin : Bool} {fs : List Value} {v : Value} (hf : mc_FP own i ci k t fin) (hin : fin = true → meth.name = "<init>") (hts : ∀ w ∈ mc_WS, w.before args s = true) (hown : s.vm.findClass own = some m.cls) (hK : va_K g.2.1 mc_cl (mc_tys g) s) (R0 : mc_Rel g w s H locs) (hw : w[a]? = some (.inl (ci, fs))) (hl : k < fs.length) (hv : mc_fit t v = true) (hd : decode cc pc = .ok (.putfield i, 3))
    (kk : ∀ (H1 : Heap) (locs1 : List Loc), mc_Rel g (w.set a (.inl (ci, fs.set k v))) s H1 locs1 → W p l e R s m args below meth c H1 locs1 cells slots Q (F0 m (pc + 3) ls rest)) : W p l e R s m args below meth c H locs cells slots Q (F0 m pc ls (mc_vm g v :: .ref (g.1 + a) :: rest)) := by
  obtain ⟨C, T, N, ty, ⟨hc, hws, hty, hnm⟩, hk, hlink, hp, hfin, hdecl⟩ := hf
  have hap := va_apart (own := own) hts hws ty hty hnm hK hc
  obtain ⟨hn, hfit⟩ := mc_fit_ok (g := g) hv
  obtain ⟨r, h1, cell, q1, q2, q3, q4⟩ := R0.2.1 a _ (mc_rl_at hw)
  have hr : r = (C, T, N) := Option.some.inj (h1.symm.trans hc)
  subst hr
  obtain ⟨hS, hfc, kC, hkC, hkind⟩ := hK.1 ci _ hc
  obtain ⟨cf, kf, fi, f, hi, hsl⟩ := hS k hk
  have hll := hts _ hlink
  have hlay := u_lays hts hws hk
  have hst := (u_facts hfc hkC hlay hi).1
  have fin2 : ∀ (H' : Heap), H'[g.1 + a]? = some (cell.setSlot f.slot (mc_vm g v)) → H'.size = H.size → (∀ q, q ≠ g.1 + a → H'[q]? = H[q]?) → W p l e R s m args below meth c H' (locs ++ [⟨g.1 + a, f.slot⟩]) cells slots Q (F0 m (pc + 3) ls rest) := by
    intro H' e1 e2 e3
    rw [hsl] at e1
    refine kk H' _ (mc_Rel_set R0 hw ?_ e2 e3)
    refine ⟨_, hc, t_OB.to (V := updV (vp_V (fs.map (mc_vm g))) k (mc_vm g v)) ⟨_, e1, q2, q3, t_set q4 hap hk _⟩ (fun j _ => ?_)⟩
    show _ = vp_V ((fs.set k v).map (mc_vm g)) j
    rw [List.map_set]
    exact vp_updV_set (by simpa using hl) _ j
  cases fin with
  | false =>
    have hlay2 := hts _ (hws _ (u_in_lay hk))
    unfold u_lay at hlay2
    rw [if_neg (by rw [hfin]; decide)] at hlay2
    have h6 := u_store hfc hkC hkind hlay2 hi hp hn hfit
    exact W.putK hx hb (f := f) ⟨hown, hll, ⟨_, _, _, hi⟩, hst⟩ (by rw [q2]; exact h6) q1 q3 (by rw [hsl]; exact k2_hasslot (q4 k hk)) rfl rfl hd fin2
  | true =>
    have hlay2 := hts _ (hws _ (u_in_lay hk))
    unfold u_lay at hlay2
    rw [if_pos hfin] at hlay2
    have hcf : m.cls = cf := by
      obtain ⟨_, _, c', _, _, _, -, -, hf', -, -, -, hown2, -⟩ := Cond.laysFinal_spec hlay2
      have e1 : c' = cf := by have := hi.symm.trans hf'; simp at this; exact this.1.symm
      rw [hdecl] at hown2
      rw [← e1]; exact Option.some.inj (hown.symm.trans hown2)
    have h6 := u_fits hfc hkC hkind (Or.inr hlay2) hi hp hn hfit
    exact W.putFinK hx hb hown hll hi hst hcf (hin rfl) (by rw [q2]; exact h6) q1 q3 (by rw [hsl]; exact k2_hasslot (q4 k hk)) rfl rfl hd fin2
theorem mc_getD_set {α : Type} (xs : List α) (k : Nat) (x d : α) (hk : k < xs.length) : (fun j => (xs.set k x).getD j d) = fun j => if j = k then x else xs.getD j d := by
  funext j
  rw [List.getD_eq_getElem?_getD, List.getElem?_set, List.getD_eq_getElem?_getD]
  by_cases h : k = j
  · subst h; simp [hk]
  · rw [if_neg h, if_neg (fun q => h q.symm)]
theorem mc_iast (hx : p.tables.exec = Jvm.exec) (hb : c.code = cc) {a : Nat} {xs : List Int32} {i x : Int32} (hK : va_K g.2.1 mc_cl (mc_tys g) s) (R0 : mc_Rel g w s H locs) (hw : w[a]? = some (.inr (.inl xs))) (hin : vp_in i xs.length) (hd : decode cc pc = .ok (.iastore, 1))
    (kk : ∀ (H1 : Heap) (locs1 : List Loc), mc_Rel g (w.set a (.inr (.inl (xs.set i.toNatClampNeg x)))) s H1 locs1 → W p l e R s m args below meth c H1 locs1 cells slots Q (F0 m (pc + 1) ls rest)) : W p l e R s m args below meth c H locs cells slots Q (F0 m pc ls (.int x :: .int i :: .ref (g.1 + a) :: rest)) := by
  have ha := mc_rl_at (g := g) hw
  have ht : (mc_tys g)[0]? = some (g.2.2.1 0, .int) := rfl
  have hlt : i.toNatClampNeg < xs.length := Nat.not_le.mp fun q => hin (Or.inr q)
  refine W.iast hx hb (R0.2.1 a _ ha) ((hK.2 0 _ ht).1 xs.length (fun j => .int (xs.getD j 0))) (fun q => by cases q) (by show ¬ (i < 0 ∨ (arrV _ _ _).slots.size ≤ _); rw [arrV_size]; exact hin) rfl rfl hd fun H1 e1 z oq => ?_
  refine kk H1 _ (mc_Rel_set R0 hw ?_ z oq)
  show H1[g.1 + a]? = some (vp_cell _ _)
  rw [e1]
  show some ((vp_cell (g.2.2.1 0) (xs.length, .inl (fun j => xs.getD j 0))).setSlot i.toNatClampNeg (.int x)) = some (vp_cell (g.2.2.1 0) ((xs.set i.toNatClampNeg x).length, .inl (fun j => (xs.set i.toNatClampNeg x).getD j 0)))
  rw [List.length_set, mc_getD_set xs _ x 0 hlt, vp_cell_i, vp_cell_i, arrV_store]
  congr 2
  funext q
  by_cases hq : q = i.toNatClampNeg
  · subst hq
    simp [updV]
  · simp [updV, hq]
theorem mc_Rel_push {c1 : mc_C} {H1 : Heap} (R0 : mc_Rel g w s H locs) (hn : w.length < 1000000) (he : va_at g.2.1 mc_cl (g.1 + w.length, mc_em g c1) H1) (hz : H1.size = H.size + 1) (oq : ∀ q : Nat, q < H.size → H1[q]? = H[q]?) : mc_Rel g (w ++ [c1]) s H1 locs := by
  obtain ⟨h1, h2, h3, h4⟩ := R0
  have hk : ∀ (k : Nat) (x : Nat × va_E), (mc_rl g w)[k]? = some x → H1[x.1]? = H[x.1]? := fun k x hx => oq x.1 ((h2 k x hx).lt)
  refine ⟨by rw [hz, h1, List.length_append]; rfl, ?_, ⟨Nat.le_trans h3.1 (by omega), fun x g1 g2 => (oq x (Nat.lt_of_lt_of_le g1 h3.1)).trans (h3.2.1 x g1 g2), h3.2.2⟩, by rw [List.length_append]; exact hn⟩
  rw [mc_rl_push]
  refine (h2.kept hk).app (fun k x hx => ?_)
  have hz : k < 1 := (List.getElem?_eq_some_iff.mp hx).1
  rw [show k = 0 by omega] at hx
  cases hx
  exact he
end Heaps
section Rules2
variable {own : String} {cc : ByteArray} {nL : Nat} {J : mc_J} {pc : Nat} {L : List (Option Value)} {st : List Value} {w : mc_W} {kc ks : Nat}
theorem e_get {i ci k a : Nat} {fs : List Value} {v : Value} (hd : decode cc pc = .ok (.getfield i, 3)) (hf : mc_FL own i ci k) (hw : w[a]? = some (.inl (ci, fs))) (hv : fs[k]? = some v) (kk : mc_E own cc nL J (pc + 3) L (v :: st) w kc ks) : mc_E own cc nL J pc L (.ref a :: st) w kc ks := by
  intro p l e s m args below meth c H locs ls g X G R T hl
  obtain ⟨C, T', N, ty, ⟨hc, hws, -, -⟩, hk, hlink⟩ := hf
  have ea : mc_ra g a = g.1 + a := mc_ra_lt (mc_lt_of hw R.2.2.2)
  show W _ _ _ _ _ _ _ _ _ _ _ _ _ _ _ (F0 m pc ls (.ref (mc_ra g a) :: st.map (mc_vm g)))
  rw [ea]
  exact va_get X.1 X.2.1 X.2.2.2.2.1 hws X.2.2.2.1 G.1 R.2.1 a (mc_rl_at hw) hc k hk (X.2.2.2.2.1 _ hlink) (fun x h => h) (v := mc_vm g v) (by rw [List.getElem?_map, hv]; rfl) hd (kk p l e s m args below meth c H locs ls g X G R T hl)
theorem e_put {i ci k a : Nat} {t : FieldType} {fs : List Value} {v : Value} (hd : decode cc pc = .ok (.putfield i, 3)) (hf : mc_FP own i ci k t false) (hw : w[a]? = some (.inl (ci, fs))) (hk : k < fs.length) (hv : mc_fit t v = true) (kk : mc_E own cc nL J (pc + 3) L st (w.set a (.inl (ci, fs.set k v))) kc ks) : mc_E own cc nL J pc L (v :: .ref a :: st) w kc ks := by
  intro p l e s m args below meth c H locs ls g X G R T hl
  have ea : mc_ra g a = g.1 + a := mc_ra_lt (mc_lt_of hw R.2.2.2)
  show W _ _ _ _ _ _ _ _ _ _ _ _ _ _ _ (F0 m pc ls (mc_vm g v :: .ref (mc_ra g a) :: st.map (mc_vm g)))
  rw [ea]
  exact mc_put X.1 X.2.1 hf (fun h => by cases h) X.2.2.2.2.1 X.2.2.2.1 G.1 R hw hk hv hd (fun H1 locs1 R1 => kk p l e s m args below meth c H1 locs1 ls g X G R1 T hl)
theorem e_putF {i ci k a : Nat} {t : FieldType} {fs : List Value} {v : Value} (hd : decode cc pc = .ok (.putfield i, 3)) (hf : mc_FP own i ci k t true) (hJ : J.2.1 = true) (hw : w[a]? = some (.inl (ci, fs))) (hk : k < fs.length) (hv : mc_fit t v = true) (kk : mc_E own cc nL J (pc + 3) L st (w.set a (.inl (ci, fs.set k v))) kc ks) : mc_E own cc nL J pc L (v :: .ref a :: st) w kc ks := by
  intro p l e s m args below meth c H locs ls g X G R T hl
  have ea : mc_ra g a = g.1 + a := mc_ra_lt (mc_lt_of hw R.2.2.2)
  show W _ _ _ _ _ _ _ _ _ _ _ _ _ _ _ (F0 m pc ls (mc_vm g v :: .ref (mc_ra g a) :: st.map (mc_vm g)))
  rw [ea]
  exact mc_put X.1 X.2.1 hf (fun _ => X.2.2.2.2.2.2.2 hJ) X.2.2.2.2.1 X.2.2.2.1 G.1 R hw hk hv hd (fun H1 locs1 R1 => kk p l e s m args below meth c H1 locs1 ls g X G R1 T hl)
theorem e_iald {a : Nat} {xs : List Int32} {i x : Int32} (hd : decode cc pc = .ok (.iaload, 1)) (hw : w[a]? = some (.inr (.inl xs))) (hi : vp_in i xs.length) (hx : xs.getD i.toNatClampNeg 0 = x) (kk : mc_E own cc nL J (pc + 1) L (.int x :: st) w kc ks) : mc_E own cc nL J pc L (.int i :: .ref a :: st) w kc ks := by
  intro p l e s m args below meth c H locs ls g X G R T hl
  subst hx
  have ea : mc_ra g a = g.1 + a := mc_ra_lt (mc_lt_of hw R.2.2.2)
  show W _ _ _ _ _ _ _ _ _ _ _ _ _ _ _ (F0 m pc ls (.int i :: .ref (mc_ra g a) :: st.map (mc_vm g)))
  rw [ea]
  exact va_iald X.1 X.2.1 G.1 R.2.1 a 0 (mc_rl_at hw) rfl hi hd (kk p l e s m args below meth c H locs ls g X G R T hl)
theorem e_iast {a : Nat} {xs : List Int32} {i x : Int32} (hd : decode cc pc = .ok (.iastore, 1)) (hw : w[a]? = some (.inr (.inl xs))) (hi : vp_in i xs.length) (kk : mc_E own cc nL J (pc + 1) L st (w.set a (.inr (.inl (xs.set i.toNatClampNeg x)))) kc ks) : mc_E own cc nL J pc L (.int x :: .int i :: .ref a :: st) w kc ks := by
  intro p l e s m args below meth c H locs ls g X G R T hl
  have ea : mc_ra g a = g.1 + a := mc_ra_lt (mc_lt_of hw R.2.2.2)
  show W _ _ _ _ _ _ _ _ _ _ _ _ _ _ _ (F0 m pc ls (.int x :: .int i :: .ref (mc_ra g a) :: st.map (mc_vm g)))
  rw [ea]
  exact mc_iast X.1 X.2.1 G.1 R hw hi hd (fun H1 locs1 R1 => kk p l e s m args below meth c H1 locs1 ls g X G R1 T hl)
theorem e_alen {a : Nat} {xs : List Int32} {v : Int32} (hd : decode cc pc = .ok (.arraylength, 1)) (hw : w[a]? = some (.inr (.inl xs))) (hv : Int32.ofNat xs.length = v) (kk : mc_E own cc nL J (pc + 1) L (.int v :: st) w kc ks) : mc_E own cc nL J pc L (.ref a :: st) w kc ks := by
  intro p l e s m args below meth c H locs ls g X G R T hl
  have ea : mc_ra g a = g.1 + a := mc_ra_lt (mc_lt_of hw R.2.2.2)
  show W _ _ _ _ _ _ _ _ _ _ _ _ _ _ _ (F0 m pc ls (.ref (mc_ra g a) :: st.map (mc_vm g)))
  rw [ea]
  exact va_alen X.1 X.2.1 G.1 R.2.1 a 0 (mc_rl_at hw) (ty := .int) rfl hv hd (kk p l e s m args below meth c H locs ls g X G R T hl)
end Rules2
