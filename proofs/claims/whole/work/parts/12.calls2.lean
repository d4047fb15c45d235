/-! calls whose contract names the answer and the world -/
section Det
variable {own : String} {cc : ByteArray} {nL : Nat} {J : mc_J} {pc : Nat} {L : List (Option Value)} {st st0 : List Value} {w w1 : mc_W} {kc ks : Nat}
variable {y : MethodName} {c2 : ByteArray} {n2 : Nat} {ret2 : Option FieldType} {d n i : Nat} {As : List Value} {v : Value}
/-- the contract of a method that makes nothing: the answer r, the world w1 -/
abbrev mc_D (y : MethodName) (cc : ByteArray) (nL : Nat) (ret : Option FieldType) (d : Nat) (av : List Value) (w : mc_W) (r : Option Value) (w1 : mc_W) : Prop := mc_S y cc nL ret d 0 0 av w (fun r' w' => r' = r ∧ w' = w1)
theorem e_cvD {a ci : Nat} {fs : List Value} {C : String} {T0 : u_T} {N : Nat} (hS : mc_D y c2 n2 ret2 d (.ref a :: As) w (some v) w1) (hd : decode cc pc = .ok (.invokevirtual i, 3)) (hf : mc_CV own i y c2 n2 ret2 n) (hw : w[a]? = some (.inl (ci, fs))) (hc : mc_cl[ci]? = some (C, T0, N)) (hC : y.cls = C) (hn : As.length = n) (hst : st0 = As.reverse ++ .ref a :: st) (hR : mc_CR J d 0 0 n2 kc ks) (hs : (st.map fun v => v.category).sum ≤ 8)
    (kk : mc_E own cc nL J (pc + 3) L (v :: st) w1 kc ks) : mc_E own cc nL J pc L st0 w kc ks :=
  e_callV hS hd hf hw hc hC hn hR hst hs (fun r w' h => by obtain ⟨rfl, rfl⟩ := h; exact kk)
theorem e_cvU {a ci : Nat} {fs : List Value} {C : String} {T0 : u_T} {N : Nat} (hS : mc_D y c2 n2 ret2 d (.ref a :: As) w none w1) (hd : decode cc pc = .ok (.invokevirtual i, 3)) (hf : mc_CV own i y c2 n2 ret2 n) (hw : w[a]? = some (.inl (ci, fs))) (hc : mc_cl[ci]? = some (C, T0, N)) (hC : y.cls = C) (hn : As.length = n) (hst : st0 = As.reverse ++ .ref a :: st) (hR : mc_CR J d 0 0 n2 kc ks) (hs : (st.map fun v => v.category).sum ≤ 8)
    (kk : mc_E own cc nL J (pc + 3) L st w1 kc ks) : mc_E own cc nL J pc L st0 w kc ks :=
  e_callV hS hd hf hw hc hC hn hR hst hs (fun r w' h => by obtain ⟨rfl, rfl⟩ := h; exact kk)
theorem e_csD (hS : mc_D y c2 n2 ret2 d As w (some v) w1) (hd : decode cc pc = .ok (.invokestatic i, 3)) (hf : mc_CS own i y c2 n2 ret2 n) (hn : As.length = n) (hst : st0 = As.reverse ++ st) (hR : mc_CR J d 0 0 n2 kc ks) (hs : (st.map fun v => v.category).sum ≤ 8)
    (kk : mc_E own cc nL J (pc + 3) L (v :: st) w1 kc ks) : mc_E own cc nL J pc L st0 w kc ks :=
  e_callS hS hd hf hn hR hst hs (fun r w' h => by obtain ⟨rfl, rfl⟩ := h; exact kk)
theorem e_csU (hS : mc_D y c2 n2 ret2 d As w none w1) (hd : decode cc pc = .ok (.invokestatic i, 3)) (hf : mc_CS own i y c2 n2 ret2 n) (hn : As.length = n) (hst : st0 = As.reverse ++ st) (hR : mc_CR J d 0 0 n2 kc ks) (hs : (st.map fun v => v.category).sum ≤ 8)
    (kk : mc_E own cc nL J (pc + 3) L st w1 kc ks) : mc_E own cc nL J pc L st0 w kc ks :=
  e_callS hS hd hf hn hR hst hs (fun r w' h => by obtain ⟨rfl, rfl⟩ := h; exact kk)
theorem e_cnD (hS : mc_D y c2 n2 ret2 d As w (some v) w1) (hd : decode cc pc = .ok (.invokestatic i, 3)) (hf : mc_CN own i y c2 n2 ret2 n) (hn : As.length = n) (hst : st0 = As.reverse ++ st) (hR : mc_CR J d 0 0 n2 kc ks) (hs : (st.map fun v => v.category).sum ≤ 8)
    (kk : mc_E own cc nL J (pc + 3) L (v :: st) w1 kc ks) : mc_E own cc nL J pc L st0 w kc ks :=
  e_callN hS hd hf hn hR hst hs (fun r w' h => by obtain ⟨rfl, rfl⟩ := h; exact kk)
end Det
theorem mc_CR_of {ret : Option FieldType} {ini : Bool} {D mc ms : Nat} {P : Option Value → mc_W → Prop} {d n2 kc ks mc2 ms2 : Nat} (h1 : d + 1 ≤ D) (h2 : n2 ≤ 45) (h3 : kc + mc2 ≤ mc) (h4 : ks + ms2 ≤ ms) : mc_CR (mc_JM ret ini D mc ms P) d mc2 ms2 n2 kc ks :=
  ⟨h1, by show 8 + (n2 + 11) + 64 * d ≤ 64 * D; omega, h3, h4⟩
theorem mc_JR_of {ret : Option FieldType} {ini : Bool} {D mc ms : Nat} {P : Option Value → mc_W → Prop} {kc ks : Nat} {st : List Value} (h1 : 1 ≤ D) (h3 : kc ≤ mc) (h4 : ks ≤ ms) (h5 : (st.map fun v => v.category).sum ≤ 8) : mc_JR (mc_JM ret ini D mc ms P) kc ks st :=
  ⟨h1, by show 64 ≤ 64 * D; omega, h3, h4, h5⟩
theorem e_iincC {own : String} {cc : ByteArray} {nL : Nat} {J : mc_J} {pc : Nat} {L : List (Option Value)} {st : List Value} {w : mc_W} {kc ks i : Nat} {n : Int} {x v : Int32} (hd : decode cc pc = .ok (.iinc i n, 3)) (hv : L[i]? = some (some (.int x))) (hx : x + Int32.ofInt n = v) (hn : i < nL) (k : mc_E own cc nL J (pc + 3) (mc_st1 L i (.int v)) st w kc ks) : mc_E own cc nL J pc L st w kc ks := by
  subst hx
  exact e_iinc hd hv hn k
/-- behind a switch's cases -/
theorem mc_tabout {x : Int32} {lo hi : Int} (h0 : -2147483648 ≤ lo ∧ hi ≤ 2147483647) (h : ∀ k : Int, lo ≤ k → k ≤ hi → ¬ x = Int32.ofInt k) : x.toInt < lo ∨ hi < x.toInt := by
  by_cases h1 : x.toInt < lo
  · exact Or.inl h1
  · by_cases h2 : hi < x.toInt
    · exact Or.inr h2
    · exact absurd (Int32.ofInt_toInt x).symm (h x.toInt (by omega) (by omega))
