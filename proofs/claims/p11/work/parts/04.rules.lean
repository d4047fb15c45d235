/-! one rule an instruction: what it does to locals, stack and world -/
section Rules
variable {own : String} {cc : ByteArray} {nL : Nat} {J : mc_J} {pc : Nat} {L : List (Option Value)} {st : List Value} {w : mc_W} {kc ks : Nat}
theorem e_iconst {n : Int} {v : Int32} (hd : decode cc pc = .ok (.iconst n, 1)) (hv : Int32.ofInt n = v) (k : mc_E own cc nL J (pc + 1) L (.int v :: st) w kc ks) : mc_E own cc nL J pc L st w kc ks :=
  fun p l e s m args below meth c H locs ls g X G R T hl => lv_iconst X.1 X.2.1 hd hv (k p l e s m args below meth c H locs ls g X G R T hl)
theorem e_bipush {n : Int} {v : Int32} (hd : decode cc pc = .ok (.bipush n, 2)) (hv : (Int8.ofInt n).toInt32 = v) (k : mc_E own cc nL J (pc + 2) L (.int v :: st) w kc ks) : mc_E own cc nL J pc L st w kc ks :=
  fun p l e s m args below meth c H locs ls g X G R T hl => lv_bipush X.1 X.2.1 hd hv (k p l e s m args below meth c H locs ls g X G R T hl)
theorem e_sipush {n : Int} {v : Int32} (hd : decode cc pc = .ok (.sipush n, 3)) (hv : (Int16.ofInt n).toInt32 = v) (k : mc_E own cc nL J (pc + 3) L (.int v :: st) w kc ks) : mc_E own cc nL J pc L st w kc ks :=
  fun p l e s m args below meth c H locs ls g X G R T hl => lv_sipush X.1 X.2.1 hd hv (k p l e s m args below meth c H locs ls g X G R T hl)
theorem e_lconst {n : Fin 2} {v : Int64} (hd : decode cc pc = .ok (.lconst n, 1)) (hv : Int64.ofNat (n : Nat) = v) (k : mc_E own cc nL J (pc + 1) L (.long v :: st) w kc ks) : mc_E own cc nL J pc L st w kc ks :=
  fun p l e s m args below meth c H locs ls g X G R T hl => lv_lconst X.1 X.2.1 hd hv (k p l e s m args below meth c H locs ls g X G R T hl)
theorem e_ldc {i : Nat} {v : Int32} (hd : decode cc pc = .ok (.ldc i, 2)) (hc : Cond.constant own i v ∈ mc_WS) (k : mc_E own cc nL J (pc + 2) L (.int v :: st) w kc ks) : mc_E own cc nL J pc L st w kc ks :=
  fun p l e s m args below meth c H locs ls g X G R T hl => lv_ldc X.1 X.2.1 X.2.2.2.1 (X.2.2.2.2.1 _ hc) hd (k p l e s m args below meth c H locs ls g X G R T hl)
theorem e_ldcw {i : Nat} {v : Int32} (hd : decode cc pc = .ok (.ldc_w i, 3)) (hc : Cond.constant own i v ∈ mc_WS) (k : mc_E own cc nL J (pc + 3) L (.int v :: st) w kc ks) : mc_E own cc nL J pc L st w kc ks :=
  fun p l e s m args below meth c H locs ls g X G R T hl => lv_ldcw X.1 X.2.1 X.2.2.2.1 (X.2.2.2.2.1 _ hc) hd (k p l e s m args below meth c H locs ls g X G R T hl)
theorem e_ldc2 {i : Nat} {v : Int64} (hd : decode cc pc = .ok (.ldc2_w i, 3)) (hc : Cond.constantLong own i v ∈ mc_WS) (k : mc_E own cc nL J (pc + 3) L (.long v :: st) w kc ks) : mc_E own cc nL J pc L st w kc ks :=
  fun p l e s m args below meth c H locs ls g X G R T hl => lv_ldc2 X.1 X.2.1 X.2.2.2.1 (X.2.2.2.2.1 _ hc) hd (k p l e s m args below meth c H locs ls g X G R T hl)
theorem e_null (hd : decode cc pc = .ok (.aconst_null, 1)) (k : mc_E own cc nL J (pc + 1) L (.null :: st) w kc ks) : mc_E own cc nL J pc L st w kc ks :=
  fun p l e s m args below meth c H locs ls g X G R T hl => lv_null X.1 X.2.1 hd (k p l e s m args below meth c H locs ls g X G R T hl)
theorem e_iloadn {n : Fin 4} {x : Int32} (hd : decode cc pc = .ok (.iload_n n, 1)) (hv : L[(n : Nat)]? = some (some (.int x))) (k : mc_E own cc nL J (pc + 1) L (.int x :: st) w kc ks) : mc_E own cc nL J pc L st w kc ks :=
  fun p l e s m args below meth c H locs ls g X G R T hl => lv_iload_n X.1 X.2.1 hd rfl (mc_lv_at hl hv) (k p l e s m args below meth c H locs ls g X G R T hl)
theorem e_iload {i : Nat} {x : Int32} (hd : decode cc pc = .ok (.iload i, 2)) (hv : L[i]? = some (some (.int x))) (k : mc_E own cc nL J (pc + 2) L (.int x :: st) w kc ks) : mc_E own cc nL J pc L st w kc ks :=
  fun p l e s m args below meth c H locs ls g X G R T hl => lv_iload X.1 X.2.1 hd (mc_lv_at hl hv) (k p l e s m args below meth c H locs ls g X G R T hl)
theorem e_lloadn {n : Fin 4} {x : Int64} (hd : decode cc pc = .ok (.lload_n n, 1)) (hv : L[(n : Nat)]? = some (some (.long x))) (k : mc_E own cc nL J (pc + 1) L (.long x :: st) w kc ks) : mc_E own cc nL J pc L st w kc ks :=
  fun p l e s m args below meth c H locs ls g X G R T hl => lv_lload_n X.1 X.2.1 hd rfl (mc_lv_at hl hv) (k p l e s m args below meth c H locs ls g X G R T hl)
theorem e_lload {i : Nat} {x : Int64} (hd : decode cc pc = .ok (.lload i, 2)) (hv : L[i]? = some (some (.long x))) (k : mc_E own cc nL J (pc + 2) L (.long x :: st) w kc ks) : mc_E own cc nL J pc L st w kc ks :=
  fun p l e s m args below meth c H locs ls g X G R T hl => lv_lload X.1 X.2.1 hd (mc_lv_at hl hv) (k p l e s m args below meth c H locs ls g X G R T hl)
theorem e_aloadn {n : Fin 4} {x : Nat} (hd : decode cc pc = .ok (.aload_n n, 1)) (hv : L[(n : Nat)]? = some (some (.ref x))) (k : mc_E own cc nL J (pc + 1) L (.ref x :: st) w kc ks) : mc_E own cc nL J pc L st w kc ks :=
  fun p l e s m args below meth c H locs ls g X G R T hl => lv_aload_n X.1 X.2.1 hd rfl (mc_lv_at hl hv) (k p l e s m args below meth c H locs ls g X G R T hl)
theorem e_aload {i : Nat} {x : Nat} (hd : decode cc pc = .ok (.aload i, 2)) (hv : L[i]? = some (some (.ref x))) (k : mc_E own cc nL J (pc + 2) L (.ref x :: st) w kc ks) : mc_E own cc nL J pc L st w kc ks :=
  fun p l e s m args below meth c H locs ls g X G R T hl => lv_aload X.1 X.2.1 hd (mc_lv_at hl hv) (k p l e s m args below meth c H locs ls g X G R T hl)
theorem e_aloadnN {n : Fin 4} (hd : decode cc pc = .ok (.aload_n n, 1)) (hv : L[(n : Nat)]? = some (some .null)) (k : mc_E own cc nL J (pc + 1) L (.null :: st) w kc ks) : mc_E own cc nL J pc L st w kc ks :=
  fun p l e s m args below meth c H locs ls g X G R T hl => lv_aload_nN X.1 X.2.1 hd rfl (mc_lv_at hl hv) (k p l e s m args below meth c H locs ls g X G R T hl)
theorem e_istoren {n : Fin 4} {x : Int32} (hd : decode cc pc = .ok (.istore_n n, 1)) (hn : (n : Nat) < nL) (k : mc_E own cc nL J (pc + 1) (mc_st1 L n (.int x)) st w kc ks) : mc_E own cc nL J pc L (.int x :: st) w kc ks :=
  fun p l e s m args below meth c H locs ls g X G R T hl => lv_istore_n X.1 X.2.1 hd rfl hl hn rfl (fun ls' hl' => k p l e s m args below meth c H locs ls' g X G R T (mc_store1 (g := g) (ls := ls) (v := .int x) hl'))
theorem e_istore {i : Nat} {x : Int32} (hd : decode cc pc = .ok (.istore i, 2)) (hn : i < nL) (k : mc_E own cc nL J (pc + 2) (mc_st1 L i (.int x)) st w kc ks) : mc_E own cc nL J pc L (.int x :: st) w kc ks :=
  fun p l e s m args below meth c H locs ls g X G R T hl => lv_istore X.1 X.2.1 hd hl hn rfl (fun ls' hl' => k p l e s m args below meth c H locs ls' g X G R T (mc_store1 (g := g) (ls := ls) (v := .int x) hl'))
theorem e_lstoren {n : Fin 4} {x : Int64} (hd : decode cc pc = .ok (.lstore_n n, 1)) (hn : (n : Nat) + 1 < nL) (k : mc_E own cc nL J (pc + 1) (mc_st2 L n (.long x)) st w kc ks) : mc_E own cc nL J pc L (.long x :: st) w kc ks :=
  fun p l e s m args below meth c H locs ls g X G R T hl => lv_lstore_n X.1 X.2.1 hd rfl hl hn rfl (fun ls' hl' => k p l e s m args below meth c H locs ls' g X G R T (mc_store2 (g := g) (ls := ls) (v := .long x) hl'))
theorem e_lstore {i : Nat} {x : Int64} (hd : decode cc pc = .ok (.lstore i, 2)) (hn : i + 1 < nL) (k : mc_E own cc nL J (pc + 2) (mc_st2 L i (.long x)) st w kc ks) : mc_E own cc nL J pc L (.long x :: st) w kc ks :=
  fun p l e s m args below meth c H locs ls g X G R T hl => lv_lstore X.1 X.2.1 hd hl hn rfl (fun ls' hl' => k p l e s m args below meth c H locs ls' g X G R T (mc_store2 (g := g) (ls := ls) (v := .long x) hl'))
theorem e_astoren {n : Fin 4} {x : Nat} (hd : decode cc pc = .ok (.astore_n n, 1)) (hn : (n : Nat) < nL) (k : mc_E own cc nL J (pc + 1) (mc_st1 L n (.ref x)) st w kc ks) : mc_E own cc nL J pc L (.ref x :: st) w kc ks :=
  fun p l e s m args below meth c H locs ls g X G R T hl => lv_astore_n X.1 X.2.1 hd rfl hl hn rfl (fun ls' hl' => k p l e s m args below meth c H locs ls' g X G R T (mc_store1 (g := g) (ls := ls) (v := .ref x) hl'))
theorem e_astore {i : Nat} {x : Nat} (hd : decode cc pc = .ok (.astore i, 2)) (hn : i < nL) (k : mc_E own cc nL J (pc + 2) (mc_st1 L i (.ref x)) st w kc ks) : mc_E own cc nL J pc L (.ref x :: st) w kc ks :=
  fun p l e s m args below meth c H locs ls g X G R T hl => lv_astore X.1 X.2.1 hd hl hn rfl (fun ls' hl' => k p l e s m args below meth c H locs ls' g X G R T (mc_store1 (g := g) (ls := ls) (v := .ref x) hl'))
theorem e_astorenN {n : Fin 4} (hd : decode cc pc = .ok (.astore_n n, 1)) (hn : (n : Nat) < nL) (k : mc_E own cc nL J (pc + 1) (mc_st1 L n .null) st w kc ks) : mc_E own cc nL J pc L (.null :: st) w kc ks :=
  fun p l e s m args below meth c H locs ls g X G R T hl => lv_astore_nN X.1 X.2.1 hd rfl hl hn rfl (fun ls' hl' => k p l e s m args below meth c H locs ls' g X G R T (mc_store1 (g := g) (ls := ls) (v := .null) hl'))
theorem e_iinc {i : Nat} {n : Int} {x : Int32} (hd : decode cc pc = .ok (.iinc i n, 3)) (hv : L[i]? = some (some (.int x))) (hn : i < nL) (k : mc_E own cc nL J (pc + 3) (mc_st1 L i (.int (x + Int32.ofInt n))) st w kc ks) : mc_E own cc nL J pc L st w kc ks := by
  intro p l e s m args below meth c H locs ls g X G R T hl
  obtain ⟨q, hq⟩ := List.getElem?_of_mem (mc_as_of (g := g) L 0 i _ hv)
  rw [Nat.zero_add] at hq
  exact lv_iinc X.1 X.2.1 hd hl hq rfl hn rfl (fun ls' hl' => k p l e s m args below meth c H locs ls' g X G R T (mc_store1 (g := g) (ls := ls) (v := .int (x + Int32.ofInt n)) hl'))
theorem e_iadd {x y : Int32} (hd : decode cc pc = .ok (.iadd, 1)) (k : mc_E own cc nL J (pc + 1) L (.int (x + y) :: st) w kc ks) : mc_E own cc nL J pc L (.int y :: .int x :: st) w kc ks :=
  fun p l e s m args below meth c H locs ls g X G R T hl => lv_iadd X.1 X.2.1 hd (k p l e s m args below meth c H locs ls g X G R T hl)
theorem e_isub {x y : Int32} (hd : decode cc pc = .ok (.isub, 1)) (k : mc_E own cc nL J (pc + 1) L (.int (x - y) :: st) w kc ks) : mc_E own cc nL J pc L (.int y :: .int x :: st) w kc ks :=
  fun p l e s m args below meth c H locs ls g X G R T hl => lv_isub X.1 X.2.1 hd (k p l e s m args below meth c H locs ls g X G R T hl)
theorem e_imul {x y : Int32} (hd : decode cc pc = .ok (.imul, 1)) (k : mc_E own cc nL J (pc + 1) L (.int (x * y) :: st) w kc ks) : mc_E own cc nL J pc L (.int y :: .int x :: st) w kc ks :=
  fun p l e s m args below meth c H locs ls g X G R T hl => lv_imul X.1 X.2.1 hd (k p l e s m args below meth c H locs ls g X G R T hl)
theorem e_ladd {x y : Int64} (hd : decode cc pc = .ok (.ladd, 1)) (k : mc_E own cc nL J (pc + 1) L (.long (x + y) :: st) w kc ks) : mc_E own cc nL J pc L (.long y :: .long x :: st) w kc ks :=
  fun p l e s m args below meth c H locs ls g X G R T hl => lv_ladd X.1 X.2.1 hd (k p l e s m args below meth c H locs ls g X G R T hl)
theorem e_lsub {x y : Int64} (hd : decode cc pc = .ok (.lsub, 1)) (k : mc_E own cc nL J (pc + 1) L (.long (x - y) :: st) w kc ks) : mc_E own cc nL J pc L (.long y :: .long x :: st) w kc ks :=
  fun p l e s m args below meth c H locs ls g X G R T hl => lv_lsub X.1 X.2.1 hd (k p l e s m args below meth c H locs ls g X G R T hl)
theorem e_lmul {x y : Int64} (hd : decode cc pc = .ok (.lmul, 1)) (k : mc_E own cc nL J (pc + 1) L (.long (x * y) :: st) w kc ks) : mc_E own cc nL J pc L (.long y :: .long x :: st) w kc ks :=
  fun p l e s m args below meth c H locs ls g X G R T hl => lv_lmul X.1 X.2.1 hd (k p l e s m args below meth c H locs ls g X G R T hl)
theorem e_iand {x y : Int32} (hd : decode cc pc = .ok (.iand, 1)) (k : mc_E own cc nL J (pc + 1) L (.int (x &&& y) :: st) w kc ks) : mc_E own cc nL J pc L (.int y :: .int x :: st) w kc ks :=
  fun p l e s m args below meth c H locs ls g X G R T hl => lv_iand X.1 X.2.1 hd (k p l e s m args below meth c H locs ls g X G R T hl)
theorem e_ior {x y : Int32} (hd : decode cc pc = .ok (.ior, 1)) (k : mc_E own cc nL J (pc + 1) L (.int (x ||| y) :: st) w kc ks) : mc_E own cc nL J pc L (.int y :: .int x :: st) w kc ks :=
  fun p l e s m args below meth c H locs ls g X G R T hl => lv_ior X.1 X.2.1 hd (k p l e s m args below meth c H locs ls g X G R T hl)
theorem e_ishl {x y : Int32} (hd : decode cc pc = .ok (.ishl, 1)) (k : mc_E own cc nL J (pc + 1) L (.int (x <<< (y &&& 31)) :: st) w kc ks) : mc_E own cc nL J pc L (.int y :: .int x :: st) w kc ks :=
  fun p l e s m args below meth c H locs ls g X G R T hl => lv_ishl X.1 X.2.1 hd (k p l e s m args below meth c H locs ls g X G R T hl)
theorem e_ishr {x y : Int32} (hd : decode cc pc = .ok (.ishr, 1)) (k : mc_E own cc nL J (pc + 1) L (.int (x >>> (y &&& 31)) :: st) w kc ks) : mc_E own cc nL J pc L (.int y :: .int x :: st) w kc ks :=
  fun p l e s m args below meth c H locs ls g X G R T hl => lv_ishr X.1 X.2.1 hd (k p l e s m args below meth c H locs ls g X G R T hl)
theorem e_idiv {x y : Int32} (hd : decode cc pc = .ok (.idiv, 1)) (h : ¬ y = 0) (k : mc_E own cc nL J (pc + 1) L (.int (x / y) :: st) w kc ks) : mc_E own cc nL J pc L (.int y :: .int x :: st) w kc ks :=
  fun p l e s m args below meth c H locs ls g X G R T hl => lv_idiv X.1 X.2.1 hd h (k p l e s m args below meth c H locs ls g X G R T hl)
theorem e_irem {x y : Int32} (hd : decode cc pc = .ok (.irem, 1)) (h : ¬ y = 0) (k : mc_E own cc nL J (pc + 1) L (.int (x - x / y * y) :: st) w kc ks) : mc_E own cc nL J pc L (.int y :: .int x :: st) w kc ks :=
  fun p l e s m args below meth c H locs ls g X G R T hl => lv_irem X.1 X.2.1 hd h (k p l e s m args below meth c H locs ls g X G R T hl)
theorem e_ldiv {x y : Int64} (hd : decode cc pc = .ok (.ldiv, 1)) (h : ¬ y = 0) (k : mc_E own cc nL J (pc + 1) L (.long (x / y) :: st) w kc ks) : mc_E own cc nL J pc L (.long y :: .long x :: st) w kc ks :=
  fun p l e s m args below meth c H locs ls g X G R T hl => lv_ldiv X.1 X.2.1 hd h (k p l e s m args below meth c H locs ls g X G R T hl)
theorem e_lrem {x y : Int64} (hd : decode cc pc = .ok (.lrem, 1)) (h : ¬ y = 0) (k : mc_E own cc nL J (pc + 1) L (.long (x - x / y * y) :: st) w kc ks) : mc_E own cc nL J pc L (.long y :: .long x :: st) w kc ks :=
  fun p l e s m args below meth c H locs ls g X G R T hl => lv_lrem X.1 X.2.1 hd h (k p l e s m args below meth c H locs ls g X G R T hl)
theorem e_iushr {x y : Int32} (hd : decode cc pc = .ok (.iushr, 1)) (k : mc_E own cc nL J (pc + 1) L (.int ((x.toUInt32 >>> (y.toUInt32 &&& Int32.toUInt32 31)).toInt32) :: st) w kc ks) : mc_E own cc nL J pc L (.int y :: .int x :: st) w kc ks :=
  fun p l e s m args below meth c H locs ls g X G R T hl => lv_iushr X.1 X.2.1 hd rfl (k p l e s m args below meth c H locs ls g X G R T hl)
theorem e_ineg {x : Int32} (hd : decode cc pc = .ok (.ineg, 1)) (k : mc_E own cc nL J (pc + 1) L (.int (-x) :: st) w kc ks) : mc_E own cc nL J pc L (.int x :: st) w kc ks :=
  fun p l e s m args below meth c H locs ls g X G R T hl => lv_ineg X.1 X.2.1 hd (k p l e s m args below meth c H locs ls g X G R T hl)
theorem e_lneg {x : Int64} (hd : decode cc pc = .ok (.lneg, 1)) (k : mc_E own cc nL J (pc + 1) L (.long (-x) :: st) w kc ks) : mc_E own cc nL J pc L (.long x :: st) w kc ks :=
  fun p l e s m args below meth c H locs ls g X G R T hl => lv_lneg X.1 X.2.1 hd (k p l e s m args below meth c H locs ls g X G R T hl)
theorem e_i2l {x : Int32} (hd : decode cc pc = .ok (.i2l, 1)) (k : mc_E own cc nL J (pc + 1) L (.long x.toInt64 :: st) w kc ks) : mc_E own cc nL J pc L (.int x :: st) w kc ks :=
  fun p l e s m args below meth c H locs ls g X G R T hl => lv_i2l X.1 X.2.1 hd rfl (k p l e s m args below meth c H locs ls g X G R T hl)
theorem e_l2i {x : Int64} (hd : decode cc pc = .ok (.l2i, 1)) (k : mc_E own cc nL J (pc + 1) L (.int x.toInt32 :: st) w kc ks) : mc_E own cc nL J pc L (.long x :: st) w kc ks :=
  fun p l e s m args below meth c H locs ls g X G R T hl => lv_l2i X.1 X.2.1 hd rfl (k p l e s m args below meth c H locs ls g X G R T hl)
theorem e_i2b {x : Int32} (hd : decode cc pc = .ok (.i2b, 1)) (k : mc_E own cc nL J (pc + 1) L (.int x.toInt8.toInt32 :: st) w kc ks) : mc_E own cc nL J pc L (.int x :: st) w kc ks :=
  fun p l e s m args below meth c H locs ls g X G R T hl => lv_i2b X.1 X.2.1 hd rfl (k p l e s m args below meth c H locs ls g X G R T hl)
theorem e_i2s {x : Int32} (hd : decode cc pc = .ok (.i2s, 1)) (k : mc_E own cc nL J (pc + 1) L (.int x.toInt16.toInt32 :: st) w kc ks) : mc_E own cc nL J pc L (.int x :: st) w kc ks :=
  fun p l e s m args below meth c H locs ls g X G R T hl => lv_i2s X.1 X.2.1 hd rfl (k p l e s m args below meth c H locs ls g X G R T hl)
theorem e_i2c {x : Int32} (hd : decode cc pc = .ok (.i2c, 1)) (k : mc_E own cc nL J (pc + 1) L (.int (x.toUInt32 % 65536).toInt32 :: st) w kc ks) : mc_E own cc nL J pc L (.int x :: st) w kc ks :=
  fun p l e s m args below meth c H locs ls g X G R T hl => lv_i2c X.1 X.2.1 hd rfl (k p l e s m args below meth c H locs ls g X G R T hl)
theorem e_lcmp {x y : Int64} (hd : decode cc pc = .ok (.lcmp, 1)) (k : mc_E own cc nL J (pc + 1) L (.int (lg_cmp x y) :: st) w kc ks) : mc_E own cc nL J pc L (.long y :: .long x :: st) w kc ks :=
  fun p l e s m args below meth c H locs ls g X G R T hl => W.lcmp X.1 X.2.1 hd (k p l e s m args below meth c H locs ls g X G R T hl)
theorem e_dup {v : Value} (hd : decode cc pc = .ok (.dup, 1)) (hv : v.category = 1) (k : mc_E own cc nL J (pc + 1) L (v :: v :: st) w kc ks) : mc_E own cc nL J pc L (v :: st) w kc ks :=
  fun p l e s m args below meth c H locs ls g X G R T hl => lv_dup X.1 X.2.1 hd ((mc_vm_cat g v).trans hv) (k p l e s m args below meth c H locs ls g X G R T hl)
theorem e_pop {v : Value} (hd : decode cc pc = .ok (.pop, 1)) (hv : v.category = 1) (k : mc_E own cc nL J (pc + 1) L st w kc ks) : mc_E own cc nL J pc L (v :: st) w kc ks :=
  fun p l e s m args below meth c H locs ls g X G R T hl => lv_pop X.1 X.2.1 hd ((mc_vm_cat g v).trans hv) (k p l e s m args below meth c H locs ls g X G R T hl)
theorem e_dup2 {v u : Value} (hd : decode cc pc = .ok (.dup2, 1)) (hv : v.category = 1) (hu : u.category = 1) (k : mc_E own cc nL J (pc + 1) L (v :: u :: v :: u :: st) w kc ks) : mc_E own cc nL J pc L (v :: u :: st) w kc ks :=
  fun p l e s m args below meth c H locs ls g X G R T hl => lv_dup2_11 X.1 X.2.1 hd ((mc_vm_cat g v).trans hv) ((mc_vm_cat g u).trans hu) (k p l e s m args below meth c H locs ls g X G R T hl)
theorem e_dupx1 {v u : Value} (hd : decode cc pc = .ok (.dup_x1, 1)) (hv : v.category = 1) (hu : u.category = 1) (k : mc_E own cc nL J (pc + 1) L (v :: u :: v :: st) w kc ks) : mc_E own cc nL J pc L (v :: u :: st) w kc ks :=
  fun p l e s m args below meth c H locs ls g X G R T hl => lv_dup_x1 X.1 X.2.1 hd ((mc_vm_cat g v).trans hv) ((mc_vm_cat g u).trans hu) (k p l e s m args below meth c H locs ls g X G R T hl)
theorem e_goto {o : Int} {t : Nat} (hd : decode cc pc = .ok (.goto o, 3)) (ht : (pc : Int) + o = (t : Int)) (k : mc_E own cc nL J t L st w kc ks) : mc_E own cc nL J pc L st w kc ks :=
  fun p l e s m args below meth c H locs ls g X G R T hl => lv_goto X.1 X.2.1 hd ht (k p l e s m args below meth c H locs ls g X G R T hl)
theorem e_ifnullN {o : Int} {t : Nat} (hd : decode cc pc = .ok (.ifnull o, 3)) (ht : (pc : Int) + o = (t : Int)) (k : mc_E own cc nL J t L st w kc ks) : mc_E own cc nL J pc L (.null :: st) w kc ks :=
  fun p l e s m args below meth c H locs ls g X G R T hl => lv_ifnullN X.1 X.2.1 hd ht (k p l e s m args below meth c H locs ls g X G R T hl)
theorem e_ifnull {o : Int} {x : Nat} (hd : decode cc pc = .ok (.ifnull o, 3)) (k : mc_E own cc nL J (pc + 3) L st w kc ks) : mc_E own cc nL J pc L (.ref x :: st) w kc ks :=
  fun p l e s m args below meth c H locs ls g X G R T hl => lv_ifnull X.1 X.2.1 hd (k p l e s m args below meth c H locs ls g X G R T hl)
theorem e_ifnonnullN {o : Int} (hd : decode cc pc = .ok (.ifnonnull o, 3)) (k : mc_E own cc nL J (pc + 3) L st w kc ks) : mc_E own cc nL J pc L (.null :: st) w kc ks :=
  fun p l e s m args below meth c H locs ls g X G R T hl => lv_ifnonnullN X.1 X.2.1 hd (k p l e s m args below meth c H locs ls g X G R T hl)
theorem e_ifnonnull {o : Int} {t x : Nat} (hd : decode cc pc = .ok (.ifnonnull o, 3)) (ht : (pc : Int) + o = (t : Int)) (k : mc_E own cc nL J t L st w kc ks) : mc_E own cc nL J pc L (.ref x :: st) w kc ks :=
  fun p l e s m args below meth c H locs ls g X G R T hl => lv_ifnonnull X.1 X.2.1 hd ht (k p l e s m args below meth c H locs ls g X G R T hl)
theorem e_if_eq {x : Int32} {o : Int} {t : Nat} (hd : decode cc pc = .ok (.ifCond .eq o, 3)) (ht : (pc : Int) + o = (t : Int)) (kt : x = 0 → mc_E own cc nL J t L st w kc ks) (kf : ¬ (x = 0) → mc_E own cc nL J (pc + 3) L st w kc ks) : mc_E own cc nL J pc L (.int x :: st) w kc ks :=
  fun p l e s m args below meth c H locs ls g X G R T hl => lv_if_eq X.1 X.2.1 hd ht (fun h => kt h p l e s m args below meth c H locs ls g X G R T hl) (fun h => kf h p l e s m args below meth c H locs ls g X G R T hl)
theorem e_icmp_eq {x y : Int32} {o : Int} {t : Nat} (hd : decode cc pc = .ok (.if_icmp .eq o, 3)) (ht : (pc : Int) + o = (t : Int)) (kt : x = y → mc_E own cc nL J t L st w kc ks) (kf : ¬ (x = y) → mc_E own cc nL J (pc + 3) L st w kc ks) : mc_E own cc nL J pc L (.int y :: .int x :: st) w kc ks :=
  fun p l e s m args below meth c H locs ls g X G R T hl => lv_icmp_eq X.1 X.2.1 hd ht (fun h => kt h p l e s m args below meth c H locs ls g X G R T hl) (fun h => kf h p l e s m args below meth c H locs ls g X G R T hl)
theorem e_if_ne {x : Int32} {o : Int} {t : Nat} (hd : decode cc pc = .ok (.ifCond .ne o, 3)) (ht : (pc : Int) + o = (t : Int)) (kt : ¬ x = 0 → mc_E own cc nL J t L st w kc ks) (kf : x = 0 → mc_E own cc nL J (pc + 3) L st w kc ks) : mc_E own cc nL J pc L (.int x :: st) w kc ks :=
  fun p l e s m args below meth c H locs ls g X G R T hl => lv_if_ne X.1 X.2.1 hd ht (fun h => kt h p l e s m args below meth c H locs ls g X G R T hl) (fun h => kf h p l e s m args below meth c H locs ls g X G R T hl)
theorem e_icmp_ne {x y : Int32} {o : Int} {t : Nat} (hd : decode cc pc = .ok (.if_icmp .ne o, 3)) (ht : (pc : Int) + o = (t : Int)) (kt : ¬ x = y → mc_E own cc nL J t L st w kc ks) (kf : x = y → mc_E own cc nL J (pc + 3) L st w kc ks) : mc_E own cc nL J pc L (.int y :: .int x :: st) w kc ks :=
  fun p l e s m args below meth c H locs ls g X G R T hl => lv_icmp_ne X.1 X.2.1 hd ht (fun h => kt h p l e s m args below meth c H locs ls g X G R T hl) (fun h => kf h p l e s m args below meth c H locs ls g X G R T hl)
theorem e_if_lt {x : Int32} {o : Int} {t : Nat} (hd : decode cc pc = .ok (.ifCond .lt o, 3)) (ht : (pc : Int) + o = (t : Int)) (kt : x < 0 → mc_E own cc nL J t L st w kc ks) (kf : ¬ (x < 0) → mc_E own cc nL J (pc + 3) L st w kc ks) : mc_E own cc nL J pc L (.int x :: st) w kc ks :=
  fun p l e s m args below meth c H locs ls g X G R T hl => lv_if_lt X.1 X.2.1 hd ht (fun h => kt h p l e s m args below meth c H locs ls g X G R T hl) (fun h => kf h p l e s m args below meth c H locs ls g X G R T hl)
theorem e_icmp_lt {x y : Int32} {o : Int} {t : Nat} (hd : decode cc pc = .ok (.if_icmp .lt o, 3)) (ht : (pc : Int) + o = (t : Int)) (kt : x < y → mc_E own cc nL J t L st w kc ks) (kf : ¬ (x < y) → mc_E own cc nL J (pc + 3) L st w kc ks) : mc_E own cc nL J pc L (.int y :: .int x :: st) w kc ks :=
  fun p l e s m args below meth c H locs ls g X G R T hl => lv_icmp_lt X.1 X.2.1 hd ht (fun h => kt h p l e s m args below meth c H locs ls g X G R T hl) (fun h => kf h p l e s m args below meth c H locs ls g X G R T hl)
theorem e_if_ge {x : Int32} {o : Int} {t : Nat} (hd : decode cc pc = .ok (.ifCond .ge o, 3)) (ht : (pc : Int) + o = (t : Int)) (kt : 0 ≤ x → mc_E own cc nL J t L st w kc ks) (kf : ¬ (0 ≤ x) → mc_E own cc nL J (pc + 3) L st w kc ks) : mc_E own cc nL J pc L (.int x :: st) w kc ks :=
  fun p l e s m args below meth c H locs ls g X G R T hl => lv_if_ge X.1 X.2.1 hd ht (fun h => kt h p l e s m args below meth c H locs ls g X G R T hl) (fun h => kf h p l e s m args below meth c H locs ls g X G R T hl)
theorem e_icmp_ge {x y : Int32} {o : Int} {t : Nat} (hd : decode cc pc = .ok (.if_icmp .ge o, 3)) (ht : (pc : Int) + o = (t : Int)) (kt : y ≤ x → mc_E own cc nL J t L st w kc ks) (kf : ¬ (y ≤ x) → mc_E own cc nL J (pc + 3) L st w kc ks) : mc_E own cc nL J pc L (.int y :: .int x :: st) w kc ks :=
  fun p l e s m args below meth c H locs ls g X G R T hl => lv_icmp_ge X.1 X.2.1 hd ht (fun h => kt h p l e s m args below meth c H locs ls g X G R T hl) (fun h => kf h p l e s m args below meth c H locs ls g X G R T hl)
theorem e_if_gt {x : Int32} {o : Int} {t : Nat} (hd : decode cc pc = .ok (.ifCond .gt o, 3)) (ht : (pc : Int) + o = (t : Int)) (kt : 0 < x → mc_E own cc nL J t L st w kc ks) (kf : ¬ (0 < x) → mc_E own cc nL J (pc + 3) L st w kc ks) : mc_E own cc nL J pc L (.int x :: st) w kc ks :=
  fun p l e s m args below meth c H locs ls g X G R T hl => lv_if_gt X.1 X.2.1 hd ht (fun h => kt h p l e s m args below meth c H locs ls g X G R T hl) (fun h => kf h p l e s m args below meth c H locs ls g X G R T hl)
theorem e_icmp_gt {x y : Int32} {o : Int} {t : Nat} (hd : decode cc pc = .ok (.if_icmp .gt o, 3)) (ht : (pc : Int) + o = (t : Int)) (kt : y < x → mc_E own cc nL J t L st w kc ks) (kf : ¬ (y < x) → mc_E own cc nL J (pc + 3) L st w kc ks) : mc_E own cc nL J pc L (.int y :: .int x :: st) w kc ks :=
  fun p l e s m args below meth c H locs ls g X G R T hl => lv_icmp_gt X.1 X.2.1 hd ht (fun h => kt h p l e s m args below meth c H locs ls g X G R T hl) (fun h => kf h p l e s m args below meth c H locs ls g X G R T hl)
theorem e_if_le {x : Int32} {o : Int} {t : Nat} (hd : decode cc pc = .ok (.ifCond .le o, 3)) (ht : (pc : Int) + o = (t : Int)) (kt : x ≤ 0 → mc_E own cc nL J t L st w kc ks) (kf : ¬ (x ≤ 0) → mc_E own cc nL J (pc + 3) L st w kc ks) : mc_E own cc nL J pc L (.int x :: st) w kc ks :=
  fun p l e s m args below meth c H locs ls g X G R T hl => lv_if_le X.1 X.2.1 hd ht (fun h => kt h p l e s m args below meth c H locs ls g X G R T hl) (fun h => kf h p l e s m args below meth c H locs ls g X G R T hl)
theorem e_icmp_le {x y : Int32} {o : Int} {t : Nat} (hd : decode cc pc = .ok (.if_icmp .le o, 3)) (ht : (pc : Int) + o = (t : Int)) (kt : x ≤ y → mc_E own cc nL J t L st w kc ks) (kf : ¬ (x ≤ y) → mc_E own cc nL J (pc + 3) L st w kc ks) : mc_E own cc nL J pc L (.int y :: .int x :: st) w kc ks :=
  fun p l e s m args below meth c H locs ls g X G R T hl => lv_icmp_le X.1 X.2.1 hd ht (fun h => kt h p l e s m args below meth c H locs ls g X G R T hl) (fun h => kf h p l e s m args below meth c H locs ls g X G R T hl)
theorem e_tabOut {dflt lo hi : Int} {offs : Array Int} {len t : Nat} {x : Int32} (hd : decode cc pc = .ok (.tableswitch dflt lo hi offs, len)) (h : x.toInt < lo ∨ hi < x.toInt) (ht : (pc : Int) + dflt = (t : Int)) (k : mc_E own cc nL J t L st w kc ks) : mc_E own cc nL J pc L (.int x :: st) w kc ks :=
  fun p l e s m args below meth c H locs ls g X G R T hl => lv_tableOut X.1 X.2.1 hd h ht (k p l e s m args below meth c H locs ls g X G R T hl)
theorem e_tabIn {dflt lo hi o : Int} {offs : Array Int} {len t : Nat} {x : Int32} (hd : decode cc pc = .ok (.tableswitch dflt lo hi offs, len)) (h1 : ¬ x.toInt < lo) (h2 : ¬ hi < x.toInt) (ho : offs[(x.toInt - lo).toNat]? = some o) (ht : (pc : Int) + o = (t : Int)) (k : mc_E own cc nL J t L st w kc ks) : mc_E own cc nL J pc L (.int x :: st) w kc ks :=
  fun p l e s m args below meth c H locs ls g X G R T hl => lv_tableIn X.1 X.2.1 hd h1 h2 ho ht (k p l e s m args below meth c H locs ls g X G R T hl)
theorem e_widen {kc' ks' : Nat} (h1 : kc ≤ kc') (h2 : ks ≤ ks') (k : mc_E own cc nL J pc L st w kc' ks') : mc_E own cc nL J pc L st w kc ks :=
  fun p l e s m args below meth c H locs ls g X G R T hl => W.widen h1 h2 (k p l e s m args below meth c H locs ls g X G R T hl)
theorem e_weak {L' : List (Option Value)} (h : ∀ (j : Nat) (v : Value), L'[j]? = some (some v) → L[j]? = some (some v)) (k : mc_E own cc nL J pc L' st w kc ks) : mc_E own cc nL J pc L st w kc ks :=
  fun p l e s m args below meth c H locs ls g X G R T hl => k p l e s m args below meth c H locs ls g X G R T (mc_lv_weak hl (fun j v hj => by simpa using mc_as_of (g := g) L 0 j v (h j v hj)))
end Rules
