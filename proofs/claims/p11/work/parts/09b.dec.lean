/-! ===== decode rows of long codes: by windows of twenty bytes ===== -/
abbrev zD (α : Type) : Type := Jvm.ClassFile.Decoder α
def zk (pc : Nat) : Nat → zD Jvm.ClassFile.Instr := by
  have h : { k : Nat → zD Jvm.ClassFile.Instr // Jvm.ClassFile.Decoder.instr pc = (Jvm.ClassFile.Reader.u1 >>= k) } := ⟨_, rfl⟩
  exact h.1
theorem zk_eq (pc : Nat) : Jvm.ClassFile.Decoder.instr pc = (Jvm.ClassFile.Reader.u1 >>= zk pc) := rfl
def zr {α : Type} (r : zD α) (c : ByteArray) (p : Nat) : Except Jvm.ClassFile.DecodeError (α × Nat) := Jvm.ClassFile.Reader.runAt r c p
theorem zr_u1 (c : ByteArray) (p : Nat) : zr (Jvm.ClassFile.Reader.u1 : zD Nat) c p = if h : p < c.size then .ok (c[p].toNat, p + 1) else .error (Jvm.ClassFile.HasTruncated.truncated p) := by
  by_cases h : p < c.size
  · rw [dif_pos h]
    show (if h : p < c.size then (do set (p + 1); pure c[p].toNat : zD Nat) else throw (Jvm.ClassFile.HasTruncated.truncated p)) c p = _
    rw [dif_pos h]; rfl
  · rw [dif_neg h]
    show (if h : p < c.size then (do set (p + 1); pure c[p].toNat : zD Nat) else throw (Jvm.ClassFile.HasTruncated.truncated p)) c p = _
    rw [dif_neg h]; rfl
theorem zr_bind {α β : Type} (r : zD α) (f : α → zD β) (c : ByteArray) (p : Nat) : zr (r >>= f) c p = (zr r c p >>= fun q => zr (f q.1) c q.2) := rfl
theorem zr_pure {α : Type} (x : α) (c : ByteArray) (p : Nat) : zr (pure x : zD α) c p = .ok (x, p) := rfl
theorem zr_map {α β : Type} (g : α → β) (r : zD α) (c : ByteArray) (p : Nat) : zr (g <$> r) c p = (zr r c p >>= fun q => .ok (g q.1, q.2)) := rfl
/-- what stands in c from pc on -/
def zat (c : ByteArray) (pc : Nat) (bs : List UInt8) : Prop := ((c.data.toList.drop pc).take bs.length == bs) = true
theorem zat_cons {c : ByteArray} {pc : Nat} {b : UInt8} {r : List UInt8} (h : zat c pc (b :: r)) : (∃ h : pc < c.size, c[pc] = b) ∧ zat c (pc + 1) r := by
  unfold zat at h ⊢
  rw [beq_iff_eq] at h ⊢
  have hl : pc < c.data.toList.length := by
    refine Nat.lt_of_not_le (fun q => ?_)
    rw [List.drop_eq_nil_of_le q] at h
    cases h
  rw [List.drop_eq_getElem_cons hl, List.length_cons, List.take_succ_cons] at h
  injection h with h1 h2
  exact ⟨⟨hl, h1⟩, h2⟩
theorem zr_at {c : ByteArray} {pc : Nat} {b : UInt8} {r : List UInt8} (h : zat c pc (b :: r)) : zr (Jvm.ClassFile.Reader.u1 : zD Nat) c pc = .ok (b.toNat, pc + 1) := by
  obtain ⟨⟨h1, e⟩, -⟩ := zat_cons h
  rw [zr_u1, dif_pos h1, e]
theorem zdec {c : ByteArray} {pc : Nat} {b : UInt8} {r : List UInt8} {I : Jvm.ClassFile.Instr} {n : Nat} (h : zat c pc (b :: r)) (hk : zr (zk pc b.toNat) c (pc + 1) = .ok (I, pc + n)) : decode c pc = .ok (I, n) := by
  have e1 : decode c pc = (zr (Jvm.ClassFile.Decoder.instr pc) c pc >>= fun q => .ok (q.1, q.2 - pc)) := rfl
  rw [e1, zk_eq, zr_bind, zr_at h]
  show (zr (zk pc b.toNat) c (pc + 1) >>= fun q => Except.ok (q.1, q.2 - pc)) = _
  rw [hk]
  show Except.ok (I, pc + n - pc) = _
  rw [Nat.add_sub_cancel_left]
section Rows
variable {c : ByteArray} {pc : Nat} {b x0 x1 : UInt8} {I : Jvm.ClassFile.Instr}
theorem zr_u1at {r : List UInt8} {p : Nat} (h : zat c p (x0 :: r)) (f : Nat → zD Jvm.ClassFile.Instr) : zr (Jvm.ClassFile.Reader.u1 >>= f) c p = zr (f x0.toNat) c (p + 1) := by
  rw [zr_bind, zr_at h]; rfl
theorem zr_s1at {r : List UInt8} {p : Nat} (h : zat c p (x0 :: r)) (f : Int → zD Jvm.ClassFile.Instr) : zr (Jvm.ClassFile.Reader.s1 >>= f) c p = zr (f (Jvm.ClassFile.Reader.signed 8 x0.toNat)) c (p + 1) := by
  rw [zr_bind]
  show (zr (Jvm.ClassFile.Reader.signed 8 <$> (Jvm.ClassFile.Reader.u1 : zD Nat)) c p >>= _) = _
  rw [zr_map, zr_at h]; rfl
theorem zr_u2at {r : List UInt8} {p : Nat} (h : zat c p (x0 :: x1 :: r)) : zr (Jvm.ClassFile.Reader.u2 : zD Nat) c p = .ok (x0.toNat * 256 + x1.toNat, p + 2) := by
  show zr ((Jvm.ClassFile.Reader.u1 : zD Nat) >>= fun hi => (Jvm.ClassFile.Reader.u1 : zD Nat) >>= fun lo => Pure.pure (hi * 256 + lo)) c p = _
  rw [zr_bind, zr_at h]
  show zr ((Jvm.ClassFile.Reader.u1 : zD Nat) >>= fun lo => Pure.pure (x0.toNat * 256 + lo)) c (p + 1) = _
  rw [zr_bind, zr_at (zat_cons h).2]; rfl
theorem zr0 (hk : ∀ pc, zk pc b.toNat = Pure.pure I) (h : zat c pc [b]) : decode c pc = .ok (I, 1) := zdec h (by rw [hk]; rfl)
theorem zr1u {f : Nat → Jvm.ClassFile.Instr} {v : Nat} (hk : ∀ pc, zk pc b.toNat = (Jvm.ClassFile.Reader.u1 >>= fun v => Pure.pure (f v))) (h : zat c pc [b, x0]) (hv : x0.toNat = v) : decode c pc = .ok (f v, 2) :=
  zdec h (by rw [hk, zr_u1at (zat_cons h).2, hv]; rfl)
theorem zr1s {f : Int → Jvm.ClassFile.Instr} {v : Int} (hk : ∀ pc, zk pc b.toNat = (Jvm.ClassFile.Reader.s1 >>= fun v => Pure.pure (f v))) (h : zat c pc [b, x0]) (hv : Jvm.ClassFile.Reader.signed 8 x0.toNat = v) : decode c pc = .ok (f v, 2) :=
  zdec h (by rw [hk, zr_s1at (zat_cons h).2, hv]; rfl)
theorem zr2u {f : Nat → Jvm.ClassFile.Instr} {v : Nat} (hk : ∀ pc, zk pc b.toNat = (Jvm.ClassFile.Reader.u2 >>= fun v => Pure.pure (f v))) (h : zat c pc [b, x0, x1]) (hv : x0.toNat * 256 + x1.toNat = v) : decode c pc = .ok (f v, 3) :=
  zdec h (by rw [hk, zr_bind, zr_u2at (zat_cons h).2]; show zr (Pure.pure (f (x0.toNat * 256 + x1.toNat))) c (pc + 1 + 2) = _; rw [hv]; rfl)
theorem zr2s {f : Int → Jvm.ClassFile.Instr} {v : Int} (hk : ∀ pc, zk pc b.toNat = (Jvm.ClassFile.Reader.s2 >>= fun v => Pure.pure (f v))) (h : zat c pc [b, x0, x1]) (hv : Jvm.ClassFile.Reader.signed 16 (x0.toNat * 256 + x1.toNat) = v) : decode c pc = .ok (f v, 3) :=
  zdec h (by
    rw [hk, zr_bind]
    show (zr (Jvm.ClassFile.Reader.signed 16 <$> (Jvm.ClassFile.Reader.u2 : zD Nat)) c (pc + 1) >>= _) = _
    rw [zr_map, zr_u2at (zat_cons h).2]
    show zr (Pure.pure (f (Jvm.ClassFile.Reader.signed 16 (x0.toNat * 256 + x1.toNat)))) c (pc + 1 + 2) = _
    rw [hv]; rfl)
theorem zrii {f : Nat → Int → Jvm.ClassFile.Instr} {v : Nat} {u : Int} (hk : ∀ pc, zk pc b.toNat = (Jvm.ClassFile.Reader.u1 >>= fun v => Jvm.ClassFile.Reader.s1 >>= fun u => Pure.pure (f v u))) (h : zat c pc [b, x0, x1]) (hv : x0.toNat = v ∧ Jvm.ClassFile.Reader.signed 8 x1.toNat = u) : decode c pc = .ok (f v u, 3) :=
  zdec h (by
    have h1 := (zat_cons h).2
    rw [hk, zr_u1at h1, zr_s1at (zat_cons h1).2, hv.1, hv.2]; rfl)
theorem zat_s {bs : List UInt8} (h : ((c.data.toList.drop pc).take bs.length == bs) = true) : zat c pc bs := h
end Rows
def zwin : Nat → List UInt8 → List (List UInt8)
  | 0, _ => []
  | n + 1, l => l.take 20 :: zwin n (l.drop 16)
theorem zwin_get : ∀ n l k w, (zwin n l)[k]? = some w → w = (l.drop (16 * k)).take 20 := by
  intro n
  induction n with
  | zero => intro l k w h; cases h
  | succ n ih =>
    intro l k w h
    cases k with
    | zero => exact (Option.some.inj h).symm
    | succ k =>
      have := ih (l.drop 16) k w h
      rw [this, List.drop_drop]; congr 2; omega
theorem zat_w {c : ByteArray} {n k p : Nat} {W : List (List UInt8)} {w bs : List UInt8} (hW : zwin n c.data.toList = W) (hk : W[k]? = some w) (h : (decide (p + bs.length ≤ 20) && ((w.drop p).take bs.length == bs)) = true) : zat c (16 * k + p) bs := by
  have hw := zwin_get n _ k w (hW ▸ hk)
  rw [Bool.and_eq_true, decide_eq_true_eq, beq_iff_eq] at h
  unfold zat
  rw [beq_iff_eq]
  have h2 := h.2
  rw [hw, List.drop_take, List.drop_drop, List.take_take, Nat.min_eq_left (by omega)] at h2
  exact h2
theorem zk_1 (pc : Nat) : zk pc (1 : UInt8).toNat = (Pure.pure (Jvm.ClassFile.Instr.aconst_null) : zD Jvm.ClassFile.Instr) := rfl
theorem zk_2 (pc : Nat) : zk pc (2 : UInt8).toNat = (Pure.pure (Jvm.ClassFile.Instr.iconst (-1)) : zD Jvm.ClassFile.Instr) := rfl
theorem zk_3 (pc : Nat) : zk pc (3 : UInt8).toNat = (Pure.pure (Jvm.ClassFile.Instr.iconst 0) : zD Jvm.ClassFile.Instr) := rfl
theorem zk_4 (pc : Nat) : zk pc (4 : UInt8).toNat = (Pure.pure (Jvm.ClassFile.Instr.iconst 1) : zD Jvm.ClassFile.Instr) := rfl
theorem zk_5 (pc : Nat) : zk pc (5 : UInt8).toNat = (Pure.pure (Jvm.ClassFile.Instr.iconst 2) : zD Jvm.ClassFile.Instr) := rfl
theorem zk_6 (pc : Nat) : zk pc (6 : UInt8).toNat = (Pure.pure (Jvm.ClassFile.Instr.iconst 3) : zD Jvm.ClassFile.Instr) := rfl
theorem zk_7 (pc : Nat) : zk pc (7 : UInt8).toNat = (Pure.pure (Jvm.ClassFile.Instr.iconst 4) : zD Jvm.ClassFile.Instr) := rfl
theorem zk_8 (pc : Nat) : zk pc (8 : UInt8).toNat = (Pure.pure (Jvm.ClassFile.Instr.iconst 5) : zD Jvm.ClassFile.Instr) := rfl
theorem zk_9 (pc : Nat) : zk pc (9 : UInt8).toNat = (Pure.pure (Jvm.ClassFile.Instr.lconst 0) : zD Jvm.ClassFile.Instr) := rfl
theorem zk_10 (pc : Nat) : zk pc (10 : UInt8).toNat = (Pure.pure (Jvm.ClassFile.Instr.lconst 1) : zD Jvm.ClassFile.Instr) := rfl
theorem zk_16 (pc : Nat) : zk pc (16 : UInt8).toNat = (Jvm.ClassFile.Reader.s1 >>= fun v => (Pure.pure (Jvm.ClassFile.Instr.bipush v) : zD Jvm.ClassFile.Instr)) := rfl
theorem zk_17 (pc : Nat) : zk pc (17 : UInt8).toNat = (Jvm.ClassFile.Reader.s2 >>= fun v => (Pure.pure (Jvm.ClassFile.Instr.sipush v) : zD Jvm.ClassFile.Instr)) := rfl
theorem zk_18 (pc : Nat) : zk pc (18 : UInt8).toNat = (Jvm.ClassFile.Reader.u1 >>= fun v => (Pure.pure (Jvm.ClassFile.Instr.ldc v) : zD Jvm.ClassFile.Instr)) := rfl
theorem zk_19 (pc : Nat) : zk pc (19 : UInt8).toNat = (Jvm.ClassFile.Reader.u2 >>= fun v => (Pure.pure (Jvm.ClassFile.Instr.ldc_w v) : zD Jvm.ClassFile.Instr)) := rfl
theorem zk_20 (pc : Nat) : zk pc (20 : UInt8).toNat = (Jvm.ClassFile.Reader.u2 >>= fun v => (Pure.pure (Jvm.ClassFile.Instr.ldc2_w v) : zD Jvm.ClassFile.Instr)) := rfl
theorem zk_21 (pc : Nat) : zk pc (21 : UInt8).toNat = (Jvm.ClassFile.Reader.u1 >>= fun v => (Pure.pure (Jvm.ClassFile.Instr.iload v) : zD Jvm.ClassFile.Instr)) := rfl
theorem zk_22 (pc : Nat) : zk pc (22 : UInt8).toNat = (Jvm.ClassFile.Reader.u1 >>= fun v => (Pure.pure (Jvm.ClassFile.Instr.lload v) : zD Jvm.ClassFile.Instr)) := rfl
theorem zk_25 (pc : Nat) : zk pc (25 : UInt8).toNat = (Jvm.ClassFile.Reader.u1 >>= fun v => (Pure.pure (Jvm.ClassFile.Instr.aload v) : zD Jvm.ClassFile.Instr)) := rfl
theorem zk_26 (pc : Nat) : zk pc (26 : UInt8).toNat = (Pure.pure (Jvm.ClassFile.Instr.iload_n 0) : zD Jvm.ClassFile.Instr) := rfl
theorem zk_27 (pc : Nat) : zk pc (27 : UInt8).toNat = (Pure.pure (Jvm.ClassFile.Instr.iload_n 1) : zD Jvm.ClassFile.Instr) := rfl
theorem zk_28 (pc : Nat) : zk pc (28 : UInt8).toNat = (Pure.pure (Jvm.ClassFile.Instr.iload_n 2) : zD Jvm.ClassFile.Instr) := rfl
theorem zk_29 (pc : Nat) : zk pc (29 : UInt8).toNat = (Pure.pure (Jvm.ClassFile.Instr.iload_n 3) : zD Jvm.ClassFile.Instr) := rfl
theorem zk_30 (pc : Nat) : zk pc (30 : UInt8).toNat = (Pure.pure (Jvm.ClassFile.Instr.lload_n 0) : zD Jvm.ClassFile.Instr) := rfl
theorem zk_31 (pc : Nat) : zk pc (31 : UInt8).toNat = (Pure.pure (Jvm.ClassFile.Instr.lload_n 1) : zD Jvm.ClassFile.Instr) := rfl
theorem zk_32 (pc : Nat) : zk pc (32 : UInt8).toNat = (Pure.pure (Jvm.ClassFile.Instr.lload_n 2) : zD Jvm.ClassFile.Instr) := rfl
theorem zk_33 (pc : Nat) : zk pc (33 : UInt8).toNat = (Pure.pure (Jvm.ClassFile.Instr.lload_n 3) : zD Jvm.ClassFile.Instr) := rfl
theorem zk_42 (pc : Nat) : zk pc (42 : UInt8).toNat = (Pure.pure (Jvm.ClassFile.Instr.aload_n 0) : zD Jvm.ClassFile.Instr) := rfl
theorem zk_43 (pc : Nat) : zk pc (43 : UInt8).toNat = (Pure.pure (Jvm.ClassFile.Instr.aload_n 1) : zD Jvm.ClassFile.Instr) := rfl
theorem zk_44 (pc : Nat) : zk pc (44 : UInt8).toNat = (Pure.pure (Jvm.ClassFile.Instr.aload_n 2) : zD Jvm.ClassFile.Instr) := rfl
theorem zk_45 (pc : Nat) : zk pc (45 : UInt8).toNat = (Pure.pure (Jvm.ClassFile.Instr.aload_n 3) : zD Jvm.ClassFile.Instr) := rfl
theorem zk_46 (pc : Nat) : zk pc (46 : UInt8).toNat = (Pure.pure (Jvm.ClassFile.Instr.iaload) : zD Jvm.ClassFile.Instr) := rfl
theorem zk_50 (pc : Nat) : zk pc (50 : UInt8).toNat = (Pure.pure (Jvm.ClassFile.Instr.aaload) : zD Jvm.ClassFile.Instr) := rfl
theorem zk_51 (pc : Nat) : zk pc (51 : UInt8).toNat = (Pure.pure (Jvm.ClassFile.Instr.baload) : zD Jvm.ClassFile.Instr) := rfl
theorem zk_54 (pc : Nat) : zk pc (54 : UInt8).toNat = (Jvm.ClassFile.Reader.u1 >>= fun v => (Pure.pure (Jvm.ClassFile.Instr.istore v) : zD Jvm.ClassFile.Instr)) := rfl
theorem zk_55 (pc : Nat) : zk pc (55 : UInt8).toNat = (Jvm.ClassFile.Reader.u1 >>= fun v => (Pure.pure (Jvm.ClassFile.Instr.lstore v) : zD Jvm.ClassFile.Instr)) := rfl
theorem zk_58 (pc : Nat) : zk pc (58 : UInt8).toNat = (Jvm.ClassFile.Reader.u1 >>= fun v => (Pure.pure (Jvm.ClassFile.Instr.astore v) : zD Jvm.ClassFile.Instr)) := rfl
theorem zk_59 (pc : Nat) : zk pc (59 : UInt8).toNat = (Pure.pure (Jvm.ClassFile.Instr.istore_n 0) : zD Jvm.ClassFile.Instr) := rfl
theorem zk_60 (pc : Nat) : zk pc (60 : UInt8).toNat = (Pure.pure (Jvm.ClassFile.Instr.istore_n 1) : zD Jvm.ClassFile.Instr) := rfl
theorem zk_61 (pc : Nat) : zk pc (61 : UInt8).toNat = (Pure.pure (Jvm.ClassFile.Instr.istore_n 2) : zD Jvm.ClassFile.Instr) := rfl
theorem zk_62 (pc : Nat) : zk pc (62 : UInt8).toNat = (Pure.pure (Jvm.ClassFile.Instr.istore_n 3) : zD Jvm.ClassFile.Instr) := rfl
theorem zk_64 (pc : Nat) : zk pc (64 : UInt8).toNat = (Pure.pure (Jvm.ClassFile.Instr.lstore_n 1) : zD Jvm.ClassFile.Instr) := rfl
theorem zk_65 (pc : Nat) : zk pc (65 : UInt8).toNat = (Pure.pure (Jvm.ClassFile.Instr.lstore_n 2) : zD Jvm.ClassFile.Instr) := rfl
theorem zk_66 (pc : Nat) : zk pc (66 : UInt8).toNat = (Pure.pure (Jvm.ClassFile.Instr.lstore_n 3) : zD Jvm.ClassFile.Instr) := rfl
theorem zk_76 (pc : Nat) : zk pc (76 : UInt8).toNat = (Pure.pure (Jvm.ClassFile.Instr.astore_n 1) : zD Jvm.ClassFile.Instr) := rfl
theorem zk_77 (pc : Nat) : zk pc (77 : UInt8).toNat = (Pure.pure (Jvm.ClassFile.Instr.astore_n 2) : zD Jvm.ClassFile.Instr) := rfl
theorem zk_78 (pc : Nat) : zk pc (78 : UInt8).toNat = (Pure.pure (Jvm.ClassFile.Instr.astore_n 3) : zD Jvm.ClassFile.Instr) := rfl
theorem zk_79 (pc : Nat) : zk pc (79 : UInt8).toNat = (Pure.pure (Jvm.ClassFile.Instr.iastore) : zD Jvm.ClassFile.Instr) := rfl
theorem zk_83 (pc : Nat) : zk pc (83 : UInt8).toNat = (Pure.pure (Jvm.ClassFile.Instr.aastore) : zD Jvm.ClassFile.Instr) := rfl
theorem zk_87 (pc : Nat) : zk pc (87 : UInt8).toNat = (Pure.pure (Jvm.ClassFile.Instr.pop) : zD Jvm.ClassFile.Instr) := rfl
theorem zk_88 (pc : Nat) : zk pc (88 : UInt8).toNat = (Pure.pure (Jvm.ClassFile.Instr.pop2) : zD Jvm.ClassFile.Instr) := rfl
theorem zk_89 (pc : Nat) : zk pc (89 : UInt8).toNat = (Pure.pure (Jvm.ClassFile.Instr.dup) : zD Jvm.ClassFile.Instr) := rfl
theorem zk_92 (pc : Nat) : zk pc (92 : UInt8).toNat = (Pure.pure (Jvm.ClassFile.Instr.dup2) : zD Jvm.ClassFile.Instr) := rfl
theorem zk_96 (pc : Nat) : zk pc (96 : UInt8).toNat = (Pure.pure (Jvm.ClassFile.Instr.iadd) : zD Jvm.ClassFile.Instr) := rfl
theorem zk_97 (pc : Nat) : zk pc (97 : UInt8).toNat = (Pure.pure (Jvm.ClassFile.Instr.ladd) : zD Jvm.ClassFile.Instr) := rfl
theorem zk_100 (pc : Nat) : zk pc (100 : UInt8).toNat = (Pure.pure (Jvm.ClassFile.Instr.isub) : zD Jvm.ClassFile.Instr) := rfl
theorem zk_101 (pc : Nat) : zk pc (101 : UInt8).toNat = (Pure.pure (Jvm.ClassFile.Instr.lsub) : zD Jvm.ClassFile.Instr) := rfl
theorem zk_104 (pc : Nat) : zk pc (104 : UInt8).toNat = (Pure.pure (Jvm.ClassFile.Instr.imul) : zD Jvm.ClassFile.Instr) := rfl
theorem zk_105 (pc : Nat) : zk pc (105 : UInt8).toNat = (Pure.pure (Jvm.ClassFile.Instr.lmul) : zD Jvm.ClassFile.Instr) := rfl
theorem zk_108 (pc : Nat) : zk pc (108 : UInt8).toNat = (Pure.pure (Jvm.ClassFile.Instr.idiv) : zD Jvm.ClassFile.Instr) := rfl
theorem zk_109 (pc : Nat) : zk pc (109 : UInt8).toNat = (Pure.pure (Jvm.ClassFile.Instr.ldiv) : zD Jvm.ClassFile.Instr) := rfl
theorem zk_112 (pc : Nat) : zk pc (112 : UInt8).toNat = (Pure.pure (Jvm.ClassFile.Instr.irem) : zD Jvm.ClassFile.Instr) := rfl
theorem zk_113 (pc : Nat) : zk pc (113 : UInt8).toNat = (Pure.pure (Jvm.ClassFile.Instr.lrem) : zD Jvm.ClassFile.Instr) := rfl
theorem zk_116 (pc : Nat) : zk pc (116 : UInt8).toNat = (Pure.pure (Jvm.ClassFile.Instr.ineg) : zD Jvm.ClassFile.Instr) := rfl
theorem zk_117 (pc : Nat) : zk pc (117 : UInt8).toNat = (Pure.pure (Jvm.ClassFile.Instr.lneg) : zD Jvm.ClassFile.Instr) := rfl
theorem zk_120 (pc : Nat) : zk pc (120 : UInt8).toNat = (Pure.pure (Jvm.ClassFile.Instr.ishl) : zD Jvm.ClassFile.Instr) := rfl
theorem zk_122 (pc : Nat) : zk pc (122 : UInt8).toNat = (Pure.pure (Jvm.ClassFile.Instr.ishr) : zD Jvm.ClassFile.Instr) := rfl
theorem zk_124 (pc : Nat) : zk pc (124 : UInt8).toNat = (Pure.pure (Jvm.ClassFile.Instr.iushr) : zD Jvm.ClassFile.Instr) := rfl
theorem zk_126 (pc : Nat) : zk pc (126 : UInt8).toNat = (Pure.pure (Jvm.ClassFile.Instr.iand) : zD Jvm.ClassFile.Instr) := rfl
theorem zk_128 (pc : Nat) : zk pc (128 : UInt8).toNat = (Pure.pure (Jvm.ClassFile.Instr.ior) : zD Jvm.ClassFile.Instr) := rfl
theorem zk_132 (pc : Nat) : zk pc (132 : UInt8).toNat = (Jvm.ClassFile.Reader.u1 >>= fun v => Jvm.ClassFile.Reader.s1 >>= fun u => (Pure.pure (Jvm.ClassFile.Instr.iinc v u) : zD Jvm.ClassFile.Instr)) := rfl
theorem zk_133 (pc : Nat) : zk pc (133 : UInt8).toNat = (Pure.pure (Jvm.ClassFile.Instr.i2l) : zD Jvm.ClassFile.Instr) := rfl
theorem zk_136 (pc : Nat) : zk pc (136 : UInt8).toNat = (Pure.pure (Jvm.ClassFile.Instr.l2i) : zD Jvm.ClassFile.Instr) := rfl
theorem zk_145 (pc : Nat) : zk pc (145 : UInt8).toNat = (Pure.pure (Jvm.ClassFile.Instr.i2b) : zD Jvm.ClassFile.Instr) := rfl
theorem zk_146 (pc : Nat) : zk pc (146 : UInt8).toNat = (Pure.pure (Jvm.ClassFile.Instr.i2c) : zD Jvm.ClassFile.Instr) := rfl
theorem zk_147 (pc : Nat) : zk pc (147 : UInt8).toNat = (Pure.pure (Jvm.ClassFile.Instr.i2s) : zD Jvm.ClassFile.Instr) := rfl
theorem zk_148 (pc : Nat) : zk pc (148 : UInt8).toNat = (Pure.pure (Jvm.ClassFile.Instr.lcmp) : zD Jvm.ClassFile.Instr) := rfl
theorem zk_153 (pc : Nat) : zk pc (153 : UInt8).toNat = (Jvm.ClassFile.Reader.s2 >>= fun v => (Pure.pure (Jvm.ClassFile.Instr.ifCond .eq v) : zD Jvm.ClassFile.Instr)) := rfl
theorem zk_154 (pc : Nat) : zk pc (154 : UInt8).toNat = (Jvm.ClassFile.Reader.s2 >>= fun v => (Pure.pure (Jvm.ClassFile.Instr.ifCond .ne v) : zD Jvm.ClassFile.Instr)) := rfl
theorem zk_155 (pc : Nat) : zk pc (155 : UInt8).toNat = (Jvm.ClassFile.Reader.s2 >>= fun v => (Pure.pure (Jvm.ClassFile.Instr.ifCond .lt v) : zD Jvm.ClassFile.Instr)) := rfl
theorem zk_156 (pc : Nat) : zk pc (156 : UInt8).toNat = (Jvm.ClassFile.Reader.s2 >>= fun v => (Pure.pure (Jvm.ClassFile.Instr.ifCond .ge v) : zD Jvm.ClassFile.Instr)) := rfl
theorem zk_157 (pc : Nat) : zk pc (157 : UInt8).toNat = (Jvm.ClassFile.Reader.s2 >>= fun v => (Pure.pure (Jvm.ClassFile.Instr.ifCond .gt v) : zD Jvm.ClassFile.Instr)) := rfl
theorem zk_158 (pc : Nat) : zk pc (158 : UInt8).toNat = (Jvm.ClassFile.Reader.s2 >>= fun v => (Pure.pure (Jvm.ClassFile.Instr.ifCond .le v) : zD Jvm.ClassFile.Instr)) := rfl
theorem zk_159 (pc : Nat) : zk pc (159 : UInt8).toNat = (Jvm.ClassFile.Reader.s2 >>= fun v => (Pure.pure (Jvm.ClassFile.Instr.if_icmp .eq v) : zD Jvm.ClassFile.Instr)) := rfl
theorem zk_160 (pc : Nat) : zk pc (160 : UInt8).toNat = (Jvm.ClassFile.Reader.s2 >>= fun v => (Pure.pure (Jvm.ClassFile.Instr.if_icmp .ne v) : zD Jvm.ClassFile.Instr)) := rfl
theorem zk_161 (pc : Nat) : zk pc (161 : UInt8).toNat = (Jvm.ClassFile.Reader.s2 >>= fun v => (Pure.pure (Jvm.ClassFile.Instr.if_icmp .lt v) : zD Jvm.ClassFile.Instr)) := rfl
theorem zk_162 (pc : Nat) : zk pc (162 : UInt8).toNat = (Jvm.ClassFile.Reader.s2 >>= fun v => (Pure.pure (Jvm.ClassFile.Instr.if_icmp .ge v) : zD Jvm.ClassFile.Instr)) := rfl
theorem zk_163 (pc : Nat) : zk pc (163 : UInt8).toNat = (Jvm.ClassFile.Reader.s2 >>= fun v => (Pure.pure (Jvm.ClassFile.Instr.if_icmp .gt v) : zD Jvm.ClassFile.Instr)) := rfl
theorem zk_164 (pc : Nat) : zk pc (164 : UInt8).toNat = (Jvm.ClassFile.Reader.s2 >>= fun v => (Pure.pure (Jvm.ClassFile.Instr.if_icmp .le v) : zD Jvm.ClassFile.Instr)) := rfl
theorem zk_167 (pc : Nat) : zk pc (167 : UInt8).toNat = (Jvm.ClassFile.Reader.s2 >>= fun v => (Pure.pure (Jvm.ClassFile.Instr.goto v) : zD Jvm.ClassFile.Instr)) := rfl
theorem zk_172 (pc : Nat) : zk pc (172 : UInt8).toNat = (Pure.pure (Jvm.ClassFile.Instr.ireturn) : zD Jvm.ClassFile.Instr) := rfl
theorem zk_173 (pc : Nat) : zk pc (173 : UInt8).toNat = (Pure.pure (Jvm.ClassFile.Instr.lreturn) : zD Jvm.ClassFile.Instr) := rfl
theorem zk_176 (pc : Nat) : zk pc (176 : UInt8).toNat = (Pure.pure (Jvm.ClassFile.Instr.areturn) : zD Jvm.ClassFile.Instr) := rfl
theorem zk_177 (pc : Nat) : zk pc (177 : UInt8).toNat = (Pure.pure (Jvm.ClassFile.Instr.return_) : zD Jvm.ClassFile.Instr) := rfl
theorem zk_178 (pc : Nat) : zk pc (178 : UInt8).toNat = (Jvm.ClassFile.Reader.u2 >>= fun v => (Pure.pure (Jvm.ClassFile.Instr.getstatic v) : zD Jvm.ClassFile.Instr)) := rfl
theorem zk_180 (pc : Nat) : zk pc (180 : UInt8).toNat = (Jvm.ClassFile.Reader.u2 >>= fun v => (Pure.pure (Jvm.ClassFile.Instr.getfield v) : zD Jvm.ClassFile.Instr)) := rfl
theorem zk_181 (pc : Nat) : zk pc (181 : UInt8).toNat = (Jvm.ClassFile.Reader.u2 >>= fun v => (Pure.pure (Jvm.ClassFile.Instr.putfield v) : zD Jvm.ClassFile.Instr)) := rfl
theorem zk_182 (pc : Nat) : zk pc (182 : UInt8).toNat = (Jvm.ClassFile.Reader.u2 >>= fun v => (Pure.pure (Jvm.ClassFile.Instr.invokevirtual v) : zD Jvm.ClassFile.Instr)) := rfl
theorem zk_183 (pc : Nat) : zk pc (183 : UInt8).toNat = (Jvm.ClassFile.Reader.u2 >>= fun v => (Pure.pure (Jvm.ClassFile.Instr.invokespecial v) : zD Jvm.ClassFile.Instr)) := rfl
theorem zk_184 (pc : Nat) : zk pc (184 : UInt8).toNat = (Jvm.ClassFile.Reader.u2 >>= fun v => (Pure.pure (Jvm.ClassFile.Instr.invokestatic v) : zD Jvm.ClassFile.Instr)) := rfl
theorem zk_187 (pc : Nat) : zk pc (187 : UInt8).toNat = (Jvm.ClassFile.Reader.u2 >>= fun v => (Pure.pure (Jvm.ClassFile.Instr.new v) : zD Jvm.ClassFile.Instr)) := rfl
theorem zk_189 (pc : Nat) : zk pc (189 : UInt8).toNat = (Jvm.ClassFile.Reader.u2 >>= fun v => (Pure.pure (Jvm.ClassFile.Instr.anewarray v) : zD Jvm.ClassFile.Instr)) := rfl
theorem zk_190 (pc : Nat) : zk pc (190 : UInt8).toNat = (Pure.pure (Jvm.ClassFile.Instr.arraylength) : zD Jvm.ClassFile.Instr) := rfl
theorem zk_191 (pc : Nat) : zk pc (191 : UInt8).toNat = (Pure.pure (Jvm.ClassFile.Instr.athrow) : zD Jvm.ClassFile.Instr) := rfl
theorem zk_192 (pc : Nat) : zk pc (192 : UInt8).toNat = (Jvm.ClassFile.Reader.u2 >>= fun v => (Pure.pure (Jvm.ClassFile.Instr.checkcast v) : zD Jvm.ClassFile.Instr)) := rfl
theorem zk_199 (pc : Nat) : zk pc (199 : UInt8).toNat = (Jvm.ClassFile.Reader.s2 >>= fun v => (Pure.pure (Jvm.ClassFile.Instr.ifnonnull v) : zD Jvm.ClassFile.Instr)) := rfl
