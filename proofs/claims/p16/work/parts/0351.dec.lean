/-! ===== decode by a byte, with no way through the whole list of opcodes ===== -/
def dby (c : ByteArray) (p : Nat) : Nat := match c.data.toList[p]? with
  | some b => b.toNat
  | none => 256
theorem dby_u1 {c : ByteArray} {p b : Nat} (h : dby c p = b) (hb : ¬ b = 256) : (Jvm.ClassFile.Reader.u1 : Jvm.ClassFile.Decoder Nat) c p = .ok (b, p + 1) := by
  unfold dby at h
  by_cases hp : p < c.size
  · have e : c.data.toList[p]? = some c[p] := by
      have q : p < c.data.toList.length := by
        have z : c.data.toList.length = c.size := rfl
        rw [z]
        exact hp
      rw [List.getElem?_eq_getElem q]
      rfl
    rw [e] at h
    have h2 : (c[p]).toNat = b := h
    have u : (Jvm.ClassFile.Reader.u1 : Jvm.ClassFile.Decoder Nat) c p = (if g : p < c.size then .ok ((c[p]).toNat, p + 1) else .error (Jvm.ClassFile.HasTruncated.truncated p)) := by
      unfold Jvm.ClassFile.Reader.u1
      show (if g : p < c.size then (do set (p + 1); pure (c[p]).toNat : Jvm.ClassFile.Decoder Nat) else throw (Jvm.ClassFile.HasTruncated.truncated p)) c p = _
      rw [dif_pos hp, dif_pos hp]
      rfl
    rw [u, dif_pos hp, h2]
  · have e : c.data.toList[p]? = none := by
      have z : c.data.toList.length = c.size := rfl
      exact List.getElem?_eq_none (by omega)
    rw [e] at h
    have h2 : 256 = b := h
    exact absurd h2.symm hb
/-- decode, step by step -/
theorem dc_step {c : ByteArray} {pc op : Nat} {K : Nat → Jvm.ClassFile.Decoder Instr} {i : Instr} {q : Nat} (hi : Jvm.ClassFile.Decoder.instr pc = (Jvm.ClassFile.Reader.u1 >>= K)) (h : dby c pc = op) (ho : ¬ op = 256) (hk : K op c (pc + 1) = .ok (i, q)) : decode c pc = .ok (i, q - pc) := by
  have e : (Jvm.ClassFile.Decoder.instr pc) c pc = .ok (i, q) := by
    rw [hi]
    show Except.bind ((Jvm.ClassFile.Reader.u1 : Jvm.ClassFile.Decoder Nat) c pc) (fun x => K x.1 c x.2) = _
    rw [dby_u1 h ho]
    exact hk
  unfold decode
  show Except.bind ((Jvm.ClassFile.Decoder.instr pc) c pc) (fun x => Except.ok (x.1, x.2 - pc)) = _
  rw [e]
  rfl
theorem dc_len1 {pc : Nat} : pc + 1 - pc = 1 := by omega
theorem dc_len2 {pc : Nat} : pc + 1 + 1 - pc = 2 := by omega
theorem dc_len3 {pc : Nat} : pc + 1 + 1 + 1 - pc = 3 := by omega
theorem dc_1 {c : ByteArray} {pc op : Nat} {K : Nat → Jvm.ClassFile.Decoder Instr} {i : Instr} (hi : Jvm.ClassFile.Decoder.instr pc = (Jvm.ClassFile.Reader.u1 >>= K)) (h : Nat.beq (dby c pc) op = true) (ho : ¬ op = 256) (hk : K op = Pure.pure i) : decode c pc = .ok (i, 1) := by
  have e := dc_step hi (Nat.eq_of_beq_eq_true h) ho (by rw [hk]; rfl : K op c (pc + 1) = .ok (i, pc + 1))
  rw [dc_len1] at e
  exact e
/-- one byte behind it -/
def dk2 (c : ByteArray) (pc op n : Nat) : Bool := Nat.beq (dby c pc) op && (Nat.beq (dby c (pc + 1)) n && Nat.blt n 256)
theorem dk2_i {c : ByteArray} {pc op n : Nat} (h : dk2 c pc op n = true) : dby c pc = op ∧ dby c (pc + 1) = n ∧ ¬ n = 256 := by
  unfold dk2 at h
  rw [Bool.and_eq_true, Bool.and_eq_true] at h
  refine ⟨Nat.eq_of_beq_eq_true h.1, Nat.eq_of_beq_eq_true h.2.1, ?_⟩
  have l : n < 256 := Nat.blt_eq.mp h.2.2
  omega
theorem dc_2 {c : ByteArray} {pc op n : Nat} {K : Nat → Jvm.ClassFile.Decoder Instr} {F : Nat → Jvm.ClassFile.Decoder Instr} {i : Instr} (hi : Jvm.ClassFile.Decoder.instr pc = (Jvm.ClassFile.Reader.u1 >>= K)) (h : dk2 c pc op n = true) (ho : ¬ op = 256) (hk : K op = (Jvm.ClassFile.Reader.u1 >>= F)) (hf : F n = Pure.pure i) : decode c pc = .ok (i, 2) := by
  obtain ⟨a, b, d⟩ := dk2_i h
  have e := dc_step hi a ho (q := pc + 1 + 1) (i := i) (by
    rw [hk]
    show Except.bind ((Jvm.ClassFile.Reader.u1 : Jvm.ClassFile.Decoder Nat) c (pc + 1)) (fun x => F x.1 c x.2) = _
    rw [dby_u1 b d]
    show F n c (pc + 1 + 1) = _
    rw [hf]
    rfl)
  rw [dc_len2] at e
  exact e
/-- two bytes behind it, as a number -/
def dk3 (c : ByteArray) (pc op n : Nat) : Bool := Nat.beq (dby c pc) op && (Nat.beq (dby c (pc + 1) * 256 + dby c (pc + 2)) n && (Nat.blt (dby c (pc + 1)) 256 && Nat.blt (dby c (pc + 2)) 256))
theorem dk3_i {c : ByteArray} {pc op n : Nat} (h : dk3 c pc op n = true) : dby c pc = op ∧ (Jvm.ClassFile.Reader.u2 : Jvm.ClassFile.Decoder Nat) c (pc + 1) = .ok (n, pc + 1 + 1 + 1) := by
  unfold dk3 at h
  rw [Bool.and_eq_true, Bool.and_eq_true, Bool.and_eq_true] at h
  refine ⟨Nat.eq_of_beq_eq_true h.1, ?_⟩
  have e := Nat.eq_of_beq_eq_true h.2.1
  have l1 : dby c (pc + 1) < 256 := Nat.blt_eq.mp h.2.2.1
  have l2 : dby c (pc + 1 + 1) < 256 := Nat.blt_eq.mp h.2.2.2
  have e2 : dby c (pc + 1) * 256 + dby c (pc + 1 + 1) = n := e
  unfold Jvm.ClassFile.Reader.u2
  show Except.bind ((Jvm.ClassFile.Reader.u1 : Jvm.ClassFile.Decoder Nat) c (pc + 1)) (fun x => Except.bind ((Jvm.ClassFile.Reader.u1 : Jvm.ClassFile.Decoder Nat) c x.2) (fun y => Except.ok (x.1 * 256 + y.1, y.2))) = _
  rw [dby_u1 (rfl : dby c (pc + 1) = _) (by omega)]
  show Except.bind ((Jvm.ClassFile.Reader.u1 : Jvm.ClassFile.Decoder Nat) c (pc + 1 + 1)) (fun y => Except.ok (dby c (pc + 1) * 256 + y.1, y.2)) = _
  rw [dby_u1 (rfl : dby c (pc + 1 + 1) = _) (by omega)]
  show Except.ok (dby c (pc + 1) * 256 + dby c (pc + 1 + 1), pc + 1 + 1 + 1) = _
  rw [e2]
theorem dc_3 {c : ByteArray} {pc op n : Nat} {K : Nat → Jvm.ClassFile.Decoder Instr} {F : Nat → Jvm.ClassFile.Decoder Instr} {i : Instr} (hi : Jvm.ClassFile.Decoder.instr pc = (Jvm.ClassFile.Reader.u1 >>= K)) (h : dk3 c pc op n = true) (ho : ¬ op = 256) (hk : K op = (Jvm.ClassFile.Reader.u2 >>= F)) (hf : F n = Pure.pure i) : decode c pc = .ok (i, 3) := by
  obtain ⟨a, b⟩ := dk3_i h
  have e := dc_step hi a ho (q := pc + 1 + 1 + 1) (i := i) (by
    rw [hk]
    show Except.bind ((Jvm.ClassFile.Reader.u2 : Jvm.ClassFile.Decoder Nat) c (pc + 1)) (fun x => F x.1 c x.2) = _
    rw [b]
    show F n c (pc + 1 + 1 + 1) = _
    rw [hf]
    rfl)
  rw [dc_len3] at e
  exact e
/-- two bytes behind it, as a number with its sign -/
def sg2 (n : Nat) : Int := if n < 32768 then (n : Int) else (n : Int) - 65536
theorem sg2_eq (n : Nat) : Jvm.ClassFile.Reader.signed 16 n = sg2 n := rfl
def sg1 (n : Nat) : Int := if n < 128 then (n : Int) else (n : Int) - 256
theorem sg1_eq (n : Nat) : Jvm.ClassFile.Reader.signed 8 n = sg1 n := rfl
theorem dc_s2 {c : ByteArray} {pc op n : Nat} {K : Nat → Jvm.ClassFile.Decoder Instr} {F : Int → Instr} (hi : Jvm.ClassFile.Decoder.instr pc = (Jvm.ClassFile.Reader.u1 >>= K)) (h : dk3 c pc op n = true) (ho : ¬ op = 256) (hk : K op = (Jvm.ClassFile.Reader.s2 >>= fun k => Pure.pure (F k))) : decode c pc = .ok (F (sg2 n), 3) := by
  obtain ⟨a, b⟩ := dk3_i h
  have e := dc_step hi a ho (q := pc + 1 + 1 + 1) (i := F (sg2 n)) (by
    rw [hk]
    show Except.bind (Except.bind ((Jvm.ClassFile.Reader.u2 : Jvm.ClassFile.Decoder Nat) c (pc + 1)) (fun x => Except.ok (Jvm.ClassFile.Reader.signed 16 x.1, x.2))) (fun x => Except.ok (F x.1, x.2)) = _
    rw [b]
    rfl)
  rw [dc_len3] at e
  exact e
theorem dc_s1 {c : ByteArray} {pc op n : Nat} {K : Nat → Jvm.ClassFile.Decoder Instr} {F : Int → Instr} (hi : Jvm.ClassFile.Decoder.instr pc = (Jvm.ClassFile.Reader.u1 >>= K)) (h : dk2 c pc op n = true) (ho : ¬ op = 256) (hk : K op = (Jvm.ClassFile.Reader.s1 >>= fun k => Pure.pure (F k))) : decode c pc = .ok (F (sg1 n), 2) := by
  obtain ⟨a, b, d⟩ := dk2_i h
  have e := dc_step hi a ho (q := pc + 1 + 1) (i := F (sg1 n)) (by
    rw [hk]
    show Except.bind (Except.bind ((Jvm.ClassFile.Reader.u1 : Jvm.ClassFile.Decoder Nat) c (pc + 1)) (fun x => Except.ok (Jvm.ClassFile.Reader.signed 8 x.1, x.2))) (fun x => Except.ok (F x.1, x.2)) = _
    rw [dby_u1 b d]
    rfl)
  rw [dc_len2] at e
  exact e
/-- iinc: a byte, and one with its sign -/
def dki (c : ByteArray) (pc n m : Nat) : Bool := Nat.beq (dby c pc) 132 && ((Nat.beq (dby c (pc + 1)) n && Nat.blt n 256) && (Nat.beq (dby c (pc + 2)) m && Nat.blt m 256))
theorem dc_iinc {c : ByteArray} {pc n m : Nat} (h : dki c pc n m = true) : decode c pc = .ok (.iinc n (sg1 m), 3) := by
  unfold dki at h
  rw [Bool.and_eq_true, Bool.and_eq_true, Bool.and_eq_true, Bool.and_eq_true] at h
  have l1 : n < 256 := Nat.blt_eq.mp h.2.1.2
  have l2 : m < 256 := Nat.blt_eq.mp h.2.2.2
  have e1 := Nat.eq_of_beq_eq_true h.2.1.1
  have e2 : dby c (pc + 1 + 1) = m := Nat.eq_of_beq_eq_true h.2.2.1
  have e := dc_step (K := _) rfl (Nat.eq_of_beq_eq_true h.1) (by decide) (q := pc + 1 + 1 + 1) (i := .iinc n (sg1 m)) (by
    show Except.bind ((Jvm.ClassFile.Reader.u1 : Jvm.ClassFile.Decoder Nat) c (pc + 1)) (fun x => Except.bind (Except.bind ((Jvm.ClassFile.Reader.u1 : Jvm.ClassFile.Decoder Nat) c x.2) (fun y => Except.ok (Jvm.ClassFile.Reader.signed 8 y.1, y.2))) (fun y => Except.ok (Instr.iinc x.1 y.1, y.2))) = _
    rw [dby_u1 e1 (by omega)]
    show Except.bind (Except.bind ((Jvm.ClassFile.Reader.u1 : Jvm.ClassFile.Decoder Nat) c (pc + 1 + 1)) (fun y => Except.ok (Jvm.ClassFile.Reader.signed 8 y.1, y.2))) (fun y => Except.ok (Instr.iinc n y.1, y.2)) = _
    rw [dby_u1 e2 (by omega)]
    rfl)
  rw [dc_len3] at e
  exact e
theorem dc1_1 {c : ByteArray} {pc : Nat} (h : Nat.beq (dby c pc) 1 = true) : decode c pc = .ok (.aconst_null, 1) := dc_1 (K := _) rfl h (by decide) rfl
theorem dc1_46 {c : ByteArray} {pc : Nat} (h : Nat.beq (dby c pc) 46 = true) : decode c pc = .ok (.iaload, 1) := dc_1 (K := _) rfl h (by decide) rfl
theorem dc1_47 {c : ByteArray} {pc : Nat} (h : Nat.beq (dby c pc) 47 = true) : decode c pc = .ok (.laload, 1) := dc_1 (K := _) rfl h (by decide) rfl
theorem dc1_50 {c : ByteArray} {pc : Nat} (h : Nat.beq (dby c pc) 50 = true) : decode c pc = .ok (.aaload, 1) := dc_1 (K := _) rfl h (by decide) rfl
theorem dc1_51 {c : ByteArray} {pc : Nat} (h : Nat.beq (dby c pc) 51 = true) : decode c pc = .ok (.baload, 1) := dc_1 (K := _) rfl h (by decide) rfl
theorem dc1_79 {c : ByteArray} {pc : Nat} (h : Nat.beq (dby c pc) 79 = true) : decode c pc = .ok (.iastore, 1) := dc_1 (K := _) rfl h (by decide) rfl
theorem dc1_80 {c : ByteArray} {pc : Nat} (h : Nat.beq (dby c pc) 80 = true) : decode c pc = .ok (.lastore, 1) := dc_1 (K := _) rfl h (by decide) rfl
theorem dc1_83 {c : ByteArray} {pc : Nat} (h : Nat.beq (dby c pc) 83 = true) : decode c pc = .ok (.aastore, 1) := dc_1 (K := _) rfl h (by decide) rfl
theorem dc1_84 {c : ByteArray} {pc : Nat} (h : Nat.beq (dby c pc) 84 = true) : decode c pc = .ok (.bastore, 1) := dc_1 (K := _) rfl h (by decide) rfl
theorem dc1_87 {c : ByteArray} {pc : Nat} (h : Nat.beq (dby c pc) 87 = true) : decode c pc = .ok (.pop, 1) := dc_1 (K := _) rfl h (by decide) rfl
theorem dc1_89 {c : ByteArray} {pc : Nat} (h : Nat.beq (dby c pc) 89 = true) : decode c pc = .ok (.dup, 1) := dc_1 (K := _) rfl h (by decide) rfl
theorem dc1_92 {c : ByteArray} {pc : Nat} (h : Nat.beq (dby c pc) 92 = true) : decode c pc = .ok (.dup2, 1) := dc_1 (K := _) rfl h (by decide) rfl
theorem dc1_96 {c : ByteArray} {pc : Nat} (h : Nat.beq (dby c pc) 96 = true) : decode c pc = .ok (.iadd, 1) := dc_1 (K := _) rfl h (by decide) rfl
theorem dc1_97 {c : ByteArray} {pc : Nat} (h : Nat.beq (dby c pc) 97 = true) : decode c pc = .ok (.ladd, 1) := dc_1 (K := _) rfl h (by decide) rfl
theorem dc1_100 {c : ByteArray} {pc : Nat} (h : Nat.beq (dby c pc) 100 = true) : decode c pc = .ok (.isub, 1) := dc_1 (K := _) rfl h (by decide) rfl
theorem dc1_101 {c : ByteArray} {pc : Nat} (h : Nat.beq (dby c pc) 101 = true) : decode c pc = .ok (.lsub, 1) := dc_1 (K := _) rfl h (by decide) rfl
theorem dc1_104 {c : ByteArray} {pc : Nat} (h : Nat.beq (dby c pc) 104 = true) : decode c pc = .ok (.imul, 1) := dc_1 (K := _) rfl h (by decide) rfl
theorem dc1_105 {c : ByteArray} {pc : Nat} (h : Nat.beq (dby c pc) 105 = true) : decode c pc = .ok (.lmul, 1) := dc_1 (K := _) rfl h (by decide) rfl
theorem dc1_108 {c : ByteArray} {pc : Nat} (h : Nat.beq (dby c pc) 108 = true) : decode c pc = .ok (.idiv, 1) := dc_1 (K := _) rfl h (by decide) rfl
theorem dc1_112 {c : ByteArray} {pc : Nat} (h : Nat.beq (dby c pc) 112 = true) : decode c pc = .ok (.irem, 1) := dc_1 (K := _) rfl h (by decide) rfl
theorem dc1_116 {c : ByteArray} {pc : Nat} (h : Nat.beq (dby c pc) 116 = true) : decode c pc = .ok (.ineg, 1) := dc_1 (K := _) rfl h (by decide) rfl
theorem dc1_120 {c : ByteArray} {pc : Nat} (h : Nat.beq (dby c pc) 120 = true) : decode c pc = .ok (.ishl, 1) := dc_1 (K := _) rfl h (by decide) rfl
theorem dc1_121 {c : ByteArray} {pc : Nat} (h : Nat.beq (dby c pc) 121 = true) : decode c pc = .ok (.lshl, 1) := dc_1 (K := _) rfl h (by decide) rfl
theorem dc1_122 {c : ByteArray} {pc : Nat} (h : Nat.beq (dby c pc) 122 = true) : decode c pc = .ok (.ishr, 1) := dc_1 (K := _) rfl h (by decide) rfl
theorem dc1_124 {c : ByteArray} {pc : Nat} (h : Nat.beq (dby c pc) 124 = true) : decode c pc = .ok (.iushr, 1) := dc_1 (K := _) rfl h (by decide) rfl
theorem dc1_126 {c : ByteArray} {pc : Nat} (h : Nat.beq (dby c pc) 126 = true) : decode c pc = .ok (.iand, 1) := dc_1 (K := _) rfl h (by decide) rfl
theorem dc1_128 {c : ByteArray} {pc : Nat} (h : Nat.beq (dby c pc) 128 = true) : decode c pc = .ok (.ior, 1) := dc_1 (K := _) rfl h (by decide) rfl
theorem dc1_129 {c : ByteArray} {pc : Nat} (h : Nat.beq (dby c pc) 129 = true) : decode c pc = .ok (.lor, 1) := dc_1 (K := _) rfl h (by decide) rfl
theorem dc1_130 {c : ByteArray} {pc : Nat} (h : Nat.beq (dby c pc) 130 = true) : decode c pc = .ok (.ixor, 1) := dc_1 (K := _) rfl h (by decide) rfl
theorem dc1_133 {c : ByteArray} {pc : Nat} (h : Nat.beq (dby c pc) 133 = true) : decode c pc = .ok (.i2l, 1) := dc_1 (K := _) rfl h (by decide) rfl
theorem dc1_136 {c : ByteArray} {pc : Nat} (h : Nat.beq (dby c pc) 136 = true) : decode c pc = .ok (.l2i, 1) := dc_1 (K := _) rfl h (by decide) rfl
theorem dc1_145 {c : ByteArray} {pc : Nat} (h : Nat.beq (dby c pc) 145 = true) : decode c pc = .ok (.i2b, 1) := dc_1 (K := _) rfl h (by decide) rfl
theorem dc1_146 {c : ByteArray} {pc : Nat} (h : Nat.beq (dby c pc) 146 = true) : decode c pc = .ok (.i2c, 1) := dc_1 (K := _) rfl h (by decide) rfl
theorem dc1_148 {c : ByteArray} {pc : Nat} (h : Nat.beq (dby c pc) 148 = true) : decode c pc = .ok (.lcmp, 1) := dc_1 (K := _) rfl h (by decide) rfl
theorem dc1_172 {c : ByteArray} {pc : Nat} (h : Nat.beq (dby c pc) 172 = true) : decode c pc = .ok (.ireturn, 1) := dc_1 (K := _) rfl h (by decide) rfl
theorem dc1_173 {c : ByteArray} {pc : Nat} (h : Nat.beq (dby c pc) 173 = true) : decode c pc = .ok (.lreturn, 1) := dc_1 (K := _) rfl h (by decide) rfl
theorem dc1_176 {c : ByteArray} {pc : Nat} (h : Nat.beq (dby c pc) 176 = true) : decode c pc = .ok (.areturn, 1) := dc_1 (K := _) rfl h (by decide) rfl
theorem dc1_177 {c : ByteArray} {pc : Nat} (h : Nat.beq (dby c pc) 177 = true) : decode c pc = .ok (.return_, 1) := dc_1 (K := _) rfl h (by decide) rfl
theorem dc1_190 {c : ByteArray} {pc : Nat} (h : Nat.beq (dby c pc) 190 = true) : decode c pc = .ok (.arraylength, 1) := dc_1 (K := _) rfl h (by decide) rfl
theorem dc1_26 {c : ByteArray} {pc : Nat} (h : Nat.beq (dby c pc) 26 = true) : decode c pc = .ok (.iload_n 0, 1) := dc_1 (K := _) rfl h (by decide) rfl
theorem dc1_30 {c : ByteArray} {pc : Nat} (h : Nat.beq (dby c pc) 30 = true) : decode c pc = .ok (.lload_n 0, 1) := dc_1 (K := _) rfl h (by decide) rfl
theorem dc1_42 {c : ByteArray} {pc : Nat} (h : Nat.beq (dby c pc) 42 = true) : decode c pc = .ok (.aload_n 0, 1) := dc_1 (K := _) rfl h (by decide) rfl
theorem dc1_59 {c : ByteArray} {pc : Nat} (h : Nat.beq (dby c pc) 59 = true) : decode c pc = .ok (.istore_n 0, 1) := dc_1 (K := _) rfl h (by decide) rfl
theorem dc1_63 {c : ByteArray} {pc : Nat} (h : Nat.beq (dby c pc) 63 = true) : decode c pc = .ok (.lstore_n 0, 1) := dc_1 (K := _) rfl h (by decide) rfl
theorem dc1_75 {c : ByteArray} {pc : Nat} (h : Nat.beq (dby c pc) 75 = true) : decode c pc = .ok (.astore_n 0, 1) := dc_1 (K := _) rfl h (by decide) rfl
theorem dc1_27 {c : ByteArray} {pc : Nat} (h : Nat.beq (dby c pc) 27 = true) : decode c pc = .ok (.iload_n 1, 1) := dc_1 (K := _) rfl h (by decide) rfl
theorem dc1_31 {c : ByteArray} {pc : Nat} (h : Nat.beq (dby c pc) 31 = true) : decode c pc = .ok (.lload_n 1, 1) := dc_1 (K := _) rfl h (by decide) rfl
theorem dc1_43 {c : ByteArray} {pc : Nat} (h : Nat.beq (dby c pc) 43 = true) : decode c pc = .ok (.aload_n 1, 1) := dc_1 (K := _) rfl h (by decide) rfl
theorem dc1_60 {c : ByteArray} {pc : Nat} (h : Nat.beq (dby c pc) 60 = true) : decode c pc = .ok (.istore_n 1, 1) := dc_1 (K := _) rfl h (by decide) rfl
theorem dc1_64 {c : ByteArray} {pc : Nat} (h : Nat.beq (dby c pc) 64 = true) : decode c pc = .ok (.lstore_n 1, 1) := dc_1 (K := _) rfl h (by decide) rfl
theorem dc1_76 {c : ByteArray} {pc : Nat} (h : Nat.beq (dby c pc) 76 = true) : decode c pc = .ok (.astore_n 1, 1) := dc_1 (K := _) rfl h (by decide) rfl
theorem dc1_28 {c : ByteArray} {pc : Nat} (h : Nat.beq (dby c pc) 28 = true) : decode c pc = .ok (.iload_n 2, 1) := dc_1 (K := _) rfl h (by decide) rfl
theorem dc1_32 {c : ByteArray} {pc : Nat} (h : Nat.beq (dby c pc) 32 = true) : decode c pc = .ok (.lload_n 2, 1) := dc_1 (K := _) rfl h (by decide) rfl
theorem dc1_44 {c : ByteArray} {pc : Nat} (h : Nat.beq (dby c pc) 44 = true) : decode c pc = .ok (.aload_n 2, 1) := dc_1 (K := _) rfl h (by decide) rfl
theorem dc1_61 {c : ByteArray} {pc : Nat} (h : Nat.beq (dby c pc) 61 = true) : decode c pc = .ok (.istore_n 2, 1) := dc_1 (K := _) rfl h (by decide) rfl
theorem dc1_65 {c : ByteArray} {pc : Nat} (h : Nat.beq (dby c pc) 65 = true) : decode c pc = .ok (.lstore_n 2, 1) := dc_1 (K := _) rfl h (by decide) rfl
theorem dc1_77 {c : ByteArray} {pc : Nat} (h : Nat.beq (dby c pc) 77 = true) : decode c pc = .ok (.astore_n 2, 1) := dc_1 (K := _) rfl h (by decide) rfl
theorem dc1_29 {c : ByteArray} {pc : Nat} (h : Nat.beq (dby c pc) 29 = true) : decode c pc = .ok (.iload_n 3, 1) := dc_1 (K := _) rfl h (by decide) rfl
theorem dc1_33 {c : ByteArray} {pc : Nat} (h : Nat.beq (dby c pc) 33 = true) : decode c pc = .ok (.lload_n 3, 1) := dc_1 (K := _) rfl h (by decide) rfl
theorem dc1_45 {c : ByteArray} {pc : Nat} (h : Nat.beq (dby c pc) 45 = true) : decode c pc = .ok (.aload_n 3, 1) := dc_1 (K := _) rfl h (by decide) rfl
theorem dc1_62 {c : ByteArray} {pc : Nat} (h : Nat.beq (dby c pc) 62 = true) : decode c pc = .ok (.istore_n 3, 1) := dc_1 (K := _) rfl h (by decide) rfl
theorem dc1_66 {c : ByteArray} {pc : Nat} (h : Nat.beq (dby c pc) 66 = true) : decode c pc = .ok (.lstore_n 3, 1) := dc_1 (K := _) rfl h (by decide) rfl
theorem dc1_78 {c : ByteArray} {pc : Nat} (h : Nat.beq (dby c pc) 78 = true) : decode c pc = .ok (.astore_n 3, 1) := dc_1 (K := _) rfl h (by decide) rfl
theorem dc1_2 {c : ByteArray} {pc : Nat} (h : Nat.beq (dby c pc) 2 = true) : decode c pc = .ok (.iconst (-1), 1) := dc_1 (K := _) rfl h (by decide) rfl
theorem dc1_3 {c : ByteArray} {pc : Nat} (h : Nat.beq (dby c pc) 3 = true) : decode c pc = .ok (.iconst 0, 1) := dc_1 (K := _) rfl h (by decide) rfl
theorem dc1_4 {c : ByteArray} {pc : Nat} (h : Nat.beq (dby c pc) 4 = true) : decode c pc = .ok (.iconst 1, 1) := dc_1 (K := _) rfl h (by decide) rfl
theorem dc1_5 {c : ByteArray} {pc : Nat} (h : Nat.beq (dby c pc) 5 = true) : decode c pc = .ok (.iconst 2, 1) := dc_1 (K := _) rfl h (by decide) rfl
theorem dc1_6 {c : ByteArray} {pc : Nat} (h : Nat.beq (dby c pc) 6 = true) : decode c pc = .ok (.iconst 3, 1) := dc_1 (K := _) rfl h (by decide) rfl
theorem dc1_7 {c : ByteArray} {pc : Nat} (h : Nat.beq (dby c pc) 7 = true) : decode c pc = .ok (.iconst 4, 1) := dc_1 (K := _) rfl h (by decide) rfl
theorem dc1_8 {c : ByteArray} {pc : Nat} (h : Nat.beq (dby c pc) 8 = true) : decode c pc = .ok (.iconst 5, 1) := dc_1 (K := _) rfl h (by decide) rfl
theorem dc1_9 {c : ByteArray} {pc : Nat} (h : Nat.beq (dby c pc) 9 = true) : decode c pc = .ok (.lconst 0, 1) := dc_1 (K := _) rfl h (by decide) rfl
theorem dc1_10 {c : ByteArray} {pc : Nat} (h : Nat.beq (dby c pc) 10 = true) : decode c pc = .ok (.lconst 1, 1) := dc_1 (K := _) rfl h (by decide) rfl
theorem dcu_18 {c : ByteArray} {pc : Nat} {n : Nat} (h : dk2 c pc 18 n = true) : decode c pc = .ok (.ldc n, 2) := dc_2 (K := _) rfl h (by decide) (F := fun n => Pure.pure (.ldc n)) rfl rfl
theorem dcu_21 {c : ByteArray} {pc : Nat} {n : Nat} (h : dk2 c pc 21 n = true) : decode c pc = .ok (.iload n, 2) := dc_2 (K := _) rfl h (by decide) (F := fun n => Pure.pure (.iload n)) rfl rfl
theorem dcu_22 {c : ByteArray} {pc : Nat} {n : Nat} (h : dk2 c pc 22 n = true) : decode c pc = .ok (.lload n, 2) := dc_2 (K := _) rfl h (by decide) (F := fun n => Pure.pure (.lload n)) rfl rfl
theorem dcu_25 {c : ByteArray} {pc : Nat} {n : Nat} (h : dk2 c pc 25 n = true) : decode c pc = .ok (.aload n, 2) := dc_2 (K := _) rfl h (by decide) (F := fun n => Pure.pure (.aload n)) rfl rfl
theorem dcu_54 {c : ByteArray} {pc : Nat} {n : Nat} (h : dk2 c pc 54 n = true) : decode c pc = .ok (.istore n, 2) := dc_2 (K := _) rfl h (by decide) (F := fun n => Pure.pure (.istore n)) rfl rfl
theorem dcu_55 {c : ByteArray} {pc : Nat} {n : Nat} (h : dk2 c pc 55 n = true) : decode c pc = .ok (.lstore n, 2) := dc_2 (K := _) rfl h (by decide) (F := fun n => Pure.pure (.lstore n)) rfl rfl
theorem dcu_58 {c : ByteArray} {pc : Nat} {n : Nat} (h : dk2 c pc 58 n = true) : decode c pc = .ok (.astore n, 2) := dc_2 (K := _) rfl h (by decide) (F := fun n => Pure.pure (.astore n)) rfl rfl
theorem dcb_16 {c : ByteArray} {pc : Nat} {n : Nat} (h : dk2 c pc 16 n = true) : decode c pc = .ok (.bipush (sg1 n), 2) := dc_s1 (K := _) rfl h (by decide) (F := fun n => .bipush n) rfl
theorem dcw_19 {c : ByteArray} {pc : Nat} {n : Nat} (h : dk3 c pc 19 n = true) : decode c pc = .ok (.ldc_w n, 3) := dc_3 (K := _) rfl h (by decide) (F := fun n => Pure.pure (.ldc_w n)) rfl rfl
theorem dcw_20 {c : ByteArray} {pc : Nat} {n : Nat} (h : dk3 c pc 20 n = true) : decode c pc = .ok (.ldc2_w n, 3) := dc_3 (K := _) rfl h (by decide) (F := fun n => Pure.pure (.ldc2_w n)) rfl rfl
theorem dcw_178 {c : ByteArray} {pc : Nat} {n : Nat} (h : dk3 c pc 178 n = true) : decode c pc = .ok (.getstatic n, 3) := dc_3 (K := _) rfl h (by decide) (F := fun n => Pure.pure (.getstatic n)) rfl rfl
theorem dcw_180 {c : ByteArray} {pc : Nat} {n : Nat} (h : dk3 c pc 180 n = true) : decode c pc = .ok (.getfield n, 3) := dc_3 (K := _) rfl h (by decide) (F := fun n => Pure.pure (.getfield n)) rfl rfl
theorem dcw_181 {c : ByteArray} {pc : Nat} {n : Nat} (h : dk3 c pc 181 n = true) : decode c pc = .ok (.putfield n, 3) := dc_3 (K := _) rfl h (by decide) (F := fun n => Pure.pure (.putfield n)) rfl rfl
theorem dcw_182 {c : ByteArray} {pc : Nat} {n : Nat} (h : dk3 c pc 182 n = true) : decode c pc = .ok (.invokevirtual n, 3) := dc_3 (K := _) rfl h (by decide) (F := fun n => Pure.pure (.invokevirtual n)) rfl rfl
theorem dcw_183 {c : ByteArray} {pc : Nat} {n : Nat} (h : dk3 c pc 183 n = true) : decode c pc = .ok (.invokespecial n, 3) := dc_3 (K := _) rfl h (by decide) (F := fun n => Pure.pure (.invokespecial n)) rfl rfl
theorem dcw_184 {c : ByteArray} {pc : Nat} {n : Nat} (h : dk3 c pc 184 n = true) : decode c pc = .ok (.invokestatic n, 3) := dc_3 (K := _) rfl h (by decide) (F := fun n => Pure.pure (.invokestatic n)) rfl rfl
theorem dcw_187 {c : ByteArray} {pc : Nat} {n : Nat} (h : dk3 c pc 187 n = true) : decode c pc = .ok (.new n, 3) := dc_3 (K := _) rfl h (by decide) (F := fun n => Pure.pure (.new n)) rfl rfl
theorem dcw_189 {c : ByteArray} {pc : Nat} {n : Nat} (h : dk3 c pc 189 n = true) : decode c pc = .ok (.anewarray n, 3) := dc_3 (K := _) rfl h (by decide) (F := fun n => Pure.pure (.anewarray n)) rfl rfl
theorem dcs_17 {c : ByteArray} {pc : Nat} {n : Nat} (h : dk3 c pc 17 n = true) : decode c pc = .ok (.sipush (sg2 n), 3) := dc_s2 (K := _) rfl h (by decide) (F := fun n => .sipush n) rfl
theorem dcs_167 {c : ByteArray} {pc : Nat} {n : Nat} (h : dk3 c pc 167 n = true) : decode c pc = .ok (.goto (sg2 n), 3) := dc_s2 (K := _) rfl h (by decide) (F := fun n => .goto n) rfl
theorem dcs_153 {c : ByteArray} {pc : Nat} {n : Nat} (h : dk3 c pc 153 n = true) : decode c pc = .ok (.ifCond .eq (sg2 n), 3) := dc_s2 (K := _) rfl h (by decide) (F := fun n => .ifCond .eq n) rfl
theorem dcs_159 {c : ByteArray} {pc : Nat} {n : Nat} (h : dk3 c pc 159 n = true) : decode c pc = .ok (.if_icmp .eq (sg2 n), 3) := dc_s2 (K := _) rfl h (by decide) (F := fun n => .if_icmp .eq n) rfl
theorem dcs_154 {c : ByteArray} {pc : Nat} {n : Nat} (h : dk3 c pc 154 n = true) : decode c pc = .ok (.ifCond .ne (sg2 n), 3) := dc_s2 (K := _) rfl h (by decide) (F := fun n => .ifCond .ne n) rfl
theorem dcs_160 {c : ByteArray} {pc : Nat} {n : Nat} (h : dk3 c pc 160 n = true) : decode c pc = .ok (.if_icmp .ne (sg2 n), 3) := dc_s2 (K := _) rfl h (by decide) (F := fun n => .if_icmp .ne n) rfl
theorem dcs_155 {c : ByteArray} {pc : Nat} {n : Nat} (h : dk3 c pc 155 n = true) : decode c pc = .ok (.ifCond .lt (sg2 n), 3) := dc_s2 (K := _) rfl h (by decide) (F := fun n => .ifCond .lt n) rfl
theorem dcs_161 {c : ByteArray} {pc : Nat} {n : Nat} (h : dk3 c pc 161 n = true) : decode c pc = .ok (.if_icmp .lt (sg2 n), 3) := dc_s2 (K := _) rfl h (by decide) (F := fun n => .if_icmp .lt n) rfl
theorem dcs_156 {c : ByteArray} {pc : Nat} {n : Nat} (h : dk3 c pc 156 n = true) : decode c pc = .ok (.ifCond .ge (sg2 n), 3) := dc_s2 (K := _) rfl h (by decide) (F := fun n => .ifCond .ge n) rfl
theorem dcs_162 {c : ByteArray} {pc : Nat} {n : Nat} (h : dk3 c pc 162 n = true) : decode c pc = .ok (.if_icmp .ge (sg2 n), 3) := dc_s2 (K := _) rfl h (by decide) (F := fun n => .if_icmp .ge n) rfl
theorem dcs_157 {c : ByteArray} {pc : Nat} {n : Nat} (h : dk3 c pc 157 n = true) : decode c pc = .ok (.ifCond .gt (sg2 n), 3) := dc_s2 (K := _) rfl h (by decide) (F := fun n => .ifCond .gt n) rfl
theorem dcs_163 {c : ByteArray} {pc : Nat} {n : Nat} (h : dk3 c pc 163 n = true) : decode c pc = .ok (.if_icmp .gt (sg2 n), 3) := dc_s2 (K := _) rfl h (by decide) (F := fun n => .if_icmp .gt n) rfl
theorem dcs_158 {c : ByteArray} {pc : Nat} {n : Nat} (h : dk3 c pc 158 n = true) : decode c pc = .ok (.ifCond .le (sg2 n), 3) := dc_s2 (K := _) rfl h (by decide) (F := fun n => .ifCond .le n) rfl
theorem dcs_164 {c : ByteArray} {pc : Nat} {n : Nat} (h : dk3 c pc 164 n = true) : decode c pc = .ok (.if_icmp .le (sg2 n), 3) := dc_s2 (K := _) rfl h (by decide) (F := fun n => .if_icmp .le n) rfl
