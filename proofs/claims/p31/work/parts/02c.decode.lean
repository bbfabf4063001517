def qOf {f : Nat → Nat → Decoder Instr} (_ : ∀ pc, Decoder.instr pc = (Reader.u1 >>= f pc)) : Nat → Nat → Decoder Instr := f
def qK : Nat → Nat → Decoder Instr := qOf (fun _ => rfl)
theorem qK_eq (pc : Nat) : Decoder.instr pc = (Reader.u1 >>= qK pc) := rfl

theorem q_u1 {c : ByteArray} {p : Nat} {b : UInt8} {t : List UInt8} (h : c.data.toList.drop p = b :: t) : (Reader.u1 : Decoder Nat) c p = .ok (b.toNat, p + 1) := by
  have hl : p < c.data.toList.length := by
    rcases Nat.lt_or_ge p c.data.toList.length with h' | h'
    · exact h'
    · rw [List.drop_eq_nil_of_le h'] at h; cases h
  have hs : p < c.size := hl
  have hg : c[p] = b := by
    have h2 := List.drop_eq_getElem_cons hl
    rw [h] at h2
    exact ((List.cons.inj h2).1).symm
  show (if h : p < c.size then _ else _ : Decoder Nat) c p = _
  rw [dif_pos hs]
  show Except.ok (c[p].toNat, p + 1) = _
  rw [hg]

def ck1 (l : List UInt8) (a : Nat) : Bool := match l with | x :: _ => Nat.beq x.toNat a | _ => false
def ck2 (l : List UInt8) (a b : Nat) : Bool := match l with | x :: y :: _ => Nat.beq x.toNat a && Nat.beq y.toNat b | _ => false
def ck3 (l : List UInt8) (a b d : Nat) : Bool := match l with | x :: y :: z :: _ => Nat.beq x.toNat a && (Nat.beq y.toNat b && Nat.beq z.toNat d) | _ => false

theorem q_tail {c : ByteArray} {p : Nat} {b : UInt8} {t : List UInt8} (h : c.data.toList.drop p = b :: t) : c.data.toList.drop (p + 1) = t := by
  rw [← List.drop_drop, h]; rfl

theorem q_dec {c : ByteArray} {pc : Nat} {b : Nat} {i : Instr} {n : Nat} (h : (Reader.u1 : Decoder Nat) c pc = .ok (b, pc + 1)) (hk : qK pc b c (pc + 1) = .ok (i, pc + n)) : decode c pc = .ok (i, n) := by
  have e1 : Decoder.instr pc c pc = .ok (i, pc + n) := by
    rw [qK_eq]
    show ((Reader.u1 : Decoder Nat) c pc >>= fun s => qK pc s.1 c s.2) = _
    rw [h]
    exact hk
  show ((Decoder.instr pc c pc) >>= fun s => Pure.pure (s.1, s.2 - pc)) = _
  rw [e1]
  show Except.ok (i, pc + n - pc) = _
  rw [Nat.add_sub_cancel_left]

theorem dI1 {c : ByteArray} {pc b : Nat} {i : Instr} (hk : qK pc b = Pure.pure i) (h : ck1 (c.data.toList.drop pc) b = true) : decode c pc = .ok (i, 1) := by
  cases e : c.data.toList.drop pc with
  | nil => rw [e] at h; cases h
  | cons x t =>
    rw [e] at h
    have hx : x.toNat = b := Nat.eq_of_beq_eq_true h
    refine q_dec (b := b) (by rw [← hx]; exact q_u1 e) ?_
    rw [hk]; rfl

theorem q_run2 {c : ByteArray} {pc a b : Nat} (h : ck2 (c.data.toList.drop pc) a b = true) : (Reader.u1 : Decoder Nat) c pc = .ok (a, pc + 1) ∧ (Reader.u1 : Decoder Nat) c (pc + 1) = .ok (b, pc + 2) := by
  cases e : c.data.toList.drop pc with
  | nil => rw [e] at h; cases h
  | cons x t =>
    cases t with
    | nil => rw [e] at h; cases h
    | cons y t =>
      rw [e] at h
      have h' : (Nat.beq x.toNat a && Nat.beq y.toNat b) = true := h
      rw [Bool.and_eq_true] at h'
      have hx : x.toNat = a := Nat.eq_of_beq_eq_true h'.1
      have hy : y.toNat = b := Nat.eq_of_beq_eq_true h'.2
      exact ⟨by rw [← hx]; exact q_u1 e, by rw [← hy]; exact q_u1 (q_tail e)⟩

theorem q_run3 {c : ByteArray} {pc a b d : Nat} (h : ck3 (c.data.toList.drop pc) a b d = true) : (Reader.u1 : Decoder Nat) c pc = .ok (a, pc + 1) ∧ (Reader.u2 : Decoder Nat) c (pc + 1) = .ok (b * 256 + d, pc + 3) := by
  cases e : c.data.toList.drop pc with
  | nil => rw [e] at h; cases h
  | cons x t =>
    cases t with
    | nil => rw [e] at h; cases h
    | cons y t =>
      cases t with
      | nil => rw [e] at h; cases h
      | cons z t =>
        rw [e] at h
        have h' : (Nat.beq x.toNat a && (Nat.beq y.toNat b && Nat.beq z.toNat d)) = true := h
        rw [Bool.and_eq_true, Bool.and_eq_true] at h'
        have hx : x.toNat = a := Nat.eq_of_beq_eq_true h'.1
        have hy : y.toNat = b := Nat.eq_of_beq_eq_true h'.2.1
        have hz : z.toNat = d := Nat.eq_of_beq_eq_true h'.2.2
        have e2 := q_tail e
        have e3 := q_tail e2
        have r2 := q_u1 e2
        have r3 := q_u1 e3
        rw [hy] at r2; rw [hz] at r3
        refine ⟨by rw [← hx]; exact q_u1 e, ?_⟩
        show ((Reader.u1 : Decoder Nat) c (pc + 1) >>= fun s => ((Reader.u1 : Decoder Nat) c s.2 >>= fun r => .ok (s.1 * 256 + r.1, r.2))) = _
        rw [r2]
        show ((Reader.u1 : Decoder Nat) c (pc + 1 + 1) >>= fun r => Except.ok (b * 256 + r.1, r.2)) = _
        rw [r3]
        rfl

theorem dI2u {c : ByteArray} {pc b v : Nat} {f : Nat → Instr} (hk : qK pc b = (Reader.u1 >>= fun v => Pure.pure (f v))) (h : ck2 (c.data.toList.drop pc) b v = true) : decode c pc = .ok (f v, 2) := by
  have r := q_run2 h
  refine q_dec r.1 ?_
  rw [hk]
  show ((Reader.u1 : Decoder Nat) c (pc + 1) >>= fun s => Except.ok (f s.1, s.2)) = _
  rw [r.2]; rfl

theorem q_s1 (c : ByteArray) (p : Nat) : (Reader.s1 : Decoder Int) c p = ((Reader.u1 : Decoder Nat) c p >>= fun s => Except.ok (Reader.signed 8 s.1, s.2)) := by
  unfold Reader.s1; cases h : (Reader.u1 : Decoder Nat) c p with
  | error e => show ((Reader.u1 : Decoder Nat) c p >>= fun s => _) = _; rw [h]; rfl
  | ok r => show ((Reader.u1 : Decoder Nat) c p >>= fun s => _) = _; rw [h]; rfl

theorem dI2s {c : ByteArray} {pc b : Nat} {v : Int} {f : Int → Instr} (hk : qK pc b = (Reader.s1 >>= fun v => Pure.pure (f v))) (x : Nat) (h : (ck2 (c.data.toList.drop pc) b x && decide (Reader.signed 8 x = v)) = true) : decode c pc = .ok (f v, 2) := by
  rw [Bool.and_eq_true, decide_eq_true_iff] at h
  have r := q_run2 h.1
  refine q_dec r.1 ?_
  rw [hk, ← h.2]
  show ((Reader.s1 : Decoder Int) c (pc + 1) >>= fun s => Except.ok (f s.1, s.2)) = _
  rw [q_s1, r.2]; rfl

theorem dI3u {c : ByteArray} {pc b v : Nat} {f : Nat → Instr} (hk : qK pc b = (Reader.u2 >>= fun v => Pure.pure (f v))) (x y : Nat) (h : (ck3 (c.data.toList.drop pc) b x y && Nat.beq (x * 256 + y) v) = true) : decode c pc = .ok (f v, 3) := by
  rw [Bool.and_eq_true] at h
  have r := q_run3 h.1
  have e : x * 256 + y = v := Nat.eq_of_beq_eq_true h.2
  rw [e] at r
  refine q_dec r.1 ?_
  rw [hk]
  show ((Reader.u2 : Decoder Nat) c (pc + 1) >>= fun s => Except.ok (f s.1, s.2)) = _
  rw [r.2]; rfl

theorem q_s2 (c : ByteArray) (p : Nat) : (Reader.s2 : Decoder Int) c p = ((Reader.u2 : Decoder Nat) c p >>= fun s => Except.ok (Reader.signed 16 s.1, s.2)) := by
  unfold Reader.s2; cases h : (Reader.u2 : Decoder Nat) c p with
  | error e => show ((Reader.u2 : Decoder Nat) c p >>= fun s => _) = _; rw [h]; rfl
  | ok r => show ((Reader.u2 : Decoder Nat) c p >>= fun s => _) = _; rw [h]; rfl

theorem dI3s {c : ByteArray} {pc b : Nat} {v : Int} {f : Int → Instr} (hk : qK pc b = (Reader.s2 >>= fun v => Pure.pure (f v))) (x y : Nat) (h : (ck3 (c.data.toList.drop pc) b x y && decide (Reader.signed 16 (x * 256 + y) = v)) = true) : decode c pc = .ok (f v, 3) := by
  rw [Bool.and_eq_true, decide_eq_true_iff] at h
  have r := q_run3 h.1
  refine q_dec r.1 ?_
  rw [hk, ← h.2]
  show ((Reader.s2 : Decoder Int) c (pc + 1) >>= fun s => Except.ok (f s.1, s.2)) = _
  rw [q_s2, r.2]; rfl

theorem kI_1 (pc : Nat) : qK pc 1 = Pure.pure (Instr.aconst_null) := rfl
theorem kI_2 (pc : Nat) : qK pc 2 = Pure.pure (Instr.iconst (-1)) := rfl
theorem kI_3 (pc : Nat) : qK pc 3 = Pure.pure (Instr.iconst 0) := rfl
theorem kI_4 (pc : Nat) : qK pc 4 = Pure.pure (Instr.iconst 1) := rfl
theorem kI_5 (pc : Nat) : qK pc 5 = Pure.pure (Instr.iconst 2) := rfl
theorem kI_6 (pc : Nat) : qK pc 6 = Pure.pure (Instr.iconst 3) := rfl
theorem kI_7 (pc : Nat) : qK pc 7 = Pure.pure (Instr.iconst 4) := rfl
theorem kI_8 (pc : Nat) : qK pc 8 = Pure.pure (Instr.iconst 5) := rfl
theorem kI_9 (pc : Nat) : qK pc 9 = Pure.pure (Instr.lconst 0) := rfl
theorem kI_10 (pc : Nat) : qK pc 10 = Pure.pure (Instr.lconst 1) := rfl
theorem kI_16 (pc : Nat) : qK pc 16 = (Reader.s1 >>= fun v => Pure.pure (Instr.bipush v)) := rfl
theorem kI_17 (pc : Nat) : qK pc 17 = (Reader.s2 >>= fun v => Pure.pure (Instr.sipush v)) := rfl
theorem kI_18 (pc : Nat) : qK pc 18 = (Reader.u1 >>= fun v => Pure.pure (Instr.ldc v)) := rfl
theorem kI_19 (pc : Nat) : qK pc 19 = (Reader.u2 >>= fun v => Pure.pure (Instr.ldc_w v)) := rfl
theorem kI_20 (pc : Nat) : qK pc 20 = (Reader.u2 >>= fun v => Pure.pure (Instr.ldc2_w v)) := rfl
theorem kI_21 (pc : Nat) : qK pc 21 = (Reader.u1 >>= fun v => Pure.pure (Instr.iload v)) := rfl
theorem kI_22 (pc : Nat) : qK pc 22 = (Reader.u1 >>= fun v => Pure.pure (Instr.lload v)) := rfl
theorem kI_25 (pc : Nat) : qK pc 25 = (Reader.u1 >>= fun v => Pure.pure (Instr.aload v)) := rfl
theorem kI_26 (pc : Nat) : qK pc 26 = Pure.pure (Instr.iload_n 0) := rfl
theorem kI_27 (pc : Nat) : qK pc 27 = Pure.pure (Instr.iload_n 1) := rfl
theorem kI_28 (pc : Nat) : qK pc 28 = Pure.pure (Instr.iload_n 2) := rfl
theorem kI_29 (pc : Nat) : qK pc 29 = Pure.pure (Instr.iload_n 3) := rfl
theorem kI_30 (pc : Nat) : qK pc 30 = Pure.pure (Instr.lload_n 0) := rfl
theorem kI_32 (pc : Nat) : qK pc 32 = Pure.pure (Instr.lload_n 2) := rfl
theorem kI_42 (pc : Nat) : qK pc 42 = Pure.pure (Instr.aload_n 0) := rfl
theorem kI_43 (pc : Nat) : qK pc 43 = Pure.pure (Instr.aload_n 1) := rfl
theorem kI_44 (pc : Nat) : qK pc 44 = Pure.pure (Instr.aload_n 2) := rfl
theorem kI_45 (pc : Nat) : qK pc 45 = Pure.pure (Instr.aload_n 3) := rfl
theorem kI_46 (pc : Nat) : qK pc 46 = Pure.pure (Instr.iaload) := rfl
theorem kI_50 (pc : Nat) : qK pc 50 = Pure.pure (Instr.aaload) := rfl
theorem kI_51 (pc : Nat) : qK pc 51 = Pure.pure (Instr.baload) := rfl
theorem kI_54 (pc : Nat) : qK pc 54 = (Reader.u1 >>= fun v => Pure.pure (Instr.istore v)) := rfl
theorem kI_58 (pc : Nat) : qK pc 58 = (Reader.u1 >>= fun v => Pure.pure (Instr.astore v)) := rfl
theorem kI_59 (pc : Nat) : qK pc 59 = Pure.pure (Instr.istore_n 0) := rfl
theorem kI_60 (pc : Nat) : qK pc 60 = Pure.pure (Instr.istore_n 1) := rfl
theorem kI_61 (pc : Nat) : qK pc 61 = Pure.pure (Instr.istore_n 2) := rfl
theorem kI_62 (pc : Nat) : qK pc 62 = Pure.pure (Instr.istore_n 3) := rfl
theorem kI_76 (pc : Nat) : qK pc 76 = Pure.pure (Instr.astore_n 1) := rfl
theorem kI_77 (pc : Nat) : qK pc 77 = Pure.pure (Instr.astore_n 2) := rfl
theorem kI_78 (pc : Nat) : qK pc 78 = Pure.pure (Instr.astore_n 3) := rfl
theorem kI_79 (pc : Nat) : qK pc 79 = Pure.pure (Instr.iastore) := rfl
theorem kI_83 (pc : Nat) : qK pc 83 = Pure.pure (Instr.aastore) := rfl
theorem kI_84 (pc : Nat) : qK pc 84 = Pure.pure (Instr.bastore) := rfl
theorem kI_87 (pc : Nat) : qK pc 87 = Pure.pure (Instr.pop) := rfl
theorem kI_89 (pc : Nat) : qK pc 89 = Pure.pure (Instr.dup) := rfl
theorem kI_92 (pc : Nat) : qK pc 92 = Pure.pure (Instr.dup2) := rfl
theorem kI_96 (pc : Nat) : qK pc 96 = Pure.pure (Instr.iadd) := rfl
theorem kI_97 (pc : Nat) : qK pc 97 = Pure.pure (Instr.ladd) := rfl
theorem kI_100 (pc : Nat) : qK pc 100 = Pure.pure (Instr.isub) := rfl
theorem kI_104 (pc : Nat) : qK pc 104 = Pure.pure (Instr.imul) := rfl
theorem kI_108 (pc : Nat) : qK pc 108 = Pure.pure (Instr.idiv) := rfl
theorem kI_112 (pc : Nat) : qK pc 112 = Pure.pure (Instr.irem) := rfl
theorem kI_116 (pc : Nat) : qK pc 116 = Pure.pure (Instr.ineg) := rfl
theorem kI_120 (pc : Nat) : qK pc 120 = Pure.pure (Instr.ishl) := rfl
theorem kI_122 (pc : Nat) : qK pc 122 = Pure.pure (Instr.ishr) := rfl
theorem kI_124 (pc : Nat) : qK pc 124 = Pure.pure (Instr.iushr) := rfl
theorem kI_126 (pc : Nat) : qK pc 126 = Pure.pure (Instr.iand) := rfl
theorem kI_128 (pc : Nat) : qK pc 128 = Pure.pure (Instr.ior) := rfl
theorem kI_130 (pc : Nat) : qK pc 130 = Pure.pure (Instr.ixor) := rfl
theorem kI_133 (pc : Nat) : qK pc 133 = Pure.pure (Instr.i2l) := rfl
theorem kI_145 (pc : Nat) : qK pc 145 = Pure.pure (Instr.i2b) := rfl
theorem kI_146 (pc : Nat) : qK pc 146 = Pure.pure (Instr.i2c) := rfl
theorem kI_148 (pc : Nat) : qK pc 148 = Pure.pure (Instr.lcmp) := rfl
theorem kI_153 (pc : Nat) : qK pc 153 = (Reader.s2 >>= fun v => Pure.pure (Instr.ifCond .eq v)) := rfl
theorem kI_154 (pc : Nat) : qK pc 154 = (Reader.s2 >>= fun v => Pure.pure (Instr.ifCond .ne v)) := rfl
theorem kI_155 (pc : Nat) : qK pc 155 = (Reader.s2 >>= fun v => Pure.pure (Instr.ifCond .lt v)) := rfl
theorem kI_156 (pc : Nat) : qK pc 156 = (Reader.s2 >>= fun v => Pure.pure (Instr.ifCond .ge v)) := rfl
theorem kI_157 (pc : Nat) : qK pc 157 = (Reader.s2 >>= fun v => Pure.pure (Instr.ifCond .gt v)) := rfl
theorem kI_158 (pc : Nat) : qK pc 158 = (Reader.s2 >>= fun v => Pure.pure (Instr.ifCond .le v)) := rfl
theorem kI_159 (pc : Nat) : qK pc 159 = (Reader.s2 >>= fun v => Pure.pure (Instr.if_icmp .eq v)) := rfl
theorem kI_160 (pc : Nat) : qK pc 160 = (Reader.s2 >>= fun v => Pure.pure (Instr.if_icmp .ne v)) := rfl
theorem kI_161 (pc : Nat) : qK pc 161 = (Reader.s2 >>= fun v => Pure.pure (Instr.if_icmp .lt v)) := rfl
theorem kI_162 (pc : Nat) : qK pc 162 = (Reader.s2 >>= fun v => Pure.pure (Instr.if_icmp .ge v)) := rfl
theorem kI_163 (pc : Nat) : qK pc 163 = (Reader.s2 >>= fun v => Pure.pure (Instr.if_icmp .gt v)) := rfl
theorem kI_164 (pc : Nat) : qK pc 164 = (Reader.s2 >>= fun v => Pure.pure (Instr.if_icmp .le v)) := rfl
theorem kI_167 (pc : Nat) : qK pc 167 = (Reader.s2 >>= fun v => Pure.pure (Instr.goto v)) := rfl
theorem kI_172 (pc : Nat) : qK pc 172 = Pure.pure (Instr.ireturn) := rfl
theorem kI_176 (pc : Nat) : qK pc 176 = Pure.pure (Instr.areturn) := rfl
theorem kI_177 (pc : Nat) : qK pc 177 = Pure.pure (Instr.return_) := rfl
theorem kI_178 (pc : Nat) : qK pc 178 = (Reader.u2 >>= fun v => Pure.pure (Instr.getstatic v)) := rfl
theorem kI_180 (pc : Nat) : qK pc 180 = (Reader.u2 >>= fun v => Pure.pure (Instr.getfield v)) := rfl
theorem kI_181 (pc : Nat) : qK pc 181 = (Reader.u2 >>= fun v => Pure.pure (Instr.putfield v)) := rfl
theorem kI_182 (pc : Nat) : qK pc 182 = (Reader.u2 >>= fun v => Pure.pure (Instr.invokevirtual v)) := rfl
theorem kI_183 (pc : Nat) : qK pc 183 = (Reader.u2 >>= fun v => Pure.pure (Instr.invokespecial v)) := rfl
theorem kI_184 (pc : Nat) : qK pc 184 = (Reader.u2 >>= fun v => Pure.pure (Instr.invokestatic v)) := rfl
theorem kI_187 (pc : Nat) : qK pc 187 = (Reader.u2 >>= fun v => Pure.pure (Instr.new v)) := rfl
theorem kI_189 (pc : Nat) : qK pc 189 = (Reader.u2 >>= fun v => Pure.pure (Instr.anewarray v)) := rfl
theorem kI_190 (pc : Nat) : qK pc 190 = Pure.pure (Instr.arraylength) := rfl
theorem kI_198 (pc : Nat) : qK pc 198 = (Reader.s2 >>= fun v => Pure.pure (Instr.ifnull v)) := rfl
theorem kI_199 (pc : Nat) : qK pc 199 = (Reader.s2 >>= fun v => Pure.pure (Instr.ifnonnull v)) := rfl
