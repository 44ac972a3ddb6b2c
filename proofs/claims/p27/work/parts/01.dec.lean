/-! DECODING, cheaply: a method's instructions as bytes, held against its code in one go -/
def rdP (i : Instr) : Decoder Instr := Pure.pure i
def rd1 (C : Nat → Instr) : Decoder Instr := (Reader.u1 : Decoder Nat) >>= fun n => Pure.pure (C n)
def rds (C : Int → Instr) : Decoder Instr := (Reader.s1 : Decoder Int) >>= fun n => Pure.pure (C n)
def rd2 (C : Nat → Instr) : Decoder Instr := (Reader.u2 : Decoder Nat) >>= fun n => Pure.pure (C n)
def rdS (C : Int → Instr) : Decoder Instr := (Reader.s2 : Decoder Int) >>= fun n => Pure.pure (C n)
def rdI : Decoder Instr := (Reader.u1 : Decoder Nat) >>= fun n => (Reader.s1 : Decoder Int) >>= fun k => Pure.pure (Instr.iinc n k)
theorem F_ex : ∃ F : Nat → Nat → Decoder Instr, (∀ pc, Decoder.instr pc = ((Reader.u1 : Decoder Nat) >>= F pc)) ∧
  (∀ pc, F pc 1 = rdP Instr.aconst_null) ∧
  (∀ pc, F pc 2 = rdP (Instr.iconst (-1))) ∧
  (∀ pc, F pc 3 = rdP (Instr.iconst 0)) ∧
  (∀ pc, F pc 4 = rdP (Instr.iconst 1)) ∧
  (∀ pc, F pc 5 = rdP (Instr.iconst 2)) ∧
  (∀ pc, F pc 6 = rdP (Instr.iconst 3)) ∧
  (∀ pc, F pc 7 = rdP (Instr.iconst 4)) ∧
  (∀ pc, F pc 8 = rdP (Instr.iconst 5)) ∧
  (∀ pc, F pc 9 = rdP (Instr.lconst 0)) ∧
  (∀ pc, F pc 10 = rdP (Instr.lconst 1)) ∧
  (∀ pc, F pc 16 = rds Instr.bipush) ∧
  (∀ pc, F pc 17 = rdS Instr.sipush) ∧
  (∀ pc, F pc 18 = rd1 Instr.ldc) ∧
  (∀ pc, F pc 19 = rd2 Instr.ldc_w) ∧
  (∀ pc, F pc 20 = rd2 Instr.ldc2_w) ∧
  (∀ pc, F pc 21 = rd1 Instr.iload) ∧
  (∀ pc, F pc 22 = rd1 Instr.lload) ∧
  (∀ pc, F pc 25 = rd1 Instr.aload) ∧
  (∀ pc, F pc 26 = rdP (Instr.iload_n 0)) ∧
  (∀ pc, F pc 27 = rdP (Instr.iload_n 1)) ∧
  (∀ pc, F pc 28 = rdP (Instr.iload_n 2)) ∧
  (∀ pc, F pc 29 = rdP (Instr.iload_n 3)) ∧
  (∀ pc, F pc 30 = rdP (Instr.lload_n 0)) ∧
  (∀ pc, F pc 31 = rdP (Instr.lload_n 1)) ∧
  (∀ pc, F pc 32 = rdP (Instr.lload_n 2)) ∧
  (∀ pc, F pc 33 = rdP (Instr.lload_n 3)) ∧
  (∀ pc, F pc 42 = rdP (Instr.aload_n 0)) ∧
  (∀ pc, F pc 43 = rdP (Instr.aload_n 1)) ∧
  (∀ pc, F pc 44 = rdP (Instr.aload_n 2)) ∧
  (∀ pc, F pc 45 = rdP (Instr.aload_n 3)) ∧
  (∀ pc, F pc 46 = rdP Instr.iaload) ∧
  (∀ pc, F pc 47 = rdP Instr.laload) ∧
  (∀ pc, F pc 50 = rdP Instr.aaload) ∧
  (∀ pc, F pc 51 = rdP Instr.baload) ∧
  (∀ pc, F pc 54 = rd1 Instr.istore) ∧
  (∀ pc, F pc 55 = rd1 Instr.lstore) ∧
  (∀ pc, F pc 58 = rd1 Instr.astore) ∧
  (∀ pc, F pc 59 = rdP (Instr.istore_n 0)) ∧
  (∀ pc, F pc 60 = rdP (Instr.istore_n 1)) ∧
  (∀ pc, F pc 61 = rdP (Instr.istore_n 2)) ∧
  (∀ pc, F pc 62 = rdP (Instr.istore_n 3)) ∧
  (∀ pc, F pc 63 = rdP (Instr.lstore_n 0)) ∧
  (∀ pc, F pc 64 = rdP (Instr.lstore_n 1)) ∧
  (∀ pc, F pc 65 = rdP (Instr.lstore_n 2)) ∧
  (∀ pc, F pc 66 = rdP (Instr.lstore_n 3)) ∧
  (∀ pc, F pc 75 = rdP (Instr.astore_n 0)) ∧
  (∀ pc, F pc 76 = rdP (Instr.astore_n 1)) ∧
  (∀ pc, F pc 77 = rdP (Instr.astore_n 2)) ∧
  (∀ pc, F pc 78 = rdP (Instr.astore_n 3)) ∧
  (∀ pc, F pc 79 = rdP Instr.iastore) ∧
  (∀ pc, F pc 80 = rdP Instr.lastore) ∧
  (∀ pc, F pc 83 = rdP Instr.aastore) ∧
  (∀ pc, F pc 84 = rdP Instr.bastore) ∧
  (∀ pc, F pc 87 = rdP Instr.pop) ∧
  (∀ pc, F pc 88 = rdP Instr.pop2) ∧
  (∀ pc, F pc 89 = rdP Instr.dup) ∧
  (∀ pc, F pc 90 = rdP Instr.dup_x1) ∧
  (∀ pc, F pc 91 = rdP Instr.dup_x2) ∧
  (∀ pc, F pc 92 = rdP Instr.dup2) ∧
  (∀ pc, F pc 96 = rdP Instr.iadd) ∧
  (∀ pc, F pc 97 = rdP Instr.ladd) ∧
  (∀ pc, F pc 100 = rdP Instr.isub) ∧
  (∀ pc, F pc 101 = rdP Instr.lsub) ∧
  (∀ pc, F pc 104 = rdP Instr.imul) ∧
  (∀ pc, F pc 105 = rdP Instr.lmul) ∧
  (∀ pc, F pc 108 = rdP Instr.idiv) ∧
  (∀ pc, F pc 112 = rdP Instr.irem) ∧
  (∀ pc, F pc 116 = rdP Instr.ineg) ∧
  (∀ pc, F pc 120 = rdP Instr.ishl) ∧
  (∀ pc, F pc 121 = rdP Instr.lshl) ∧
  (∀ pc, F pc 122 = rdP Instr.ishr) ∧
  (∀ pc, F pc 123 = rdP Instr.lshr) ∧
  (∀ pc, F pc 124 = rdP Instr.iushr) ∧
  (∀ pc, F pc 126 = rdP Instr.iand) ∧
  (∀ pc, F pc 127 = rdP Instr.land) ∧
  (∀ pc, F pc 128 = rdP Instr.ior) ∧
  (∀ pc, F pc 129 = rdP Instr.lor) ∧
  (∀ pc, F pc 130 = rdP Instr.ixor) ∧
  (∀ pc, F pc 133 = rdP Instr.i2l) ∧
  (∀ pc, F pc 136 = rdP Instr.l2i) ∧
  (∀ pc, F pc 145 = rdP Instr.i2b) ∧
  (∀ pc, F pc 146 = rdP Instr.i2c) ∧
  (∀ pc, F pc 148 = rdP Instr.lcmp) ∧
  (∀ pc, F pc 153 = rdS (Instr.ifCond .eq)) ∧
  (∀ pc, F pc 154 = rdS (Instr.ifCond .ne)) ∧
  (∀ pc, F pc 155 = rdS (Instr.ifCond .lt)) ∧
  (∀ pc, F pc 156 = rdS (Instr.ifCond .ge)) ∧
  (∀ pc, F pc 157 = rdS (Instr.ifCond .gt)) ∧
  (∀ pc, F pc 158 = rdS (Instr.ifCond .le)) ∧
  (∀ pc, F pc 159 = rdS (Instr.if_icmp .eq)) ∧
  (∀ pc, F pc 160 = rdS (Instr.if_icmp .ne)) ∧
  (∀ pc, F pc 161 = rdS (Instr.if_icmp .lt)) ∧
  (∀ pc, F pc 162 = rdS (Instr.if_icmp .ge)) ∧
  (∀ pc, F pc 163 = rdS (Instr.if_icmp .gt)) ∧
  (∀ pc, F pc 164 = rdS (Instr.if_icmp .le)) ∧
  (∀ pc, F pc 167 = rdS Instr.goto) ∧
  (∀ pc, F pc 172 = rdP Instr.ireturn) ∧
  (∀ pc, F pc 173 = rdP Instr.lreturn) ∧
  (∀ pc, F pc 176 = rdP Instr.areturn) ∧
  (∀ pc, F pc 177 = rdP Instr.return_) ∧
  (∀ pc, F pc 178 = rd2 Instr.getstatic) ∧
  (∀ pc, F pc 180 = rd2 Instr.getfield) ∧
  (∀ pc, F pc 181 = rd2 Instr.putfield) ∧
  (∀ pc, F pc 182 = rd2 Instr.invokevirtual) ∧
  (∀ pc, F pc 183 = rd2 Instr.invokespecial) ∧
  (∀ pc, F pc 184 = rd2 Instr.invokestatic) ∧
  (∀ pc, F pc 187 = rd2 Instr.new) ∧
  (∀ pc, F pc 189 = rd2 Instr.anewarray) ∧
  (∀ pc, F pc 190 = rdP Instr.arraylength) ∧
  (∀ pc, F pc 191 = rdP Instr.athrow) ∧
  (∀ pc, F pc 192 = rd2 Instr.checkcast) ∧
  (∀ pc, F pc 198 = rdS Instr.ifnull) ∧
  (∀ pc, F pc 199 = rdS Instr.ifnonnull) ∧
  (∀ pc, F pc 132 = rdI) ∧
  (∀ pc, F pc 188 = Decoder.newarray pc) :=
  ⟨_, fun _ => rfl, fun _ => rfl, fun _ => rfl, fun _ => rfl, fun _ => rfl, fun _ => rfl, fun _ => rfl, fun _ => rfl, fun _ => rfl, fun _ => rfl, fun _ => rfl, fun _ => rfl, fun _ => rfl, fun _ => rfl, fun _ => rfl, fun _ => rfl, fun _ => rfl, fun _ => rfl, fun _ => rfl, fun _ => rfl, fun _ => rfl, fun _ => rfl, fun _ => rfl, fun _ => rfl, fun _ => rfl, fun _ => rfl, fun _ => rfl, fun _ => rfl, fun _ => rfl, fun _ => rfl, fun _ => rfl, fun _ => rfl, fun _ => rfl, fun _ => rfl, fun _ => rfl, fun _ => rfl, fun _ => rfl, fun _ => rfl, fun _ => rfl, fun _ => rfl, fun _ => rfl, fun _ => rfl, fun _ => rfl, fun _ => rfl, fun _ => rfl, fun _ => rfl, fun _ => rfl, fun _ => rfl, fun _ => rfl, fun _ => rfl, fun _ => rfl, fun _ => rfl, fun _ => rfl, fun _ => rfl, fun _ => rfl, fun _ => rfl, fun _ => rfl, fun _ => rfl, fun _ => rfl, fun _ => rfl, fun _ => rfl, fun _ => rfl, fun _ => rfl, fun _ => rfl, fun _ => rfl, fun _ => rfl, fun _ => rfl, fun _ => rfl, fun _ => rfl, fun _ => rfl, fun _ => rfl, fun _ => rfl, fun _ => rfl, fun _ => rfl, fun _ => rfl, fun _ => rfl, fun _ => rfl, fun _ => rfl, fun _ => rfl, fun _ => rfl, fun _ => rfl, fun _ => rfl, fun _ => rfl, fun _ => rfl, fun _ => rfl, fun _ => rfl, fun _ => rfl, fun _ => rfl, fun _ => rfl, fun _ => rfl, fun _ => rfl, fun _ => rfl, fun _ => rfl, fun _ => rfl, fun _ => rfl, fun _ => rfl, fun _ => rfl, fun _ => rfl, fun _ => rfl, fun _ => rfl, fun _ => rfl, fun _ => rfl, fun _ => rfl, fun _ => rfl, fun _ => rfl, fun _ => rfl, fun _ => rfl, fun _ => rfl, fun _ => rfl, fun _ => rfl, fun _ => rfl, fun _ => rfl, fun _ => rfl, fun _ => rfl, fun _ => rfl, fun _ => rfl⟩
noncomputable def dF : Nat → Nat → Decoder Instr := Classical.choose F_ex
theorem u1_at {code : ByteArray} {p : Nat} {b : UInt8} (h : code.data.toList[p]? = some b) : (Reader.u1 : Decoder Nat) code p = .ok (b.toNat, p + 1) := by
  have h2 : code.data[p]? = some b := by rw [← Array.getElem?_toList]; exact h
  obtain ⟨hl, hb⟩ := Array.getElem?_eq_some_iff.mp h2
  have hl' : p < code.size := hl
  have hb' : code[p] = b := hb
  show ((if h : p < code.size then ((MonadStateOf.set (p + 1) : Decoder PUnit) >>= fun _ => Pure.pure code[p].toNat : Decoder Nat) else throw (HasTruncated.truncated p)) : Decoder Nat) code p = _
  rw [dif_pos hl', hb']
  rfl
theorem s1_at {code : ByteArray} {p : Nat} {b : UInt8} (h : code.data.toList[p]? = some b) : (Reader.s1 : Decoder Int) code p = .ok (Reader.signed 8 b.toNat, p + 1) := by
  show ((Reader.signed 8 <$> (Reader.u1 : Decoder Nat)) : Decoder Int) code p = _
  simp only [Functor.map, ReaderT.bind, StateT.bind, StateT.map, Except.bind, bind, u1_at h]
  rfl
theorem u2_at {code : ByteArray} {p : Nat} {a b : UInt8} (h : code.data.toList[p]? = some a) (h1 : code.data.toList[p + 1]? = some b) : (Reader.u2 : Decoder Nat) code p = .ok (a.toNat * 256 + b.toNat, p + 2) := by
  simp only [Reader.u2, bind, ReaderT.bind, StateT.bind, Except.bind, u1_at h, u1_at h1]
  rfl
theorem s2_at {code : ByteArray} {p : Nat} {a b : UInt8} (h : code.data.toList[p]? = some a) (h1 : code.data.toList[p + 1]? = some b) : (Reader.s2 : Decoder Int) code p = .ok (Reader.signed 16 (a.toNat * 256 + b.toNat), p + 2) := by
  show ((Reader.signed 16 <$> (Reader.u2 : Decoder Nat)) : Decoder Int) code p = _
  simp only [Functor.map, ReaderT.bind, StateT.bind, StateT.map, Except.bind, bind, u2_at h h1]
  rfl
theorem dec_run {code : ByteArray} {pc op nx : Nat} {b : UInt8} {i : Instr} (h : code.data.toList[pc]? = some b) (hop : b.toNat = op) (hF : dF pc op code (pc + 1) = .ok (i, nx)) : decode code pc = .ok (i, nx - pc) := by
  have h1 : Decoder.instr pc code pc = .ok (i, nx) := by
    rw [(Classical.choose_spec F_ex).1 pc]
    simp only [bind, ReaderT.bind, StateT.bind, Except.bind, u1_at h]
    rw [hop]
    exact hF
  show ((Decoder.instr pc).runAt code pc >>= fun x => Pure.pure (x.1, x.2 - pc)) = _
  have h2 : (Decoder.instr pc).runAt code pc = .ok (i, nx) := h1
  rw [h2]
  rfl
/-- a method's bytes, instruction by instruction -/
abbrev DcT : Type := List (Nat × List UInt8)
def dcChk : DcT → Nat → List UInt8 → Bool
  | [], _, rem => rem.isEmpty
  | (q, bs) :: r, pos, rem => Nat.beq q pos && (decide (rem.take bs.length = bs) && dcChk r (pos + bs.length) (rem.drop bs.length))
theorem dcAt : ∀ (L : DcT) (pos : Nat) (all : List UInt8), dcChk L pos (all.drop pos) = true → ∀ (i q : Nat) (bs : List UInt8), L[i]? = some (q, bs) → ∀ (k : Nat) (b : UInt8), bs[k]? = some b → all[q + k]? = some b
  | [], _, _, _, i, q, bs, hi, _, _, _ => by simp at hi
  | (q0, bs0) :: r, pos, all, h, i, q, bs, hi, k, b, hk => by
    simp only [dcChk, Bool.and_eq_true, Nat.beq_eq_true_eq, decide_eq_true_eq] at h
    obtain ⟨h1, h2, h3⟩ := h
    cases i with
    | zero =>
      simp only [List.getElem?_cons_zero, Option.some.injEq, Prod.mk.injEq] at hi
      obtain ⟨rfl, rfl⟩ := hi
      have hl := (List.getElem?_eq_some_iff.mp hk).1
      have h4 : ((all.drop pos).take bs0.length)[k]? = some b := by rw [h2]; exact hk
      rw [List.getElem?_take_of_lt hl, List.getElem?_drop] at h4
      rw [Nat.eq_of_beq_eq_true h1]
      exact h4
    | succ i =>
      rw [List.drop_drop] at h3
      exact dcAt r (pos + bs0.length) all (by first | exact h3 | (rw [Nat.add_comm]; exact h3)) i q bs (by simpa using hi) k b hk
def dcOk (code : ByteArray) (L : DcT) : Prop := dcChk L 0 code.data.toList = true
theorem dcB {code : ByteArray} {L : DcT} (D : dcOk code L) {i q : Nat} {bs : List UInt8} (hi : L[i]? = some (q, bs)) (k : Nat) {b : UInt8} (hk : bs[k]? = some b) : code.data.toList[q + k]? = some b := dcAt L 0 code.data.toList D i q bs hi k b hk
theorem dkP {code : ByteArray} {L : DcT} {op : Nat} {I : Instr} (hF : ∀ pc, dF pc op = rdP I) (D : dcOk code L) {i q : Nat} {b : UInt8} (hi : L[i]? = some (q, [b])) (hop : b.toNat = op) : decode code q = .ok (I, 1) := by
  have h := dec_run (code := code) (pc := q) (i := I) (nx := q + 1) (dcB D hi 0 rfl) hop (by rw [hF]; rfl)
  rwa [Nat.add_sub_cancel_left] at h
theorem dk1 {code : ByteArray} {L : DcT} {op : Nat} {C : Nat → Instr} (hF : ∀ pc, dF pc op = rd1 C) (D : dcOk code L) {i q n : Nat} {b a : UInt8} (hi : L[i]? = some (q, [b, a])) (hop : b.toNat = op) (hn : a.toNat = n) : decode code q = .ok (C n, 2) := by
  subst hn
  have h := dec_run (code := code) (pc := q) (i := C a.toNat) (nx := q + 1 + 1) (dcB D hi 0 rfl) hop (by
    rw [hF]
    simp only [rd1, bind, ReaderT.bind, StateT.bind, Except.bind, u1_at (dcB D hi 1 rfl)]
    rfl)
  rwa [show q + 1 + 1 - q = 2 by omega] at h
theorem dks {code : ByteArray} {L : DcT} {op : Nat} {C : Int → Instr} (hF : ∀ pc, dF pc op = rds C) (D : dcOk code L) {i q : Nat} {n : Int} {b a : UInt8} (hi : L[i]? = some (q, [b, a])) (hop : b.toNat = op) (hn : Reader.signed 8 a.toNat = n) : decode code q = .ok (C n, 2) := by
  subst hn
  have h := dec_run (code := code) (pc := q) (i := C (Reader.signed 8 a.toNat)) (nx := q + 1 + 1) (dcB D hi 0 rfl) hop (by
    rw [hF]
    simp only [rds, bind, ReaderT.bind, StateT.bind, Except.bind, s1_at (dcB D hi 1 rfl)]
    rfl)
  rwa [show q + 1 + 1 - q = 2 by omega] at h
theorem dk2 {code : ByteArray} {L : DcT} {op : Nat} {C : Nat → Instr} (hF : ∀ pc, dF pc op = rd2 C) (D : dcOk code L) {i q n : Nat} {b a a2 : UInt8} (hi : L[i]? = some (q, [b, a, a2])) (hop : b.toNat = op) (hn : a.toNat * 256 + a2.toNat = n) : decode code q = .ok (C n, 3) := by
  subst hn
  have h := dec_run (code := code) (pc := q) (i := C (a.toNat * 256 + a2.toNat)) (nx := q + 1 + 2) (dcB D hi 0 rfl) hop (by
    rw [hF]
    simp only [rd2, bind, ReaderT.bind, StateT.bind, Except.bind, u2_at (dcB D hi 1 rfl) (dcB D hi 2 rfl)]
    rfl)
  rwa [show q + 1 + 2 - q = 3 by omega] at h
theorem dkS {code : ByteArray} {L : DcT} {op : Nat} {C : Int → Instr} (hF : ∀ pc, dF pc op = rdS C) (D : dcOk code L) {i q : Nat} {n : Int} {b a a2 : UInt8} (hi : L[i]? = some (q, [b, a, a2])) (hop : b.toNat = op) (hn : Reader.signed 16 (a.toNat * 256 + a2.toNat) = n) : decode code q = .ok (C n, 3) := by
  subst hn
  have h := dec_run (code := code) (pc := q) (i := C (Reader.signed 16 (a.toNat * 256 + a2.toNat))) (nx := q + 1 + 2) (dcB D hi 0 rfl) hop (by
    rw [hF]
    simp only [rdS, bind, ReaderT.bind, StateT.bind, Except.bind, s2_at (dcB D hi 1 rfl) (dcB D hi 2 rfl)]
    rfl)
  rwa [show q + 1 + 2 - q = 3 by omega] at h
theorem dF_1 : ∀ pc, dF pc 1 = rdP Instr.aconst_null := (Classical.choose_spec F_ex).2.1
theorem dF_2 : ∀ pc, dF pc 2 = rdP (Instr.iconst (-1)) := (Classical.choose_spec F_ex).2.2.1
theorem dF_3 : ∀ pc, dF pc 3 = rdP (Instr.iconst 0) := (Classical.choose_spec F_ex).2.2.2.1
theorem dF_4 : ∀ pc, dF pc 4 = rdP (Instr.iconst 1) := (Classical.choose_spec F_ex).2.2.2.2.1
theorem dF_5 : ∀ pc, dF pc 5 = rdP (Instr.iconst 2) := (Classical.choose_spec F_ex).2.2.2.2.2.1
theorem dF_6 : ∀ pc, dF pc 6 = rdP (Instr.iconst 3) := (Classical.choose_spec F_ex).2.2.2.2.2.2.1
theorem dF_7 : ∀ pc, dF pc 7 = rdP (Instr.iconst 4) := (Classical.choose_spec F_ex).2.2.2.2.2.2.2.1
theorem dF_8 : ∀ pc, dF pc 8 = rdP (Instr.iconst 5) := (Classical.choose_spec F_ex).2.2.2.2.2.2.2.2.1
theorem dF_9 : ∀ pc, dF pc 9 = rdP (Instr.lconst 0) := (Classical.choose_spec F_ex).2.2.2.2.2.2.2.2.2.1
theorem dF_10 : ∀ pc, dF pc 10 = rdP (Instr.lconst 1) := (Classical.choose_spec F_ex).2.2.2.2.2.2.2.2.2.2.1
theorem dF_16 : ∀ pc, dF pc 16 = rds Instr.bipush := (Classical.choose_spec F_ex).2.2.2.2.2.2.2.2.2.2.2.1
theorem dF_17 : ∀ pc, dF pc 17 = rdS Instr.sipush := (Classical.choose_spec F_ex).2.2.2.2.2.2.2.2.2.2.2.2.1
theorem dF_18 : ∀ pc, dF pc 18 = rd1 Instr.ldc := (Classical.choose_spec F_ex).2.2.2.2.2.2.2.2.2.2.2.2.2.1
theorem dF_19 : ∀ pc, dF pc 19 = rd2 Instr.ldc_w := (Classical.choose_spec F_ex).2.2.2.2.2.2.2.2.2.2.2.2.2.2.1
theorem dF_20 : ∀ pc, dF pc 20 = rd2 Instr.ldc2_w := (Classical.choose_spec F_ex).2.2.2.2.2.2.2.2.2.2.2.2.2.2.2.1
theorem dF_21 : ∀ pc, dF pc 21 = rd1 Instr.iload := (Classical.choose_spec F_ex).2.2.2.2.2.2.2.2.2.2.2.2.2.2.2.2.1
theorem dF_22 : ∀ pc, dF pc 22 = rd1 Instr.lload := (Classical.choose_spec F_ex).2.2.2.2.2.2.2.2.2.2.2.2.2.2.2.2.2.1
theorem dF_25 : ∀ pc, dF pc 25 = rd1 Instr.aload := (Classical.choose_spec F_ex).2.2.2.2.2.2.2.2.2.2.2.2.2.2.2.2.2.2.1
theorem dF_26 : ∀ pc, dF pc 26 = rdP (Instr.iload_n 0) := (Classical.choose_spec F_ex).2.2.2.2.2.2.2.2.2.2.2.2.2.2.2.2.2.2.2.1
theorem dF_27 : ∀ pc, dF pc 27 = rdP (Instr.iload_n 1) := (Classical.choose_spec F_ex).2.2.2.2.2.2.2.2.2.2.2.2.2.2.2.2.2.2.2.2.1
theorem dF_28 : ∀ pc, dF pc 28 = rdP (Instr.iload_n 2) := (Classical.choose_spec F_ex).2.2.2.2.2.2.2.2.2.2.2.2.2.2.2.2.2.2.2.2.2.1
theorem dF_29 : ∀ pc, dF pc 29 = rdP (Instr.iload_n 3) := (Classical.choose_spec F_ex).2.2.2.2.2.2.2.2.2.2.2.2.2.2.2.2.2.2.2.2.2.2.1
theorem dF_30 : ∀ pc, dF pc 30 = rdP (Instr.lload_n 0) := (Classical.choose_spec F_ex).2.2.2.2.2.2.2.2.2.2.2.2.2.2.2.2.2.2.2.2.2.2.2.1
theorem dF_31 : ∀ pc, dF pc 31 = rdP (Instr.lload_n 1) := (Classical.choose_spec F_ex).2.2.2.2.2.2.2.2.2.2.2.2.2.2.2.2.2.2.2.2.2.2.2.2.1
theorem dF_32 : ∀ pc, dF pc 32 = rdP (Instr.lload_n 2) := (Classical.choose_spec F_ex).2.2.2.2.2.2.2.2.2.2.2.2.2.2.2.2.2.2.2.2.2.2.2.2.2.1
theorem dF_33 : ∀ pc, dF pc 33 = rdP (Instr.lload_n 3) := (Classical.choose_spec F_ex).2.2.2.2.2.2.2.2.2.2.2.2.2.2.2.2.2.2.2.2.2.2.2.2.2.2.1
theorem dF_42 : ∀ pc, dF pc 42 = rdP (Instr.aload_n 0) := (Classical.choose_spec F_ex).2.2.2.2.2.2.2.2.2.2.2.2.2.2.2.2.2.2.2.2.2.2.2.2.2.2.2.1
theorem dF_43 : ∀ pc, dF pc 43 = rdP (Instr.aload_n 1) := (Classical.choose_spec F_ex).2.2.2.2.2.2.2.2.2.2.2.2.2.2.2.2.2.2.2.2.2.2.2.2.2.2.2.2.1
theorem dF_44 : ∀ pc, dF pc 44 = rdP (Instr.aload_n 2) := (Classical.choose_spec F_ex).2.2.2.2.2.2.2.2.2.2.2.2.2.2.2.2.2.2.2.2.2.2.2.2.2.2.2.2.2.1
theorem dF_45 : ∀ pc, dF pc 45 = rdP (Instr.aload_n 3) := (Classical.choose_spec F_ex).2.2.2.2.2.2.2.2.2.2.2.2.2.2.2.2.2.2.2.2.2.2.2.2.2.2.2.2.2.2.1
theorem dF_46 : ∀ pc, dF pc 46 = rdP Instr.iaload := (Classical.choose_spec F_ex).2.2.2.2.2.2.2.2.2.2.2.2.2.2.2.2.2.2.2.2.2.2.2.2.2.2.2.2.2.2.2.1
theorem dF_47 : ∀ pc, dF pc 47 = rdP Instr.laload := (Classical.choose_spec F_ex).2.2.2.2.2.2.2.2.2.2.2.2.2.2.2.2.2.2.2.2.2.2.2.2.2.2.2.2.2.2.2.2.1
theorem dF_50 : ∀ pc, dF pc 50 = rdP Instr.aaload := (Classical.choose_spec F_ex).2.2.2.2.2.2.2.2.2.2.2.2.2.2.2.2.2.2.2.2.2.2.2.2.2.2.2.2.2.2.2.2.2.1
theorem dF_51 : ∀ pc, dF pc 51 = rdP Instr.baload := (Classical.choose_spec F_ex).2.2.2.2.2.2.2.2.2.2.2.2.2.2.2.2.2.2.2.2.2.2.2.2.2.2.2.2.2.2.2.2.2.2.1
theorem dF_54 : ∀ pc, dF pc 54 = rd1 Instr.istore := (Classical.choose_spec F_ex).2.2.2.2.2.2.2.2.2.2.2.2.2.2.2.2.2.2.2.2.2.2.2.2.2.2.2.2.2.2.2.2.2.2.2.1
theorem dF_55 : ∀ pc, dF pc 55 = rd1 Instr.lstore := (Classical.choose_spec F_ex).2.2.2.2.2.2.2.2.2.2.2.2.2.2.2.2.2.2.2.2.2.2.2.2.2.2.2.2.2.2.2.2.2.2.2.2.1
theorem dF_58 : ∀ pc, dF pc 58 = rd1 Instr.astore := (Classical.choose_spec F_ex).2.2.2.2.2.2.2.2.2.2.2.2.2.2.2.2.2.2.2.2.2.2.2.2.2.2.2.2.2.2.2.2.2.2.2.2.2.1
theorem dF_59 : ∀ pc, dF pc 59 = rdP (Instr.istore_n 0) := (Classical.choose_spec F_ex).2.2.2.2.2.2.2.2.2.2.2.2.2.2.2.2.2.2.2.2.2.2.2.2.2.2.2.2.2.2.2.2.2.2.2.2.2.2.1
theorem dF_60 : ∀ pc, dF pc 60 = rdP (Instr.istore_n 1) := (Classical.choose_spec F_ex).2.2.2.2.2.2.2.2.2.2.2.2.2.2.2.2.2.2.2.2.2.2.2.2.2.2.2.2.2.2.2.2.2.2.2.2.2.2.2.1
theorem dF_61 : ∀ pc, dF pc 61 = rdP (Instr.istore_n 2) := (Classical.choose_spec F_ex).2.2.2.2.2.2.2.2.2.2.2.2.2.2.2.2.2.2.2.2.2.2.2.2.2.2.2.2.2.2.2.2.2.2.2.2.2.2.2.2.1
theorem dF_62 : ∀ pc, dF pc 62 = rdP (Instr.istore_n 3) := (Classical.choose_spec F_ex).2.2.2.2.2.2.2.2.2.2.2.2.2.2.2.2.2.2.2.2.2.2.2.2.2.2.2.2.2.2.2.2.2.2.2.2.2.2.2.2.2.1
theorem dF_63 : ∀ pc, dF pc 63 = rdP (Instr.lstore_n 0) := (Classical.choose_spec F_ex).2.2.2.2.2.2.2.2.2.2.2.2.2.2.2.2.2.2.2.2.2.2.2.2.2.2.2.2.2.2.2.2.2.2.2.2.2.2.2.2.2.2.1
theorem dF_64 : ∀ pc, dF pc 64 = rdP (Instr.lstore_n 1) := (Classical.choose_spec F_ex).2.2.2.2.2.2.2.2.2.2.2.2.2.2.2.2.2.2.2.2.2.2.2.2.2.2.2.2.2.2.2.2.2.2.2.2.2.2.2.2.2.2.2.1
theorem dF_65 : ∀ pc, dF pc 65 = rdP (Instr.lstore_n 2) := (Classical.choose_spec F_ex).2.2.2.2.2.2.2.2.2.2.2.2.2.2.2.2.2.2.2.2.2.2.2.2.2.2.2.2.2.2.2.2.2.2.2.2.2.2.2.2.2.2.2.2.1
theorem dF_66 : ∀ pc, dF pc 66 = rdP (Instr.lstore_n 3) := (Classical.choose_spec F_ex).2.2.2.2.2.2.2.2.2.2.2.2.2.2.2.2.2.2.2.2.2.2.2.2.2.2.2.2.2.2.2.2.2.2.2.2.2.2.2.2.2.2.2.2.2.1
theorem dF_75 : ∀ pc, dF pc 75 = rdP (Instr.astore_n 0) := (Classical.choose_spec F_ex).2.2.2.2.2.2.2.2.2.2.2.2.2.2.2.2.2.2.2.2.2.2.2.2.2.2.2.2.2.2.2.2.2.2.2.2.2.2.2.2.2.2.2.2.2.2.1
theorem dF_76 : ∀ pc, dF pc 76 = rdP (Instr.astore_n 1) := (Classical.choose_spec F_ex).2.2.2.2.2.2.2.2.2.2.2.2.2.2.2.2.2.2.2.2.2.2.2.2.2.2.2.2.2.2.2.2.2.2.2.2.2.2.2.2.2.2.2.2.2.2.2.1
theorem dF_77 : ∀ pc, dF pc 77 = rdP (Instr.astore_n 2) := (Classical.choose_spec F_ex).2.2.2.2.2.2.2.2.2.2.2.2.2.2.2.2.2.2.2.2.2.2.2.2.2.2.2.2.2.2.2.2.2.2.2.2.2.2.2.2.2.2.2.2.2.2.2.2.1
theorem dF_78 : ∀ pc, dF pc 78 = rdP (Instr.astore_n 3) := (Classical.choose_spec F_ex).2.2.2.2.2.2.2.2.2.2.2.2.2.2.2.2.2.2.2.2.2.2.2.2.2.2.2.2.2.2.2.2.2.2.2.2.2.2.2.2.2.2.2.2.2.2.2.2.2.1
theorem dF_79 : ∀ pc, dF pc 79 = rdP Instr.iastore := (Classical.choose_spec F_ex).2.2.2.2.2.2.2.2.2.2.2.2.2.2.2.2.2.2.2.2.2.2.2.2.2.2.2.2.2.2.2.2.2.2.2.2.2.2.2.2.2.2.2.2.2.2.2.2.2.2.1
theorem dF_80 : ∀ pc, dF pc 80 = rdP Instr.lastore := (Classical.choose_spec F_ex).2.2.2.2.2.2.2.2.2.2.2.2.2.2.2.2.2.2.2.2.2.2.2.2.2.2.2.2.2.2.2.2.2.2.2.2.2.2.2.2.2.2.2.2.2.2.2.2.2.2.2.1
theorem dF_83 : ∀ pc, dF pc 83 = rdP Instr.aastore := (Classical.choose_spec F_ex).2.2.2.2.2.2.2.2.2.2.2.2.2.2.2.2.2.2.2.2.2.2.2.2.2.2.2.2.2.2.2.2.2.2.2.2.2.2.2.2.2.2.2.2.2.2.2.2.2.2.2.2.1
theorem dF_84 : ∀ pc, dF pc 84 = rdP Instr.bastore := (Classical.choose_spec F_ex).2.2.2.2.2.2.2.2.2.2.2.2.2.2.2.2.2.2.2.2.2.2.2.2.2.2.2.2.2.2.2.2.2.2.2.2.2.2.2.2.2.2.2.2.2.2.2.2.2.2.2.2.2.1
theorem dF_87 : ∀ pc, dF pc 87 = rdP Instr.pop := (Classical.choose_spec F_ex).2.2.2.2.2.2.2.2.2.2.2.2.2.2.2.2.2.2.2.2.2.2.2.2.2.2.2.2.2.2.2.2.2.2.2.2.2.2.2.2.2.2.2.2.2.2.2.2.2.2.2.2.2.2.1
theorem dF_88 : ∀ pc, dF pc 88 = rdP Instr.pop2 := (Classical.choose_spec F_ex).2.2.2.2.2.2.2.2.2.2.2.2.2.2.2.2.2.2.2.2.2.2.2.2.2.2.2.2.2.2.2.2.2.2.2.2.2.2.2.2.2.2.2.2.2.2.2.2.2.2.2.2.2.2.2.1
theorem dF_89 : ∀ pc, dF pc 89 = rdP Instr.dup := (Classical.choose_spec F_ex).2.2.2.2.2.2.2.2.2.2.2.2.2.2.2.2.2.2.2.2.2.2.2.2.2.2.2.2.2.2.2.2.2.2.2.2.2.2.2.2.2.2.2.2.2.2.2.2.2.2.2.2.2.2.2.2.1
theorem dF_90 : ∀ pc, dF pc 90 = rdP Instr.dup_x1 := (Classical.choose_spec F_ex).2.2.2.2.2.2.2.2.2.2.2.2.2.2.2.2.2.2.2.2.2.2.2.2.2.2.2.2.2.2.2.2.2.2.2.2.2.2.2.2.2.2.2.2.2.2.2.2.2.2.2.2.2.2.2.2.2.1
theorem dF_91 : ∀ pc, dF pc 91 = rdP Instr.dup_x2 := (Classical.choose_spec F_ex).2.2.2.2.2.2.2.2.2.2.2.2.2.2.2.2.2.2.2.2.2.2.2.2.2.2.2.2.2.2.2.2.2.2.2.2.2.2.2.2.2.2.2.2.2.2.2.2.2.2.2.2.2.2.2.2.2.2.1
theorem dF_92 : ∀ pc, dF pc 92 = rdP Instr.dup2 := (Classical.choose_spec F_ex).2.2.2.2.2.2.2.2.2.2.2.2.2.2.2.2.2.2.2.2.2.2.2.2.2.2.2.2.2.2.2.2.2.2.2.2.2.2.2.2.2.2.2.2.2.2.2.2.2.2.2.2.2.2.2.2.2.2.2.1
theorem dF_96 : ∀ pc, dF pc 96 = rdP Instr.iadd := (Classical.choose_spec F_ex).2.2.2.2.2.2.2.2.2.2.2.2.2.2.2.2.2.2.2.2.2.2.2.2.2.2.2.2.2.2.2.2.2.2.2.2.2.2.2.2.2.2.2.2.2.2.2.2.2.2.2.2.2.2.2.2.2.2.2.2.1
theorem dF_97 : ∀ pc, dF pc 97 = rdP Instr.ladd := (Classical.choose_spec F_ex).2.2.2.2.2.2.2.2.2.2.2.2.2.2.2.2.2.2.2.2.2.2.2.2.2.2.2.2.2.2.2.2.2.2.2.2.2.2.2.2.2.2.2.2.2.2.2.2.2.2.2.2.2.2.2.2.2.2.2.2.2.1
theorem dF_100 : ∀ pc, dF pc 100 = rdP Instr.isub := (Classical.choose_spec F_ex).2.2.2.2.2.2.2.2.2.2.2.2.2.2.2.2.2.2.2.2.2.2.2.2.2.2.2.2.2.2.2.2.2.2.2.2.2.2.2.2.2.2.2.2.2.2.2.2.2.2.2.2.2.2.2.2.2.2.2.2.2.2.1
theorem dF_101 : ∀ pc, dF pc 101 = rdP Instr.lsub := (Classical.choose_spec F_ex).2.2.2.2.2.2.2.2.2.2.2.2.2.2.2.2.2.2.2.2.2.2.2.2.2.2.2.2.2.2.2.2.2.2.2.2.2.2.2.2.2.2.2.2.2.2.2.2.2.2.2.2.2.2.2.2.2.2.2.2.2.2.2.1
theorem dF_104 : ∀ pc, dF pc 104 = rdP Instr.imul := (Classical.choose_spec F_ex).2.2.2.2.2.2.2.2.2.2.2.2.2.2.2.2.2.2.2.2.2.2.2.2.2.2.2.2.2.2.2.2.2.2.2.2.2.2.2.2.2.2.2.2.2.2.2.2.2.2.2.2.2.2.2.2.2.2.2.2.2.2.2.2.1
theorem dF_105 : ∀ pc, dF pc 105 = rdP Instr.lmul := (Classical.choose_spec F_ex).2.2.2.2.2.2.2.2.2.2.2.2.2.2.2.2.2.2.2.2.2.2.2.2.2.2.2.2.2.2.2.2.2.2.2.2.2.2.2.2.2.2.2.2.2.2.2.2.2.2.2.2.2.2.2.2.2.2.2.2.2.2.2.2.2.1
theorem dF_108 : ∀ pc, dF pc 108 = rdP Instr.idiv := (Classical.choose_spec F_ex).2.2.2.2.2.2.2.2.2.2.2.2.2.2.2.2.2.2.2.2.2.2.2.2.2.2.2.2.2.2.2.2.2.2.2.2.2.2.2.2.2.2.2.2.2.2.2.2.2.2.2.2.2.2.2.2.2.2.2.2.2.2.2.2.2.2.1
theorem dF_112 : ∀ pc, dF pc 112 = rdP Instr.irem := (Classical.choose_spec F_ex).2.2.2.2.2.2.2.2.2.2.2.2.2.2.2.2.2.2.2.2.2.2.2.2.2.2.2.2.2.2.2.2.2.2.2.2.2.2.2.2.2.2.2.2.2.2.2.2.2.2.2.2.2.2.2.2.2.2.2.2.2.2.2.2.2.2.2.1
theorem dF_116 : ∀ pc, dF pc 116 = rdP Instr.ineg := (Classical.choose_spec F_ex).2.2.2.2.2.2.2.2.2.2.2.2.2.2.2.2.2.2.2.2.2.2.2.2.2.2.2.2.2.2.2.2.2.2.2.2.2.2.2.2.2.2.2.2.2.2.2.2.2.2.2.2.2.2.2.2.2.2.2.2.2.2.2.2.2.2.2.2.1
theorem dF_120 : ∀ pc, dF pc 120 = rdP Instr.ishl := (Classical.choose_spec F_ex).2.2.2.2.2.2.2.2.2.2.2.2.2.2.2.2.2.2.2.2.2.2.2.2.2.2.2.2.2.2.2.2.2.2.2.2.2.2.2.2.2.2.2.2.2.2.2.2.2.2.2.2.2.2.2.2.2.2.2.2.2.2.2.2.2.2.2.2.2.1
theorem dF_121 : ∀ pc, dF pc 121 = rdP Instr.lshl := (Classical.choose_spec F_ex).2.2.2.2.2.2.2.2.2.2.2.2.2.2.2.2.2.2.2.2.2.2.2.2.2.2.2.2.2.2.2.2.2.2.2.2.2.2.2.2.2.2.2.2.2.2.2.2.2.2.2.2.2.2.2.2.2.2.2.2.2.2.2.2.2.2.2.2.2.2.1
theorem dF_122 : ∀ pc, dF pc 122 = rdP Instr.ishr := (Classical.choose_spec F_ex).2.2.2.2.2.2.2.2.2.2.2.2.2.2.2.2.2.2.2.2.2.2.2.2.2.2.2.2.2.2.2.2.2.2.2.2.2.2.2.2.2.2.2.2.2.2.2.2.2.2.2.2.2.2.2.2.2.2.2.2.2.2.2.2.2.2.2.2.2.2.2.1
theorem dF_123 : ∀ pc, dF pc 123 = rdP Instr.lshr := (Classical.choose_spec F_ex).2.2.2.2.2.2.2.2.2.2.2.2.2.2.2.2.2.2.2.2.2.2.2.2.2.2.2.2.2.2.2.2.2.2.2.2.2.2.2.2.2.2.2.2.2.2.2.2.2.2.2.2.2.2.2.2.2.2.2.2.2.2.2.2.2.2.2.2.2.2.2.2.1
theorem dF_124 : ∀ pc, dF pc 124 = rdP Instr.iushr := (Classical.choose_spec F_ex).2.2.2.2.2.2.2.2.2.2.2.2.2.2.2.2.2.2.2.2.2.2.2.2.2.2.2.2.2.2.2.2.2.2.2.2.2.2.2.2.2.2.2.2.2.2.2.2.2.2.2.2.2.2.2.2.2.2.2.2.2.2.2.2.2.2.2.2.2.2.2.2.2.1
theorem dF_126 : ∀ pc, dF pc 126 = rdP Instr.iand := (Classical.choose_spec F_ex).2.2.2.2.2.2.2.2.2.2.2.2.2.2.2.2.2.2.2.2.2.2.2.2.2.2.2.2.2.2.2.2.2.2.2.2.2.2.2.2.2.2.2.2.2.2.2.2.2.2.2.2.2.2.2.2.2.2.2.2.2.2.2.2.2.2.2.2.2.2.2.2.2.2.1
theorem dF_127 : ∀ pc, dF pc 127 = rdP Instr.land := (Classical.choose_spec F_ex).2.2.2.2.2.2.2.2.2.2.2.2.2.2.2.2.2.2.2.2.2.2.2.2.2.2.2.2.2.2.2.2.2.2.2.2.2.2.2.2.2.2.2.2.2.2.2.2.2.2.2.2.2.2.2.2.2.2.2.2.2.2.2.2.2.2.2.2.2.2.2.2.2.2.2.1
theorem dF_128 : ∀ pc, dF pc 128 = rdP Instr.ior := (Classical.choose_spec F_ex).2.2.2.2.2.2.2.2.2.2.2.2.2.2.2.2.2.2.2.2.2.2.2.2.2.2.2.2.2.2.2.2.2.2.2.2.2.2.2.2.2.2.2.2.2.2.2.2.2.2.2.2.2.2.2.2.2.2.2.2.2.2.2.2.2.2.2.2.2.2.2.2.2.2.2.2.1
theorem dF_129 : ∀ pc, dF pc 129 = rdP Instr.lor := (Classical.choose_spec F_ex).2.2.2.2.2.2.2.2.2.2.2.2.2.2.2.2.2.2.2.2.2.2.2.2.2.2.2.2.2.2.2.2.2.2.2.2.2.2.2.2.2.2.2.2.2.2.2.2.2.2.2.2.2.2.2.2.2.2.2.2.2.2.2.2.2.2.2.2.2.2.2.2.2.2.2.2.2.1
theorem dF_130 : ∀ pc, dF pc 130 = rdP Instr.ixor := (Classical.choose_spec F_ex).2.2.2.2.2.2.2.2.2.2.2.2.2.2.2.2.2.2.2.2.2.2.2.2.2.2.2.2.2.2.2.2.2.2.2.2.2.2.2.2.2.2.2.2.2.2.2.2.2.2.2.2.2.2.2.2.2.2.2.2.2.2.2.2.2.2.2.2.2.2.2.2.2.2.2.2.2.2.1
theorem dF_133 : ∀ pc, dF pc 133 = rdP Instr.i2l := (Classical.choose_spec F_ex).2.2.2.2.2.2.2.2.2.2.2.2.2.2.2.2.2.2.2.2.2.2.2.2.2.2.2.2.2.2.2.2.2.2.2.2.2.2.2.2.2.2.2.2.2.2.2.2.2.2.2.2.2.2.2.2.2.2.2.2.2.2.2.2.2.2.2.2.2.2.2.2.2.2.2.2.2.2.2.1
theorem dF_136 : ∀ pc, dF pc 136 = rdP Instr.l2i := (Classical.choose_spec F_ex).2.2.2.2.2.2.2.2.2.2.2.2.2.2.2.2.2.2.2.2.2.2.2.2.2.2.2.2.2.2.2.2.2.2.2.2.2.2.2.2.2.2.2.2.2.2.2.2.2.2.2.2.2.2.2.2.2.2.2.2.2.2.2.2.2.2.2.2.2.2.2.2.2.2.2.2.2.2.2.2.1
theorem dF_145 : ∀ pc, dF pc 145 = rdP Instr.i2b := (Classical.choose_spec F_ex).2.2.2.2.2.2.2.2.2.2.2.2.2.2.2.2.2.2.2.2.2.2.2.2.2.2.2.2.2.2.2.2.2.2.2.2.2.2.2.2.2.2.2.2.2.2.2.2.2.2.2.2.2.2.2.2.2.2.2.2.2.2.2.2.2.2.2.2.2.2.2.2.2.2.2.2.2.2.2.2.2.1
theorem dF_146 : ∀ pc, dF pc 146 = rdP Instr.i2c := (Classical.choose_spec F_ex).2.2.2.2.2.2.2.2.2.2.2.2.2.2.2.2.2.2.2.2.2.2.2.2.2.2.2.2.2.2.2.2.2.2.2.2.2.2.2.2.2.2.2.2.2.2.2.2.2.2.2.2.2.2.2.2.2.2.2.2.2.2.2.2.2.2.2.2.2.2.2.2.2.2.2.2.2.2.2.2.2.2.1
theorem dF_148 : ∀ pc, dF pc 148 = rdP Instr.lcmp := (Classical.choose_spec F_ex).2.2.2.2.2.2.2.2.2.2.2.2.2.2.2.2.2.2.2.2.2.2.2.2.2.2.2.2.2.2.2.2.2.2.2.2.2.2.2.2.2.2.2.2.2.2.2.2.2.2.2.2.2.2.2.2.2.2.2.2.2.2.2.2.2.2.2.2.2.2.2.2.2.2.2.2.2.2.2.2.2.2.2.1
theorem dF_153 : ∀ pc, dF pc 153 = rdS (Instr.ifCond .eq) := (Classical.choose_spec F_ex).2.2.2.2.2.2.2.2.2.2.2.2.2.2.2.2.2.2.2.2.2.2.2.2.2.2.2.2.2.2.2.2.2.2.2.2.2.2.2.2.2.2.2.2.2.2.2.2.2.2.2.2.2.2.2.2.2.2.2.2.2.2.2.2.2.2.2.2.2.2.2.2.2.2.2.2.2.2.2.2.2.2.2.2.1
theorem dF_154 : ∀ pc, dF pc 154 = rdS (Instr.ifCond .ne) := (Classical.choose_spec F_ex).2.2.2.2.2.2.2.2.2.2.2.2.2.2.2.2.2.2.2.2.2.2.2.2.2.2.2.2.2.2.2.2.2.2.2.2.2.2.2.2.2.2.2.2.2.2.2.2.2.2.2.2.2.2.2.2.2.2.2.2.2.2.2.2.2.2.2.2.2.2.2.2.2.2.2.2.2.2.2.2.2.2.2.2.2.1
theorem dF_155 : ∀ pc, dF pc 155 = rdS (Instr.ifCond .lt) := (Classical.choose_spec F_ex).2.2.2.2.2.2.2.2.2.2.2.2.2.2.2.2.2.2.2.2.2.2.2.2.2.2.2.2.2.2.2.2.2.2.2.2.2.2.2.2.2.2.2.2.2.2.2.2.2.2.2.2.2.2.2.2.2.2.2.2.2.2.2.2.2.2.2.2.2.2.2.2.2.2.2.2.2.2.2.2.2.2.2.2.2.2.1
theorem dF_156 : ∀ pc, dF pc 156 = rdS (Instr.ifCond .ge) := (Classical.choose_spec F_ex).2.2.2.2.2.2.2.2.2.2.2.2.2.2.2.2.2.2.2.2.2.2.2.2.2.2.2.2.2.2.2.2.2.2.2.2.2.2.2.2.2.2.2.2.2.2.2.2.2.2.2.2.2.2.2.2.2.2.2.2.2.2.2.2.2.2.2.2.2.2.2.2.2.2.2.2.2.2.2.2.2.2.2.2.2.2.2.1
theorem dF_157 : ∀ pc, dF pc 157 = rdS (Instr.ifCond .gt) := (Classical.choose_spec F_ex).2.2.2.2.2.2.2.2.2.2.2.2.2.2.2.2.2.2.2.2.2.2.2.2.2.2.2.2.2.2.2.2.2.2.2.2.2.2.2.2.2.2.2.2.2.2.2.2.2.2.2.2.2.2.2.2.2.2.2.2.2.2.2.2.2.2.2.2.2.2.2.2.2.2.2.2.2.2.2.2.2.2.2.2.2.2.2.2.1
theorem dF_158 : ∀ pc, dF pc 158 = rdS (Instr.ifCond .le) := (Classical.choose_spec F_ex).2.2.2.2.2.2.2.2.2.2.2.2.2.2.2.2.2.2.2.2.2.2.2.2.2.2.2.2.2.2.2.2.2.2.2.2.2.2.2.2.2.2.2.2.2.2.2.2.2.2.2.2.2.2.2.2.2.2.2.2.2.2.2.2.2.2.2.2.2.2.2.2.2.2.2.2.2.2.2.2.2.2.2.2.2.2.2.2.2.1
theorem dF_159 : ∀ pc, dF pc 159 = rdS (Instr.if_icmp .eq) := (Classical.choose_spec F_ex).2.2.2.2.2.2.2.2.2.2.2.2.2.2.2.2.2.2.2.2.2.2.2.2.2.2.2.2.2.2.2.2.2.2.2.2.2.2.2.2.2.2.2.2.2.2.2.2.2.2.2.2.2.2.2.2.2.2.2.2.2.2.2.2.2.2.2.2.2.2.2.2.2.2.2.2.2.2.2.2.2.2.2.2.2.2.2.2.2.2.1
theorem dF_160 : ∀ pc, dF pc 160 = rdS (Instr.if_icmp .ne) := (Classical.choose_spec F_ex).2.2.2.2.2.2.2.2.2.2.2.2.2.2.2.2.2.2.2.2.2.2.2.2.2.2.2.2.2.2.2.2.2.2.2.2.2.2.2.2.2.2.2.2.2.2.2.2.2.2.2.2.2.2.2.2.2.2.2.2.2.2.2.2.2.2.2.2.2.2.2.2.2.2.2.2.2.2.2.2.2.2.2.2.2.2.2.2.2.2.2.1
theorem dF_161 : ∀ pc, dF pc 161 = rdS (Instr.if_icmp .lt) := (Classical.choose_spec F_ex).2.2.2.2.2.2.2.2.2.2.2.2.2.2.2.2.2.2.2.2.2.2.2.2.2.2.2.2.2.2.2.2.2.2.2.2.2.2.2.2.2.2.2.2.2.2.2.2.2.2.2.2.2.2.2.2.2.2.2.2.2.2.2.2.2.2.2.2.2.2.2.2.2.2.2.2.2.2.2.2.2.2.2.2.2.2.2.2.2.2.2.2.1
theorem dF_162 : ∀ pc, dF pc 162 = rdS (Instr.if_icmp .ge) := (Classical.choose_spec F_ex).2.2.2.2.2.2.2.2.2.2.2.2.2.2.2.2.2.2.2.2.2.2.2.2.2.2.2.2.2.2.2.2.2.2.2.2.2.2.2.2.2.2.2.2.2.2.2.2.2.2.2.2.2.2.2.2.2.2.2.2.2.2.2.2.2.2.2.2.2.2.2.2.2.2.2.2.2.2.2.2.2.2.2.2.2.2.2.2.2.2.2.2.2.1
theorem dF_163 : ∀ pc, dF pc 163 = rdS (Instr.if_icmp .gt) := (Classical.choose_spec F_ex).2.2.2.2.2.2.2.2.2.2.2.2.2.2.2.2.2.2.2.2.2.2.2.2.2.2.2.2.2.2.2.2.2.2.2.2.2.2.2.2.2.2.2.2.2.2.2.2.2.2.2.2.2.2.2.2.2.2.2.2.2.2.2.2.2.2.2.2.2.2.2.2.2.2.2.2.2.2.2.2.2.2.2.2.2.2.2.2.2.2.2.2.2.2.1
theorem dF_164 : ∀ pc, dF pc 164 = rdS (Instr.if_icmp .le) := (Classical.choose_spec F_ex).2.2.2.2.2.2.2.2.2.2.2.2.2.2.2.2.2.2.2.2.2.2.2.2.2.2.2.2.2.2.2.2.2.2.2.2.2.2.2.2.2.2.2.2.2.2.2.2.2.2.2.2.2.2.2.2.2.2.2.2.2.2.2.2.2.2.2.2.2.2.2.2.2.2.2.2.2.2.2.2.2.2.2.2.2.2.2.2.2.2.2.2.2.2.2.1
theorem dF_167 : ∀ pc, dF pc 167 = rdS Instr.goto := (Classical.choose_spec F_ex).2.2.2.2.2.2.2.2.2.2.2.2.2.2.2.2.2.2.2.2.2.2.2.2.2.2.2.2.2.2.2.2.2.2.2.2.2.2.2.2.2.2.2.2.2.2.2.2.2.2.2.2.2.2.2.2.2.2.2.2.2.2.2.2.2.2.2.2.2.2.2.2.2.2.2.2.2.2.2.2.2.2.2.2.2.2.2.2.2.2.2.2.2.2.2.2.1
theorem dF_172 : ∀ pc, dF pc 172 = rdP Instr.ireturn := (Classical.choose_spec F_ex).2.2.2.2.2.2.2.2.2.2.2.2.2.2.2.2.2.2.2.2.2.2.2.2.2.2.2.2.2.2.2.2.2.2.2.2.2.2.2.2.2.2.2.2.2.2.2.2.2.2.2.2.2.2.2.2.2.2.2.2.2.2.2.2.2.2.2.2.2.2.2.2.2.2.2.2.2.2.2.2.2.2.2.2.2.2.2.2.2.2.2.2.2.2.2.2.2.1
theorem dF_173 : ∀ pc, dF pc 173 = rdP Instr.lreturn := (Classical.choose_spec F_ex).2.2.2.2.2.2.2.2.2.2.2.2.2.2.2.2.2.2.2.2.2.2.2.2.2.2.2.2.2.2.2.2.2.2.2.2.2.2.2.2.2.2.2.2.2.2.2.2.2.2.2.2.2.2.2.2.2.2.2.2.2.2.2.2.2.2.2.2.2.2.2.2.2.2.2.2.2.2.2.2.2.2.2.2.2.2.2.2.2.2.2.2.2.2.2.2.2.2.1
theorem dF_176 : ∀ pc, dF pc 176 = rdP Instr.areturn := (Classical.choose_spec F_ex).2.2.2.2.2.2.2.2.2.2.2.2.2.2.2.2.2.2.2.2.2.2.2.2.2.2.2.2.2.2.2.2.2.2.2.2.2.2.2.2.2.2.2.2.2.2.2.2.2.2.2.2.2.2.2.2.2.2.2.2.2.2.2.2.2.2.2.2.2.2.2.2.2.2.2.2.2.2.2.2.2.2.2.2.2.2.2.2.2.2.2.2.2.2.2.2.2.2.2.1
theorem dF_177 : ∀ pc, dF pc 177 = rdP Instr.return_ := (Classical.choose_spec F_ex).2.2.2.2.2.2.2.2.2.2.2.2.2.2.2.2.2.2.2.2.2.2.2.2.2.2.2.2.2.2.2.2.2.2.2.2.2.2.2.2.2.2.2.2.2.2.2.2.2.2.2.2.2.2.2.2.2.2.2.2.2.2.2.2.2.2.2.2.2.2.2.2.2.2.2.2.2.2.2.2.2.2.2.2.2.2.2.2.2.2.2.2.2.2.2.2.2.2.2.2.1
theorem dF_178 : ∀ pc, dF pc 178 = rd2 Instr.getstatic := (Classical.choose_spec F_ex).2.2.2.2.2.2.2.2.2.2.2.2.2.2.2.2.2.2.2.2.2.2.2.2.2.2.2.2.2.2.2.2.2.2.2.2.2.2.2.2.2.2.2.2.2.2.2.2.2.2.2.2.2.2.2.2.2.2.2.2.2.2.2.2.2.2.2.2.2.2.2.2.2.2.2.2.2.2.2.2.2.2.2.2.2.2.2.2.2.2.2.2.2.2.2.2.2.2.2.2.2.1
theorem dF_180 : ∀ pc, dF pc 180 = rd2 Instr.getfield := (Classical.choose_spec F_ex).2.2.2.2.2.2.2.2.2.2.2.2.2.2.2.2.2.2.2.2.2.2.2.2.2.2.2.2.2.2.2.2.2.2.2.2.2.2.2.2.2.2.2.2.2.2.2.2.2.2.2.2.2.2.2.2.2.2.2.2.2.2.2.2.2.2.2.2.2.2.2.2.2.2.2.2.2.2.2.2.2.2.2.2.2.2.2.2.2.2.2.2.2.2.2.2.2.2.2.2.2.2.1
theorem dF_181 : ∀ pc, dF pc 181 = rd2 Instr.putfield := (Classical.choose_spec F_ex).2.2.2.2.2.2.2.2.2.2.2.2.2.2.2.2.2.2.2.2.2.2.2.2.2.2.2.2.2.2.2.2.2.2.2.2.2.2.2.2.2.2.2.2.2.2.2.2.2.2.2.2.2.2.2.2.2.2.2.2.2.2.2.2.2.2.2.2.2.2.2.2.2.2.2.2.2.2.2.2.2.2.2.2.2.2.2.2.2.2.2.2.2.2.2.2.2.2.2.2.2.2.2.1
theorem dF_182 : ∀ pc, dF pc 182 = rd2 Instr.invokevirtual := (Classical.choose_spec F_ex).2.2.2.2.2.2.2.2.2.2.2.2.2.2.2.2.2.2.2.2.2.2.2.2.2.2.2.2.2.2.2.2.2.2.2.2.2.2.2.2.2.2.2.2.2.2.2.2.2.2.2.2.2.2.2.2.2.2.2.2.2.2.2.2.2.2.2.2.2.2.2.2.2.2.2.2.2.2.2.2.2.2.2.2.2.2.2.2.2.2.2.2.2.2.2.2.2.2.2.2.2.2.2.2.1
theorem dF_183 : ∀ pc, dF pc 183 = rd2 Instr.invokespecial := (Classical.choose_spec F_ex).2.2.2.2.2.2.2.2.2.2.2.2.2.2.2.2.2.2.2.2.2.2.2.2.2.2.2.2.2.2.2.2.2.2.2.2.2.2.2.2.2.2.2.2.2.2.2.2.2.2.2.2.2.2.2.2.2.2.2.2.2.2.2.2.2.2.2.2.2.2.2.2.2.2.2.2.2.2.2.2.2.2.2.2.2.2.2.2.2.2.2.2.2.2.2.2.2.2.2.2.2.2.2.2.2.1
theorem dF_184 : ∀ pc, dF pc 184 = rd2 Instr.invokestatic := (Classical.choose_spec F_ex).2.2.2.2.2.2.2.2.2.2.2.2.2.2.2.2.2.2.2.2.2.2.2.2.2.2.2.2.2.2.2.2.2.2.2.2.2.2.2.2.2.2.2.2.2.2.2.2.2.2.2.2.2.2.2.2.2.2.2.2.2.2.2.2.2.2.2.2.2.2.2.2.2.2.2.2.2.2.2.2.2.2.2.2.2.2.2.2.2.2.2.2.2.2.2.2.2.2.2.2.2.2.2.2.2.2.1
theorem dF_187 : ∀ pc, dF pc 187 = rd2 Instr.new := (Classical.choose_spec F_ex).2.2.2.2.2.2.2.2.2.2.2.2.2.2.2.2.2.2.2.2.2.2.2.2.2.2.2.2.2.2.2.2.2.2.2.2.2.2.2.2.2.2.2.2.2.2.2.2.2.2.2.2.2.2.2.2.2.2.2.2.2.2.2.2.2.2.2.2.2.2.2.2.2.2.2.2.2.2.2.2.2.2.2.2.2.2.2.2.2.2.2.2.2.2.2.2.2.2.2.2.2.2.2.2.2.2.2.1
theorem dF_189 : ∀ pc, dF pc 189 = rd2 Instr.anewarray := (Classical.choose_spec F_ex).2.2.2.2.2.2.2.2.2.2.2.2.2.2.2.2.2.2.2.2.2.2.2.2.2.2.2.2.2.2.2.2.2.2.2.2.2.2.2.2.2.2.2.2.2.2.2.2.2.2.2.2.2.2.2.2.2.2.2.2.2.2.2.2.2.2.2.2.2.2.2.2.2.2.2.2.2.2.2.2.2.2.2.2.2.2.2.2.2.2.2.2.2.2.2.2.2.2.2.2.2.2.2.2.2.2.2.2.1
theorem dF_190 : ∀ pc, dF pc 190 = rdP Instr.arraylength := (Classical.choose_spec F_ex).2.2.2.2.2.2.2.2.2.2.2.2.2.2.2.2.2.2.2.2.2.2.2.2.2.2.2.2.2.2.2.2.2.2.2.2.2.2.2.2.2.2.2.2.2.2.2.2.2.2.2.2.2.2.2.2.2.2.2.2.2.2.2.2.2.2.2.2.2.2.2.2.2.2.2.2.2.2.2.2.2.2.2.2.2.2.2.2.2.2.2.2.2.2.2.2.2.2.2.2.2.2.2.2.2.2.2.2.2.1
theorem dF_191 : ∀ pc, dF pc 191 = rdP Instr.athrow := (Classical.choose_spec F_ex).2.2.2.2.2.2.2.2.2.2.2.2.2.2.2.2.2.2.2.2.2.2.2.2.2.2.2.2.2.2.2.2.2.2.2.2.2.2.2.2.2.2.2.2.2.2.2.2.2.2.2.2.2.2.2.2.2.2.2.2.2.2.2.2.2.2.2.2.2.2.2.2.2.2.2.2.2.2.2.2.2.2.2.2.2.2.2.2.2.2.2.2.2.2.2.2.2.2.2.2.2.2.2.2.2.2.2.2.2.2.1
theorem dF_192 : ∀ pc, dF pc 192 = rd2 Instr.checkcast := (Classical.choose_spec F_ex).2.2.2.2.2.2.2.2.2.2.2.2.2.2.2.2.2.2.2.2.2.2.2.2.2.2.2.2.2.2.2.2.2.2.2.2.2.2.2.2.2.2.2.2.2.2.2.2.2.2.2.2.2.2.2.2.2.2.2.2.2.2.2.2.2.2.2.2.2.2.2.2.2.2.2.2.2.2.2.2.2.2.2.2.2.2.2.2.2.2.2.2.2.2.2.2.2.2.2.2.2.2.2.2.2.2.2.2.2.2.2.1
theorem dF_198 : ∀ pc, dF pc 198 = rdS Instr.ifnull := (Classical.choose_spec F_ex).2.2.2.2.2.2.2.2.2.2.2.2.2.2.2.2.2.2.2.2.2.2.2.2.2.2.2.2.2.2.2.2.2.2.2.2.2.2.2.2.2.2.2.2.2.2.2.2.2.2.2.2.2.2.2.2.2.2.2.2.2.2.2.2.2.2.2.2.2.2.2.2.2.2.2.2.2.2.2.2.2.2.2.2.2.2.2.2.2.2.2.2.2.2.2.2.2.2.2.2.2.2.2.2.2.2.2.2.2.2.2.2.1
theorem dF_199 : ∀ pc, dF pc 199 = rdS Instr.ifnonnull := (Classical.choose_spec F_ex).2.2.2.2.2.2.2.2.2.2.2.2.2.2.2.2.2.2.2.2.2.2.2.2.2.2.2.2.2.2.2.2.2.2.2.2.2.2.2.2.2.2.2.2.2.2.2.2.2.2.2.2.2.2.2.2.2.2.2.2.2.2.2.2.2.2.2.2.2.2.2.2.2.2.2.2.2.2.2.2.2.2.2.2.2.2.2.2.2.2.2.2.2.2.2.2.2.2.2.2.2.2.2.2.2.2.2.2.2.2.2.2.2.1
theorem dF_132 : ∀ pc, dF pc 132 = rdI := (Classical.choose_spec F_ex).2.2.2.2.2.2.2.2.2.2.2.2.2.2.2.2.2.2.2.2.2.2.2.2.2.2.2.2.2.2.2.2.2.2.2.2.2.2.2.2.2.2.2.2.2.2.2.2.2.2.2.2.2.2.2.2.2.2.2.2.2.2.2.2.2.2.2.2.2.2.2.2.2.2.2.2.2.2.2.2.2.2.2.2.2.2.2.2.2.2.2.2.2.2.2.2.2.2.2.2.2.2.2.2.2.2.2.2.2.2.2.2.2.2.1
theorem dF_188 : ∀ pc, dF pc 188 = Decoder.newarray pc := (Classical.choose_spec F_ex).2.2.2.2.2.2.2.2.2.2.2.2.2.2.2.2.2.2.2.2.2.2.2.2.2.2.2.2.2.2.2.2.2.2.2.2.2.2.2.2.2.2.2.2.2.2.2.2.2.2.2.2.2.2.2.2.2.2.2.2.2.2.2.2.2.2.2.2.2.2.2.2.2.2.2.2.2.2.2.2.2.2.2.2.2.2.2.2.2.2.2.2.2.2.2.2.2.2.2.2.2.2.2.2.2.2.2.2.2.2.2.2.2.2.2
theorem dkI {code : ByteArray} {L : DcT} (D : dcOk code L) {i q n : Nat} {k : Int} {b a a2 : UInt8} (hi : L[i]? = some (q, [b, a, a2])) (hop : b.toNat = 132) (hn : a.toNat = n) (hk : Reader.signed 8 a2.toNat = k) : decode code q = .ok (.iinc n k, 3) := by
  subst hn; subst hk
  have h := dec_run (code := code) (pc := q) (i := Instr.iinc a.toNat (Reader.signed 8 a2.toNat)) (nx := q + 1 + 1 + 1) (dcB D hi 0 rfl) hop (by
    rw [dF_132]
    simp only [rdI, bind, ReaderT.bind, StateT.bind, Except.bind, u1_at (dcB D hi 1 rfl), s1_at (dcB D hi 2 rfl)]
    rfl)
  rwa [show q + 1 + 1 + 1 - q = 3 by omega] at h
theorem dkN {code : ByteArray} {L : DcT} (D : dcOk code L) {i q n : Nat} {t : ArrayType} {b a : UInt8} (hi : L[i]? = some (q, [b, a])) (hop : b.toNat = 188) (hn : a.toNat = n) (ht : n = 4 ∧ t = .boolean ∨ n = 8 ∧ t = .byte ∨ n = 10 ∧ t = .int ∨ n = 11 ∧ t = .long) : decode code q = .ok (.newarray t, 2) := by
  subst hn
  have h := dec_run (code := code) (pc := q) (i := Instr.newarray t) (nx := q + 1 + 1) (dcB D hi 0 rfl) hop (by
    rw [dF_188]
    simp only [Decoder.newarray, bind, ReaderT.bind, StateT.bind, Except.bind, u1_at (dcB D hi 1 rfl)]
    rcases ht with ⟨h, rfl⟩ | ⟨h, rfl⟩ | ⟨h, rfl⟩ | ⟨h, rfl⟩ <;> rw [h] <;> rfl)
  rwa [show q + 1 + 1 - q = 2 by omega] at h
