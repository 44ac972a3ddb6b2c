/-! CORE 4: numbers; rows at a known index -/
theorem fa_lit (n : Nat) : (OfNat.ofNat n : Int32) = nI n := rfl
section ZN
variable {p : Program} {l : Launch} {e : Env} {R : Room} {s : State} {m : MethodId} {args : Array Value} {below : List Frame} {meth : Method} {c : Code} {H : Heap} {locs : List Loc} {cells slots : Nat} {Q : State → Prop}
variable {cc : ByteArray} {nL : Nat} {own : String} {pc : Nat} {ls : Array Slot} {rest : List Value} {G : va_G} {kc : KC} {A : Nat → Prop} {H0 : Heap} {sh : List ShE} {ad : Nat → Nat} {σ : Sg} {index : Nat}
theorem z_top {x y : Int32} (h : x = y) (k : W p l e R s m args below meth c H locs cells slots Q (F0 m pc ls (.int y :: rest))) : W p l e R s m args below meth c H locs cells slots Q (F0 m pc ls (.int x :: rest)) := by rw [h]; exact k
theorem z_ialdN (C0 : Cx G kc p s m c args cc nL own) (hw : St G kc A H0 sh ad σ H locs) (i N : Nat) {n : Nat} (hf : ak sh i = some (1, n)) (hN : N < n) (hn : n < 2 ^ 31) (hdg : decode cc pc = .ok (.iaload, 1))
    (kk : W p l e R s m args below meth c H locs cells slots Q (F0 m (pc + 1) ls (.int (σ.1 i N) :: rest))) : W p l e R s m args below meth c H locs cells slots Q (F0 m pc ls (.int (nI N) :: .ref (ad i) :: rest)) :=
  z_iald C0 hw i hf (vp_in_nI hN hn) hdg (by rw [nI_clamp (Nat.lt_trans hN hn)]; exact kk)
theorem z_baldN (C0 : Cx G kc p s m c args cc nL own) (hw : St G kc A H0 sh ad σ H locs) (i N : Nat) {n : Nat} (hf : ak sh i = some (2, n)) (hN : N < n) (hn : n < 2 ^ 31) (hdg : decode cc pc = .ok (.baload, 1))
    (kk : W p l e R s m args below meth c H locs cells slots Q (F0 m (pc + 1) ls (.int (σ.1 i N) :: rest))) : W p l e R s m args below meth c H locs cells slots Q (F0 m pc ls (.int (nI N) :: .ref (ad i) :: rest)) :=
  z_bald C0 hw i hf (vp_in_nI hN hn) hdg (by rw [nI_clamp (Nat.lt_trans hN hn)]; exact kk)
theorem z_zaldN (C0 : Cx G kc p s m c args cc nL own) (hw : St G kc A H0 sh ad σ H locs) (i N : Nat) {n : Nat} (hf : ak sh i = some (3, n)) (hN : N < n) (hn : n < 2 ^ 31) (hdg : decode cc pc = .ok (.baload, 1))
    (kk : W p l e R s m args below meth c H locs cells slots Q (F0 m (pc + 1) ls (.int (σ.1 i N) :: rest))) : W p l e R s m args below meth c H locs cells slots Q (F0 m pc ls (.int (nI N) :: .ref (ad i) :: rest)) :=
  z_zald C0 hw i hf (vp_in_nI hN hn) hdg (by rw [nI_clamp (Nat.lt_trans hN hn)]; exact kk)
theorem z_laldN (C0 : Cx G kc p s m c args cc nL own) (hw : St G kc A H0 sh ad σ H locs) (i N : Nat) {n : Nat} (hf : ak sh i = some (4, n)) (hN : N < n) (hn : n < 2 ^ 31) (hdg : decode cc pc = .ok (.laload, 1))
    (kk : W p l e R s m args below meth c H locs cells slots Q (F0 m (pc + 1) ls (.long (σ.2.1 i N) :: rest))) : W p l e R s m args below meth c H locs cells slots Q (F0 m pc ls (.int (nI N) :: .ref (ad i) :: rest)) :=
  z_lald C0 hw i hf (vp_in_nI hN hn) hdg (by rw [nI_clamp (Nat.lt_trans hN hn)]; exact kk)
theorem z_iastN (C0 : Cx G kc p s m c args cc nL own) (hw : St G kc A H0 sh ad σ H locs) (i N : Nat) {n : Nat} {v : Int32} (hf : ak sh i = some (1, n)) (hN : N < n) (hn : n < 2 ^ 31) (hdg : decode cc pc = .ok (.iastore, 1))
    (kk : ∀ (H1 : Heap) (locs1 : List Loc), St G kc A H0 sh ad (sI σ i N v) H1 locs1 → W p l e R s m args below meth c H1 locs1 cells slots Q (F0 m (pc + 1) ls rest)) : W p l e R s m args below meth c H locs cells slots Q (F0 m pc ls (.int v :: .int (nI N) :: .ref (ad i) :: rest)) :=
  z_iast C0 hw i hf (vp_in_nI hN hn) hdg (by rw [nI_clamp (Nat.lt_trans hN hn)]; exact kk)
theorem z_bastN (C0 : Cx G kc p s m c args cc nL own) (hw : St G kc A H0 sh ad σ H locs) (i N : Nat) {n : Nat} {v : Int32} (hf : ak sh i = some (2, n)) (hN : N < n) (hn : n < 2 ^ 31) (hdg : decode cc pc = .ok (.bastore, 1))
    (kk : ∀ (H1 : Heap) (locs1 : List Loc), St G kc A H0 sh ad (sI σ i N v.toInt8.toInt32) H1 locs1 → W p l e R s m args below meth c H1 locs1 cells slots Q (F0 m (pc + 1) ls rest)) : W p l e R s m args below meth c H locs cells slots Q (F0 m pc ls (.int v :: .int (nI N) :: .ref (ad i) :: rest)) :=
  z_bast C0 hw i hf (vp_in_nI hN hn) hdg (by rw [nI_clamp (Nat.lt_trans hN hn)]; exact kk)
theorem z_zastN (C0 : Cx G kc p s m c args cc nL own) (hw : St G kc A H0 sh ad σ H locs) (i N : Nat) {n : Nat} {v : Int32} (hf : ak sh i = some (3, n)) (hv : v = 0 ∨ v = 1) (hN : N < n) (hn : n < 2 ^ 31) (hdg : decode cc pc = .ok (.bastore, 1))
    (kk : ∀ (H1 : Heap) (locs1 : List Loc), St G kc A H0 sh ad (sI σ i N v) H1 locs1 → W p l e R s m args below meth c H1 locs1 cells slots Q (F0 m (pc + 1) ls rest)) : W p l e R s m args below meth c H locs cells slots Q (F0 m pc ls (.int v :: .int (nI N) :: .ref (ad i) :: rest)) :=
  z_zast C0 hw i hf hv (vp_in_nI hN hn) hdg (by rw [nI_clamp (Nat.lt_trans hN hn)]; exact kk)
theorem z_lastN (C0 : Cx G kc p s m c args cc nL own) (hw : St G kc A H0 sh ad σ H locs) (i N : Nat) {n : Nat} {v : Int64} (hf : ak sh i = some (4, n)) (hN : N < n) (hn : n < 2 ^ 31) (hdg : decode cc pc = .ok (.lastore, 1))
    (kk : ∀ (H1 : Heap) (locs1 : List Loc), St G kc A H0 sh ad (sL σ i N v) H1 locs1 → W p l e R s m args below meth c H1 locs1 cells slots Q (F0 m (pc + 1) ls rest)) : W p l e R s m args below meth c H locs cells slots Q (F0 m pc ls (.long v :: .int (nI N) :: .ref (ad i) :: rest)) :=
  z_last C0 hw i hf (vp_in_nI hN hn) hdg (by rw [nI_clamp (Nat.lt_trans hN hn)]; exact kk)
end ZN
theorem ta_lt (a b : Int32) : a < b ↔ a.toInt < b.toInt := Int32.lt_iff_toInt_lt
theorem ta_le (a b : Int32) : a ≤ b ↔ a.toInt ≤ b.toInt := Int32.le_iff_toInt_le
theorem ta_eq (a b : Int32) : a = b ↔ a.toInt = b.toInt := Int32.toInt_inj.symm
theorem tb_lt (a b : Int64) : a < b ↔ a.toInt < b.toInt := Int64.lt_iff_toInt_lt
theorem tb_le (a b : Int64) : a ≤ b ↔ a.toInt ≤ b.toInt := Int64.le_iff_toInt_le
theorem tb_eq (a b : Int64) : a = b ↔ a.toInt = b.toInt := Int64.toInt_inj.symm
theorem tw (a : Int32) : a.toInt64.toInt = a.toInt := Int32.toInt_toInt64 a
theorem tl32 (n : Nat) (h : n < 2147483648) : (OfNat.ofNat n : Int32).toInt = (n : Int) := nI_toInt (n := n) h
theorem tn32 (n : Nat) (h : n < 2147483648) : (-(OfNat.ofNat n : Int32)).toInt = -(n : Int) := sb_negT (w := n) h
theorem tl64 (n : Nat) (h : n < 9223372036854775808) : (OfNat.ofNat n : Int64).toInt = (n : Int) := pk_lT (n := n) h
theorem tnI (n : Nat) (h : n < 2147483648) : (nI n).toInt = (n : Int) := nI_toInt h
theorem tn64 : ((-1 : Int64)).toInt = -1 := by decide
theorem tnj (n : Nat) (h : n < 2147483648) : (-(OfNat.ofNat n : Int64)).toInt = -(n : Int) := by
  have h1 : (OfNat.ofNat n : Int64).toInt = (n : Int) := tl64 n (by omega)
  rw [Int64.toInt_neg, h1]
  rw [Int.bmod_eq_of_le] <;> omega
theorem to_nat {x : Int32} {n : Nat} (h : 0 ≤ x.toInt ∧ x.toInt < n) : ∃ k : Nat, k < n ∧ x = nI k := by
  obtain ⟨j, hj, e⟩ := nI_of (x := x) (by rw [ta_lt, tl32 0 (by decide)]; omega)
  subst e
  refine ⟨j, ?_, rfl⟩
  have := h.2
  rw [tnI j hj] at this
  omega
theorem z0r (x : Int32) : (0 : Int32) >>> x = 0 := by apply Int32.toBitVec_inj.mp; simp
theorem z0l (x : Int32) : (0 : Int32) <<< x = 0 := by apply Int32.toBitVec_inj.mp; simp
theorem z0a (x : Int32) : (0 : Int32) &&& x = 0 := by apply Int32.toBitVec_inj.mp; simp
