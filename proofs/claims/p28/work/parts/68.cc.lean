theorem fitB {x : Int32} (h : 0 ≤ x.toInt ∧ x.toInt ≤ ((23 : Nat) : Int)) : fits .byte (.int x) = true := by
  obtain ⟨n, hn, e⟩ := rngN h
  have h2 := pk_fb (nI n)
  rw [i2b_nI (by omega)] at h2
  rw [e]
  exact h2
theorem z_cpb {p : Program} {l : Launch} {e : Env} {R : Room} {s : State} {m : MethodId} {args : Array Value} {below : List Frame} {meth : Method} {c : Code} {H : Heap} {locs : List Loc} {cells slots : Nat} {Q : State → Prop}
    {cc : ByteArray} {nL : Nat} {own : String} {pc : Nat} {ls : Array Slot} {rest : List Value} {G : va_G} {kc : KC} {A : Nat → Prop} {H0 : Heap} {sh : List ShE} {ad : Nat → Nat} {σ : Sg} {index : Nat}
    (C0 : Cx G kc p s m c args cc nL own) (hw : St G kc A H0 sh ad σ H locs) (i j sp dp n : Nat) {n0 n1 : Nat} (hi : ak sh i = some (2, n0)) (hj : ak sh j = some (2, n1)) (hl : ACw own index) (hr : ∀ k, 0 ≤ (σ.1 i k).toInt ∧ (σ.1 i k).toInt ≤ 23) (hsz : ls.size = nL) (h4 : sp + n ≤ n0) (h5 : dp + n ≤ n1) (hb0 : n0 < 2 ^ 31) (hb1 : n1 < 2 ^ 31) (hfr : 1 ≤ R.frames) (hlo : 26 ≤ R.locals) (hrest : (rest.map fun v => v.category).sum ≤ 8) (hdg : decode cc pc = .ok (.invokestatic index, 3))
    (kk : ∀ (H1 : Heap) (locs1 : List Loc), St G kc A H0 sh ad (sCp σ i j sp dp n) H1 locs1 → W p l e R s m args below meth c H1 locs1 cells slots Q (F0 m (pc + 3) ls rest)) : W p l e R s m args below meth c H locs cells slots Q (F0 m pc ls (.int (nI n) :: .int (nI dp) :: .ref (ad j) :: .int (nI sp) :: .ref (ad i) :: rest)) := by
  obtain ⟨hx, hb, hml, hown, hts, hK, -⟩ := C0
  obtain ⟨hP, hD, hS, hA⟩ := hw
  obtain ⟨fs, h1⟩ := ak_inv hi
  obtain ⟨fs2, h2⟩ := ak_inv hj
  obtain ⟨w1, w2, w3, w4⟩ := hl
  have c1 : (nI sp).toNatClampNeg = sp := nI_clamp (by omega)
  have c2 : (nI dp).toNatClampNeg = dp := nI_clamp (by omega)
  have c3 : (nI n).toNatClampNeg = n := nI_clamp (by omega)
  refine va_copyi (ty := .byte) hx hb (hml.trans hsz.symm) hown (hts _ w1) (hts _ w2) (hts _ w3) (hts _ w4) hK hP hD hS i j 1 1 (WW_get h1) (WW_get h2) rfl rfl rfl (nI_pos (by omega)) (nI_pos (by omega)) (nI_pos (by omega)) (by rw [c1, c3]; exact h4) (by rw [c2, c3]; exact h5) (fun _ _ => fitB (hr _)) hfr (by rw [show nativeFrameWords "java/lang/System" "arraycopy" 5 = 7 from by decide]; omega) hdg (fun H1 locs1 a1 a2 a3 => ?_)
  rw [c1, c2, c3] at a1 a2
  have e1 : (WW kc sh ad σ).set j (ad j, .inl (kc.1 1, n1, .inl (va_cpy (σ.1 i) (σ.1 j) sp dp n))) = WW kc sh ad (sCp σ i j sp dp n) := by
    have := WW_set (kc := kc) (ad := ad) (σ := σ) (σ' := sCp σ i j sp dp n) h2 sCp_off
    rw [← this]
    simp [ce, sCp]
  refine kk H1 locs1 ⟨by rw [← e1]; exact a1, by rw [← e1]; exact a2, a3, hA⟩
theorem z_cpl {p : Program} {l : Launch} {e : Env} {R : Room} {s : State} {m : MethodId} {args : Array Value} {below : List Frame} {meth : Method} {c : Code} {H : Heap} {locs : List Loc} {cells slots : Nat} {Q : State → Prop}
    {cc : ByteArray} {nL : Nat} {own : String} {pc : Nat} {ls : Array Slot} {rest : List Value} {G : va_G} {kc : KC} {A : Nat → Prop} {H0 : Heap} {sh : List ShE} {ad : Nat → Nat} {σ : Sg} {index : Nat}
    (C0 : Cx G kc p s m c args cc nL own) (hw : St G kc A H0 sh ad σ H locs) (i j sp dp n : Nat) {n0 n1 : Nat} (hi : ak sh i = some (4, n0)) (hj : ak sh j = some (4, n1)) (hl : ACw own index) (hsz : ls.size = nL) (h4 : sp + n ≤ n0) (h5 : dp + n ≤ n1) (hb0 : n0 < 2 ^ 31) (hb1 : n1 < 2 ^ 31) (hfr : 1 ≤ R.frames) (hlo : 26 ≤ R.locals) (hrest : (rest.map fun v => v.category).sum ≤ 8) (hdg : decode cc pc = .ok (.invokestatic index, 3))
    (kk : ∀ (H1 : Heap) (locs1 : List Loc), St G kc A H0 sh ad (sCl σ i j sp dp n) H1 locs1 → W p l e R s m args below meth c H1 locs1 cells slots Q (F0 m (pc + 3) ls rest)) : W p l e R s m args below meth c H locs cells slots Q (F0 m pc ls (.int (nI n) :: .int (nI dp) :: .ref (ad j) :: .int (nI sp) :: .ref (ad i) :: rest)) := by
  obtain ⟨hx, hb, hml, hown, hts, hK, -⟩ := C0
  obtain ⟨hP, hD, hS, hA⟩ := hw
  obtain ⟨fs, h1⟩ := ak_inv hi
  obtain ⟨fs2, h2⟩ := ak_inv hj
  obtain ⟨w1, w2, w3, w4⟩ := hl
  have c1 : (nI sp).toNatClampNeg = sp := nI_clamp (by omega)
  have c2 : (nI dp).toNatClampNeg = dp := nI_clamp (by omega)
  have c3 : (nI n).toNatClampNeg = n := nI_clamp (by omega)
  refine va_copyl (ty := .long) hx hb (hml.trans hsz.symm) hown (hts _ w1) (hts _ w2) (hts _ w3) (hts _ w4) hK hP hD hS i j 3 3 (WW_get h1) (WW_get h2) rfl rfl rfl (nI_pos (by omega)) (nI_pos (by omega)) (nI_pos (by omega)) (by rw [c1, c3]; exact h4) (by rw [c2, c3]; exact h5) (fun _ _ => rfl) hfr (by rw [show nativeFrameWords "java/lang/System" "arraycopy" 5 = 7 from by decide]; omega) hdg (fun H1 locs1 a1 a2 a3 => ?_)
  rw [c1, c2, c3] at a1 a2
  have e1 : (WW kc sh ad σ).set j (ad j, .inl (kc.1 3, n1, .inr (.inl (va_cpy (σ.2.1 i) (σ.2.1 j) sp dp n)))) = WW kc sh ad (sCl σ i j sp dp n) := by
    have := WW_set (kc := kc) (ad := ad) (σ := σ) (σ' := sCl σ i j sp dp n) h2 sCl_off
    rw [← this]
    simp [ce, sCl]
  refine kk H1 locs1 ⟨by rw [← e1]; exact a1, by rw [← e1]; exact a2, a3, hA⟩
set_option maxRecDepth 20000 in
theorem gs_af : Cond.fieldLink RX5 152 "CarriedWorks$Reader" "ALL_FIELDS" "[I" ∈ lw_gd := (gd_t3 117 rfl rfl)
theorem soN : ∀ d, d ∈ soL → 17 ≤ d ∧ (d + 2 ≤ 184 ∨ d = 200 ∨ 257 ≤ d) := by decide +kernel
theorem snN : ∀ d, d ∈ snL → 17 ≤ d ∧ (d + 2 ≤ 184 ∨ d = 208 ∨ 257 ≤ d) := by decide +kernel
def nz (f : Nat → Int32) (a : Nat) : Nat → Nat
  | 0 => 0
  | n + 1 => nz f a n + (if f (a + n) = 0 then 0 else 1)
theorem nz_0 {f : Nat → Int32} {a n : Nat} (h : f (a + n) = 0) : nz f a (n + 1) = nz f a n := by
  show nz f a n + (if f (a + n) = 0 then 0 else 1) = _
  rw [if_pos h]; rfl
theorem nz_1 {f : Nat → Int32} {a n : Nat} (h : ¬ f (a + n) = 0) : nz f a (n + 1) = nz f a n + 1 := by
  show nz f a n + (if f (a + n) = 0 then 0 else 1) = _
  rw [if_neg h]
theorem nz_le {f : Nat → Int32} {a : Nat} : ∀ {n m : Nat}, n ≤ m → nz f a n ≤ nz f a m := by
  intro n m h
  induction h with
  | refl => exact Nat.le_refl _
  | step _ ih => exact Nat.le_trans ih (Nat.le_add_right _ _)
theorem nz_n {f : Nat → Int32} {a : Nat} : ∀ n, nz f a n ≤ n := by
  intro n
  induction n with
  | zero => exact Nat.le_refl _
  | succ n ih =>
    show nz f a n + (if f (a + n) = 0 then 0 else 1) ≤ n + 1
    split <;> omega
theorem shl15 (x k : Int32) (n : Nat) (hn : 4 ≤ n) (h32 : n < 32) (hk : k.toBitVec.smod 32 = BitVec.ofNat 32 n) : (x <<< k) &&& 15 = 0 := by
  apply Int32.toBitVec_inj.1
  rw [Int32.toBitVec_and, Int32.toBitVec_shiftLeft, hk]
  apply BitVec.eq_of_getLsbD_eq
  intro i hi
  have e1 : (BitVec.ofNat 32 n).toNat = n := by rw [BitVec.toNat_ofNat]; exact Nat.mod_eq_of_lt (by omega)
  have e2 : (15 : Int32).toBitVec = 15#32 := rfl
  have e3 : (0 : Int32).toBitVec = 0#32 := rfl
  rw [e2, e3, BitVec.getLsbD_and, BitVec.shiftLeft_eq', e1, BitVec.getLsbD_shiftLeft]
  by_cases h : i < n
  · simp [h]
  · have h15 : (15#32).getLsbD i = false := by
      rw [BitVec.getLsbD_ofNat]
      have : Nat.testBit 15 i = false := Nat.testBit_lt_two_pow (Nat.lt_of_lt_of_le (by decide : 15 < 2 ^ 4) (Nat.pow_le_pow_right (by decide) (by omega)))
      rw [this]; simp
    rw [h15]; simp
theorem shl15t (x : Int32) : ∀ t, t ≤ 8 → (x <<< (nI (4 + 3 * t) &&& 31)) &&& 15 = 0 := by
  intro t ht
  rcases (by omega : t = 0 ∨ t = 1 ∨ t = 2 ∨ t = 3 ∨ t = 4 ∨ t = 5 ∨ t = 6 ∨ t = 7 ∨ t = 8) with rfl | rfl | rfl | rfl | rfl | rfl | rfl | rfl | rfl
  · exact shl15 x _ 4 (by decide) (by decide) (by decide)
  · exact shl15 x _ 7 (by decide) (by decide) (by decide)
  · exact shl15 x _ 10 (by decide) (by decide) (by decide)
  · exact shl15 x _ 13 (by decide) (by decide) (by decide)
  · exact shl15 x _ 16 (by decide) (by decide) (by decide)
  · exact shl15 x _ 19 (by decide) (by decide) (by decide)
  · exact shl15 x _ 22 (by decide) (by decide) (by decide)
  · exact shl15 x _ 25 (by decide) (by decide) (by decide)
  · exact shl15 x _ 28 (by decide) (by decide) (by decide)
theorem oa15 (a b : Int32) : (a ||| b) &&& 15 = (a &&& 15) ||| (b &&& 15) := by
  apply Int32.toBitVec_inj.1
  show (a.toBitVec ||| b.toBitVec) &&& (15 : Int32).toBitVec = (a.toBitVec &&& (15 : Int32).toBitVec) ||| (b.toBitVec &&& (15 : Int32).toBitVec)
  apply BitVec.eq_of_getLsbD_eq
  intro i hi
  simp [Bool.and_or_distrib_right]
theorem or15 {s v x : Int32} {t : Nat} (h : s &&& 15 = 0) (hv : v = s ||| (x <<< (nI (4 + 3 * t) &&& 31))) (ht : t ≤ 8) : v &&& 15 = 0 := by
  rw [hv, oa15, h, shl15t x t ht]; rfl
theorem nI15 : ∀ t, t ≤ 8 → nI t &&& 15 = nI t := by decide
theorem or15t {s : Int32} {t : Nat} (h : s &&& 15 = 0) (ht : t ≤ 8) : (s ||| nI t) &&& 15 = nI t := by
  rw [oa15, h, nI15 t ht]
  apply Int32.toBitVec_inj.1
  show (0 : Int32).toBitVec ||| (nI t).toBitVec = (nI t).toBitVec
  have e3 : (0 : Int32).toBitVec = 0#32 := rfl
  rw [e3]; simp
