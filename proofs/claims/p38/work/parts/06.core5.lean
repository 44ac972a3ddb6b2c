theorem fk_of {sh : List ShE} {i k ci t j : Nat} {fs : List (Nat × Nat)} (h : sh[i]? = some (0, ci, fs)) (hf : fs[k]? = some (t, j)) : fk sh i k = some (ci, t, j) := by
  unfold fk; rw [h]; simp only; rw [hf]; rfl
theorem ak_of {sh : List ShE} {i t n : Nat} {fs : List (Nat × Nat)} (h : sh[i]? = some (t, n, fs)) : ak sh i = some (t, n) := by unfold ak; rw [h]; rfl
theorem rk_of {sh : List ShE} {i N t n j k : Nat} {fs : List (Nat × Nat)} (h : sh[i]? = some (t, n, fs)) (hf : fs[N]? = some (k, j)) : rk sh i N = some (t, n, j) := by
  unfold rk; rw [h]; simp only; rw [hf]; rfl
/-- numbers are copied from a row of ints into another -/
def sCp (σ : Sg) (i j sp dp n : Nat) : Sg := (fun a => if a = j then va_cpy (σ.1 i) (σ.1 j) sp dp n else σ.1 a, σ.2.1, σ.2.2)
def sCl (σ : Sg) (i j sp dp n : Nat) : Sg := (σ.1, fun a => if a = j then va_cpy (σ.2.1 i) (σ.2.1 j) sp dp n else σ.2.1 a, σ.2.2)
theorem sCp_off {σ : Sg} {i j sp dp n : Nat} : ∀ k, k ≠ j → (sCp σ i j sp dp n).1 k = σ.1 k ∧ (sCp σ i j sp dp n).2.1 k = σ.2.1 k ∧ (sCp σ i j sp dp n).2.2 k = σ.2.2 k := fun _ h => ⟨by simp [sCp, h], rfl, rfl⟩
theorem sCl_off {σ : Sg} {i j sp dp n : Nat} : ∀ k, k ≠ j → (sCl σ i j sp dp n).1 k = σ.1 k ∧ (sCl σ i j sp dp n).2.1 k = σ.2.1 k ∧ (sCl σ i j sp dp n).2.2 k = σ.2.2 k := fun _ h => ⟨rfl, by simp [sCl, h], rfl⟩
theorem sCp_o {σ : Sg} {i j sp dp n k : Nat} (h : k ≠ j) : (sCp σ i j sp dp n).1 k = σ.1 k := (sCp_off k h).1
theorem sI_o {σ : Sg} {i k c : Nat} {v : Int32} (h : c ≠ i) : (sI σ i k v).1 c = σ.1 c := u2_row _ _ _ h
theorem rd_n {σ : Sg} {i k a b : Nat} {v : Int32} (h : a ≠ i ∨ b ≠ k) : (sI σ i k v).1 a b = σ.1 a b := by
  simp only [sI, u2]; rw [if_neg (by omega)]
theorem rd_s {σ : Sg} {i k : Nat} {v : Int32} : (sI σ i k v).1 i k = v := u2_self _ _ _ _
theorem rp_n {σ : Sg} {i k a b : Nat} {v : Option Nat} (h : a ≠ i ∨ b ≠ k) : (sP σ i k v).2.2 a b = σ.2.2 a b := by
  simp only [sP, u2]; rw [if_neg (by omega)]
theorem rp_s {σ : Sg} {i k : Nat} {v : Option Nat} : (sP σ i k v).2.2 i k = v := u2_self _ _ _ _
def ACw (own : String) (index : Nat) : Prop := Cond.methodLink own index arraycopyName ∈ lw_gd ∧ Cond.native arraycopyName ∈ lw_gd ∧ Cond.static arraycopyName ∈ lw_gd ∧ Cond.initialized "java/lang/System" ∈ lw_gd
theorem z_cpi {p : Program} {l : Launch} {e : Env} {R : Room} {s : State} {m : MethodId} {args : Array Value} {below : List Frame} {meth : Method} {c : Code} {H : Heap} {locs : List Loc} {cells slots : Nat} {Q : State → Prop}
    {cc : ByteArray} {nL : Nat} {own : String} {pc : Nat} {ls : Array Slot} {rest : List Value} {G : va_G} {kc : KC} {A : Nat → Prop} {H0 : Heap} {sh : List ShE} {ad : Nat → Nat} {σ : Sg} {index : Nat}
    (C0 : Cx G kc p s m c args cc nL own) (hw : St G kc A H0 sh ad σ H locs) (i j sp dp n : Nat) {n0 n1 : Nat} (hi : ak sh i = some (1, n0)) (hj : ak sh j = some (1, n1)) (hl : ACw own index) (hsz : ls.size = nL) (h4 : sp + n ≤ n0) (h5 : dp + n ≤ n1) (hb0 : n0 < 2 ^ 31) (hb1 : n1 < 2 ^ 31) (hfr : 1 ≤ R.frames) (hlo : 26 ≤ R.locals) (hrest : (rest.map fun v => v.category).sum ≤ 8) (hdg : decode cc pc = .ok (.invokestatic index, 3))
    (kk : ∀ (H1 : Heap) (locs1 : List Loc), St G kc A H0 sh ad (sCp σ i j sp dp n) H1 locs1 → W p l e R s m args below meth c H1 locs1 cells slots Q (F0 m (pc + 3) ls rest)) : W p l e R s m args below meth c H locs cells slots Q (F0 m pc ls (.int (nI n) :: .int (nI dp) :: .ref (ad j) :: .int (nI sp) :: .ref (ad i) :: rest)) := by
  obtain ⟨hx, hb, hml, hown, hts, hK, -⟩ := C0
  obtain ⟨hP, hD, hS, hA⟩ := hw
  obtain ⟨fs, h1⟩ := ak_inv hi
  obtain ⟨fs2, h2⟩ := ak_inv hj
  obtain ⟨w1, w2, w3, w4⟩ := hl
  have c1 : (nI sp).toNatClampNeg = sp := nI_clamp (by omega)
  have c2 : (nI dp).toNatClampNeg = dp := nI_clamp (by omega)
  have c3 : (nI n).toNatClampNeg = n := nI_clamp (by omega)
  refine va_copyi (ty := .int) hx hb (hml.trans hsz.symm) hown (hts _ w1) (hts _ w2) (hts _ w3) (hts _ w4) hK hP hD hS i j 0 0 (WW_get h1) (WW_get h2) rfl rfl rfl (nI_pos (by omega)) (nI_pos (by omega)) (nI_pos (by omega)) (by rw [c1, c3]; exact h4) (by rw [c2, c3]; exact h5) (fun _ _ => rfl) hfr (by rw [show nativeFrameWords "java/lang/System" "arraycopy" 5 = 7 from by decide]; omega) hdg (fun H1 locs1 a1 a2 a3 => ?_)
  rw [c1, c2, c3] at a1 a2
  have e1 : (WW kc sh ad σ).set j (ad j, .inl (kc.1 0, n1, .inl (va_cpy (σ.1 i) (σ.1 j) sp dp n))) = WW kc sh ad (sCp σ i j sp dp n) := by
    have := WW_set (kc := kc) (ad := ad) (σ := σ) (σ' := sCp σ i j sp dp n) h2 sCp_off
    rw [← this]
    simp [ce, sCp]
  refine kk H1 locs1 ⟨by rw [← e1]; exact a1, by rw [← e1]; exact a2, a3, hA⟩
