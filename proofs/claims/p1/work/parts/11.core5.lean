/-! CORE 5: cells are made; the shape grows -/
def adU (ad : Nat → Nat) (n q : Nat) : Nat → Nat := fun i => if i = n then q else ad i
def s0N (σ : Sg) (n : Nat) : Sg := (fun i k => if i = n then 0 else σ.1 i k, fun i k => if i = n then 0 else σ.2.1 i k, fun i k => if i = n then none else σ.2.2 i k)
def fOk (n : Nat) (f : Nat × Nat) : Bool := if f.1 = 1 then decide (f.2 < n) else true
def shOk (n : Nat) (sh : List ShE) : Bool := sh.all (fun e => e.2.2.all (fOk n))
def pOk (n : Nat) (σ : Sg) : Prop := ∀ i k q, σ.2.2 i k = some q → q < n
theorem fv_grow {ad : Nat → Nat} {σ : Sg} {i k n q : Nat} {f : Nat × Nat} (hi : i < n) (hf : fOk n f = true) (hp : pOk n σ) : fv (adU ad n q) (s0N σ n) i f k = fv ad σ i f k := by
  obtain ⟨t, j⟩ := f
  have hin : ¬ i = n := by omega
  match t with
  | 0 => simp [fv, s0N, hin]
  | 1 =>
    have hj : j < n := by simpa [fOk] using hf
    simp [fv, adU, show ¬ j = n by omega]
  | 2 =>
    simp only [fv, s0N, if_neg hin]
    cases hs : σ.2.2 i k with
    | none => rfl
    | some w => simp [adU, show ¬ w = n from by have := hp i k w hs; omega]
  | _ + 3 => simp [fv]
theorem ce_grow {kc : Nat → ClassId} {ad : Nat → Nat} {σ : Sg} {i n q : Nat} {e : ShE} (hi : i < n) (he : e.2.2.all (fOk n) = true) (hp : pOk n σ) : ce kc (adU ad n q) (s0N σ n) i e = ce kc ad σ i e := by
  obtain ⟨t, m, fs⟩ := e
  have hin : ¬ i = n := by omega
  have h1 : fl (adU ad n q) (s0N σ n) i fs = fl ad σ i fs := by
    apply List.ext_getElem?
    intro k
    simp only [fl, List.getElem?_mapIdx]
    cases hs : fs[k]? with
    | none => rfl
    | some f => simp [fv_grow hi (List.all_eq_true.mp he f (List.mem_of_getElem? hs)) hp]
  have h2 : (s0N σ n).1 i = σ.1 i := by funext k; simp [s0N, hin]
  have h3 : (s0N σ n).2.1 i = σ.2.1 i := by funext k; simp [s0N, hin]
  have h4 : (fun j => Option.map (adU ad n q) ((s0N σ n).2.2 i j)) = (fun j => Option.map ad (σ.2.2 i j)) := by
    funext j
    simp only [s0N, if_neg hin]
    cases hs : σ.2.2 i j with
    | none => rfl
    | some w => simp [adU, show ¬ w = n from by have := hp i j w hs; omega]
  have h5 : adU ad n q i = ad i := by simp [adU, hin]
  simp only [ce, h1, h2, h3, h4, h5]
theorem WW_grow {kc : Nat → ClassId} {sh : List ShE} {ad : Nat → Nat} {σ : Sg} {q n : Nat} {e : ShE} (hn : sh.length = n) (hs : shOk n sh = true) (hp : pOk n σ) : WW kc (sh ++ [e]) (adU ad n q) (s0N σ n) = WW kc sh ad σ ++ [ce kc (adU ad n q) (s0N σ n) n e] := by
  subst hn
  apply List.ext_getElem?
  intro j
  simp only [WW, List.getElem?_mapIdx]
  by_cases hj : j < sh.length
  · rw [List.getElem?_append_left hj, List.getElem?_append_left (by simpa using hj), List.getElem?_mapIdx]
    cases h2 : sh[j]? with
    | none => rfl
    | some e2 => simp [ce_grow hj (List.all_eq_true.mp hs e2 (List.mem_of_getElem? h2)) hp]
  · rw [List.getElem?_append_right (by omega), List.getElem?_append_right (by simpa using hj)]
    by_cases h3 : j = sh.length
    · subst h3
      simp
    · have h4 : 1 ≤ j - sh.length := by omega
      rw [List.getElem?_eq_none (by simpa using h4), List.getElem?_eq_none (by simpa using h4)]
      rfl
theorem pOk_s0N {n : Nat} {σ : Sg} (h : pOk n σ) : pOk (n + 1) (s0N σ n) := by
  intro i k q hq
  simp only [s0N] at hq
  split at hq
  · cases hq
  · have := h i k q hq
    omega
section ZNEW
variable {p : Program} {l : Launch} {e : Env} {R : Room} {s : State} {m : MethodId} {args : Array Value} {below : List Frame} {meth : Method} {c : Code} {H : Heap} {locs : List Loc} {cells slots : Nat} {Q : State → Prop}
variable {cc : ByteArray} {nL : Nat} {own : String} {pc : Nat} {ls : Array Slot} {rest : List Value} {G : va_G} {kc : Nat → ClassId} {A : Nat → Prop} {H0 : Heap} {sh : List ShE} {ad : Nat → Nat} {σ : Sg} {index : Nat}
theorem z_newai (C0 : Cx G kc p s m c args cc nL own) (hw : St G kc A H0 sh ad σ H locs) (n N : Nat) {x : Int32} (hn : sh.length = n) (hs : shOk n sh = true) (hp : pOk n σ) (harr : Cond.arrayClass .int ∈ lw_gd) (hx0 : ¬ x < 0) (hN : x.toNatClampNeg = N) (hb8 : N * componentBytes .int ≤ 536870912) (hcells : cells + 1 ≤ R.cells) (hslots : slots + N ≤ R.slots) (hdg : decode cc pc = .ok (.newarray .int, 2))
    (kk : ∀ (q : Nat) (H1 : Heap), St G kc A H0 (sh ++ [(1, N, [])]) (adU ad n q) (s0N σ n) H1 locs → W p l e R s m args below meth c H1 locs (cells + 1) (slots + N) Q (F0 m (pc + 2) ls (.ref q :: rest))) : W p l e R s m args below meth c H locs cells slots Q (F0 m pc ls (.int x :: rest)) := by
  obtain ⟨hx, hb, -, -, hts, hK, -⟩ := C0
  obtain ⟨hP, hD, hS, hA⟩ := hw
  refine va_newa (atype := .int) (ty := .int) (a0 := (N, .inl (fun _ => 0))) (N' := N) hx hb (hts _ harr) rfl hK hP hD hS hA (fun cA => by rw [vp_cell_i]; rfl) hx0 hN hb8 hcells hslots hdg (fun q cA H1 hK1 hP1 hD1 hS1 => ?_)
  have e1 : cA = kc 0 := by
    have a1 := va_nm_int (hK1.2 6 (cA, .int) rfl).2
    have a2 := va_nm_int (hK.2 0 (kc 0, .int) rfl).2
    exact Option.some.inj (a1.symm.trans a2)
  subst e1
  have e2 : WW kc (sh ++ [(1, N, [])]) (adU ad n q) (s0N σ n) = WW kc sh ad σ ++ [(q, .inl (kc 0, (N, .inl (fun _ => 0))))] := by
    rw [WW_grow hn hs hp]
    simp [ce, adU, s0N]
  exact kk q H1 ⟨by rw [e2]; exact hP1, by rw [e2]; exact hD1, hS1, hA⟩
theorem z_newab (C0 : Cx G kc p s m c args cc nL own) (hw : St G kc A H0 sh ad σ H locs) (n N : Nat) {x : Int32} (hn : sh.length = n) (hs : shOk n sh = true) (hp : pOk n σ) (harr : Cond.arrayClass .byte ∈ lw_gd) (hx0 : ¬ x < 0) (hN : x.toNatClampNeg = N) (hb8 : N * componentBytes .byte ≤ 536870912) (hcells : cells + 1 ≤ R.cells) (hslots : slots + N ≤ R.slots) (hdg : decode cc pc = .ok (.newarray .byte, 2))
    (kk : ∀ (q : Nat) (H1 : Heap), St G kc A H0 (sh ++ [(2, N, [])]) (adU ad n q) (s0N σ n) H1 locs → W p l e R s m args below meth c H1 locs (cells + 1) (slots + N) Q (F0 m (pc + 2) ls (.ref q :: rest))) : W p l e R s m args below meth c H locs cells slots Q (F0 m pc ls (.int x :: rest)) := by
  obtain ⟨hx, hb, -, -, hts, hK, -⟩ := C0
  obtain ⟨hP, hD, hS, hA⟩ := hw
  refine va_newa (atype := .byte) (ty := .byte) (a0 := (N, .inl (fun _ => 0))) (N' := N) hx hb (hts _ harr) rfl hK hP hD hS hA (fun cA => by rw [vp_cell_i]; rfl) hx0 hN hb8 hcells hslots hdg (fun q cA H1 hK1 hP1 hD1 hS1 => ?_)
  have e1 : cA = kc 1 := by
    have a1 := va_nm_byte (hK1.2 6 (cA, .byte) rfl).2
    have a2 := va_nm_byte (hK.2 1 (kc 1, .byte) rfl).2
    exact Option.some.inj (a1.symm.trans a2)
  subst e1
  have e2 : WW kc (sh ++ [(2, N, [])]) (adU ad n q) (s0N σ n) = WW kc sh ad σ ++ [(q, .inl (kc 1, (N, .inl (fun _ => 0))))] := by
    rw [WW_grow hn hs hp]
    simp [ce, adU, s0N]
  exact kk q H1 ⟨by rw [e2]; exact hP1, by rw [e2]; exact hD1, hS1, hA⟩
theorem z_newaz (C0 : Cx G kc p s m c args cc nL own) (hw : St G kc A H0 sh ad σ H locs) (n N : Nat) {x : Int32} (hn : sh.length = n) (hs : shOk n sh = true) (hp : pOk n σ) (harr : Cond.arrayClass .boolean ∈ lw_gd) (hx0 : ¬ x < 0) (hN : x.toNatClampNeg = N) (hb8 : N * componentBytes .boolean ≤ 536870912) (hcells : cells + 1 ≤ R.cells) (hslots : slots + N ≤ R.slots) (hdg : decode cc pc = .ok (.newarray .boolean, 2))
    (kk : ∀ (q : Nat) (H1 : Heap), St G kc A H0 (sh ++ [(3, N, [])]) (adU ad n q) (s0N σ n) H1 locs → W p l e R s m args below meth c H1 locs (cells + 1) (slots + N) Q (F0 m (pc + 2) ls (.ref q :: rest))) : W p l e R s m args below meth c H locs cells slots Q (F0 m pc ls (.int x :: rest)) := by
  obtain ⟨hx, hb, -, -, hts, hK, -⟩ := C0
  obtain ⟨hP, hD, hS, hA⟩ := hw
  refine va_newa (atype := .boolean) (ty := .boolean) (a0 := (N, .inl (fun _ => 0))) (N' := N) hx hb (hts _ harr) rfl hK hP hD hS hA (fun cA => by rw [vp_cell_i]; rfl) hx0 hN hb8 hcells hslots hdg (fun q cA H1 hK1 hP1 hD1 hS1 => ?_)
  have e1 : cA = kc 2 := by
    have a1 := va_nm_boolean (hK1.2 6 (cA, .boolean) rfl).2
    have a2 := va_nm_boolean (hK.2 2 (kc 2, .boolean) rfl).2
    exact Option.some.inj (a1.symm.trans a2)
  subst e1
  have e2 : WW kc (sh ++ [(3, N, [])]) (adU ad n q) (s0N σ n) = WW kc sh ad σ ++ [(q, .inl (kc 2, (N, .inl (fun _ => 0))))] := by
    rw [WW_grow hn hs hp]
    simp [ce, adU, s0N]
  exact kk q H1 ⟨by rw [e2]; exact hP1, by rw [e2]; exact hD1, hS1, hA⟩
theorem z_newal (C0 : Cx G kc p s m c args cc nL own) (hw : St G kc A H0 sh ad σ H locs) (n N : Nat) {x : Int32} (hn : sh.length = n) (hs : shOk n sh = true) (hp : pOk n σ) (harr : Cond.arrayClass .long ∈ lw_gd) (hx0 : ¬ x < 0) (hN : x.toNatClampNeg = N) (hb8 : N * componentBytes .long ≤ 536870912) (hcells : cells + 1 ≤ R.cells) (hslots : slots + N ≤ R.slots) (hdg : decode cc pc = .ok (.newarray .long, 2))
    (kk : ∀ (q : Nat) (H1 : Heap), St G kc A H0 (sh ++ [(4, N, [])]) (adU ad n q) (s0N σ n) H1 locs → W p l e R s m args below meth c H1 locs (cells + 1) (slots + N) Q (F0 m (pc + 2) ls (.ref q :: rest))) : W p l e R s m args below meth c H locs cells slots Q (F0 m pc ls (.int x :: rest)) := by
  obtain ⟨hx, hb, -, -, hts, hK, -⟩ := C0
  obtain ⟨hP, hD, hS, hA⟩ := hw
  refine va_newa (atype := .long) (ty := .long) (a0 := (N, .inr (.inl (fun _ => 0)))) (N' := N) hx hb (hts _ harr) rfl hK hP hD hS hA (fun cA => by rw [vp_cell_l]; rfl) hx0 hN hb8 hcells hslots hdg (fun q cA H1 hK1 hP1 hD1 hS1 => ?_)
  have e1 : cA = kc 3 := by
    have a1 := va_nm_long (hK1.2 6 (cA, .long) rfl).2
    have a2 := va_nm_long (hK.2 3 (kc 3, .long) rfl).2
    exact Option.some.inj (a1.symm.trans a2)
  subst e1
  have e2 : WW kc (sh ++ [(4, N, [])]) (adU ad n q) (s0N σ n) = WW kc sh ad σ ++ [(q, .inl (kc 3, (N, .inr (.inl (fun _ => 0)))))] := by
    rw [WW_grow hn hs hp]
    simp [ce, adU, s0N]
  exact kk q H1 ⟨by rw [e2]; exact hP1, by rw [e2]; exact hD1, hS1, hA⟩
theorem fl_setF {ad : Nat → Nat} {σ : Sg} {i k j : Nat} {fs : List (Nat × Nat)} (hl : k < fs.length) : (fl ad σ i fs).set k (.ref (ad j)) = fl ad σ i (fs.set k (1, j)) := by
  apply List.ext_getElem?
  intro a
  by_cases ha : a = k
  · subst ha
    rw [List.getElem?_set_self (by simpa [fl] using hl)]
    simp only [fl, List.getElem?_mapIdx, List.getElem?_set_self hl, Option.map_some]
    rfl
  · rw [List.getElem?_set_ne (Ne.symm ha)]
    simp only [fl, List.getElem?_mapIdx, List.getElem?_set_ne (Ne.symm ha)]
theorem WW_sset {kc : Nat → ClassId} {sh : List ShE} {ad : Nat → Nat} {σ : Sg} {i : Nat} {e e' : ShE} (h : sh[i]? = some e) : (WW kc sh ad σ).set i (ce kc ad σ i e') = WW kc (sh.set i e') ad σ := by
  have hl : i < sh.length := (List.getElem?_eq_some_iff.mp h).1
  apply List.ext_getElem?
  intro a
  by_cases ha : a = i
  · subst ha
    rw [List.getElem?_set_self (by simpa [WW] using hl)]
    simp only [WW, List.getElem?_mapIdx, List.getElem?_set_self hl, Option.map_some]
  · rw [List.getElem?_set_ne (Ne.symm ha)]
    simp only [WW, List.getElem?_mapIdx, List.getElem?_set_ne (Ne.symm ha)]
/-- a final field's words, in its own class's constructor -/
def FF (own : String) (index ci k : Nat) (ty : FieldType) : Prop := ∃ (C : String) (T : u_T) (N : Nat) (ty0 : Nat → FieldType), vwCl[ci]? = some (C, T, N) ∧ (∀ w ∈ u_ws C T N, w ∈ lw_gd) ∧ k < N ∧ Cond.fieldLink own index (T k).1 (T k).2.1 (T k).2.2.1 ∈ lw_gd ∧ (∀ k, k < N → parseFieldDescriptor (T k).2.2.1 = some (ty0 k)) ∧ (∀ a, a < N → ∀ b, b < N → a ≠ b → (T a).2.1 ≠ (T b).2.1) ∧ (T k).2.2.2 = true ∧ (T k).1 = own ∧ parseFieldDescriptor (T k).2.2.1 = some ty
/-- a constructor puts the cell j into a final field that was null -/
theorem z_pF (C0 : Cx G kc p s m c args cc nL own) (hnm : meth.name = "<init>") (hw : St G kc A H0 sh ad σ H locs) (i k j : Nat) {ci : Nat} {fs : List (Nat × Nat)} {ty : FieldType} (hi : sh[i]? = some (0, ci, fs)) (hk : k < fs.length) (hl : FF own index ci k ty) (hn : narrow ty (.ref (ad j)) = .ref (ad j)) (hfit : fits ty (.ref (ad j)) = true) (hdg : decode cc pc = .ok (.putfield index, 3))
    (kk : ∀ (H1 : Heap) (locs1 : List Loc), St G kc A H0 (sh.set i (0, ci, fs.set k (1, j))) ad σ H1 locs1 → W p l e R s m args below meth c H1 locs1 cells slots Q (F0 m (pc + 3) ls rest)) : W p l e R s m args below meth c H locs cells slots Q (F0 m pc ls (.ref (ad j) :: .ref (ad i) :: rest)) := by
  obtain ⟨hx, hb, -, hown, hts, hK, hN, -⟩ := C0
  obtain ⟨hP, hD, hS, hA⟩ := hw
  obtain ⟨C, T, N, ty0, hc, hin, hkN, hlk, hty, hnm2, hfin, hdecl, hd⟩ := hl
  have he : (WW kc sh ad σ)[i]? = some (ad i, .inr (ci, fl ad σ i fs)) := WW_get hi
  have hs : (WW kc sh ad σ).set i (ad i, .inr (ci, (fl ad σ i fs).set k (.ref (ad j)))) = WW kc (sh.set i (0, ci, fs.set k (1, j))) ad σ := by
    rw [fl_setF hk]
    exact WW_sset (e' := (0, ci, fs.set k (1, j))) hi
  refine va_putF hx hb hts hin ty0 hty hnm2 hown hK hP hD hS i he hc k hkN (hts _ hlk) (fun _ h => h) hfin hnm hdecl hd hn hfit (by simpa [fl] using hk) hdg (fun H1 locs1 a1 a2 a3 => ?_)
  rw [hs] at a1 a2
  exact kk H1 locs1 ⟨a1, a2, a3, hA⟩
end ZNEW
