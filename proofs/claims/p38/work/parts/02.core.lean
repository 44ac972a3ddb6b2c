/-! CORE: one world, given by a shape, addresses and a store; rows and calls over it -/
def lw_gd : List Cond := lw_tbl.filter goodWord
def lw_isN : Cond → Bool
  | .fieldLinkNest _ _ _ _ _ _ => true
  | .methodLinkNest _ _ _ _ => true
  | _ => false
def lw_ne : List Cond := lw_tbl.filter lw_isN
theorem gd_of {w : Cond} (i : Nat) (h : lw_tbl[i]? = some w) (hg : goodWord w = true) : w ∈ lw_gd := List.mem_filter.mpr ⟨List.mem_of_getElem? h, hg⟩
theorem ne_of' {w : Cond} (i : Nat) (h : lw_tbl[i]? = some w) (hg : lw_isN w = true) : w ∈ lw_ne := List.mem_filter.mpr ⟨List.mem_of_getElem? h, hg⟩
theorem gd_word {w : Cond} (h : w ∈ lw_gd) : goodWord w = true := (List.mem_filter.mp h).2
theorem gd_tbl {w : Cond} (h : w ∈ lw_gd) : w ∈ lw_tbl := (List.mem_filter.mp h).1
theorem ne_on {w : Cond} (h : w ∈ lw_ne) : w.onTables = true := by
  have h2 := (List.mem_filter.mp h).2
  cases w <;> first | rfl | (simp [lw_isN] at h2)
def wU (y : MethodName) (cc : ByteArray) (n : Nat) (r : Option FieldType) : List Cond := .code y cc n r :: lw_gd
theorem gdU {y : MethodName} {cc : ByteArray} {n : Nat} {r : Option FieldType} (h : Cond.code y cc n r ∈ lw_gd) : GoodIn lw_gd (wU y cc n r) := by
  intro w hw
  have hm : w ∈ lw_gd := by
    rcases List.mem_cons.mp hw with e | e
    · subst e; exact h
    · exact e
  exact ⟨hm, good_of_word (gd_word hm)⟩
theorem ne_warm {w : Cond} (h : w ∈ lw_ne) {s U : State} (hW : s.WarmedH U.vm) (hZ : va_Nw w s) : va_Nw w U := by
  have h2 := (List.mem_filter.mp h).2
  cases w with
  | fieldLinkNest a i b n d h => exact va_Nw.warmF hW hZ
  | methodLinkNest a i x h => exact va_Nw.warmM hW hZ
  | _ => simp [lw_isN] at h2
/-- array classes; and what stays as it is: the texts that are constants, the row of all FIELDS -/
abbrev KC : Type := (Nat → ClassId) × (Nat → Nat) × (Nat → Nat) × Nat
def stL : List Nat := [3, 2, 2, 4, 4, 4, 3]
def stB : List (List Int32) := [[115, 101, 116], [105, 102], [103, 111], [115, 116, 111, 112], [119, 104, 101, 110], [101, 108, 115, 101], [97, 110, 100]]
def stX : List (Nat × String) := [(250, "set"), (259, "if"), (264, "go"), (270, "stop"), (291, "when"), (293, "else"), (302, "and")]
def RO0 (kc : KC) (A : Nat → Prop) (U : State) (H : Heap) : Prop := vk_S 7 stL stB kc.2.1 kc.2.2.1 A U H ∧ va_Z "java/lang/String" "COMPACT_STRINGS" "Z" (.int 1) A U H ∧ va_Z "CarriedWorks$Reader" "ALL_FIELDS" "[I" (.ref kc.2.2.2) A U H ∧ va_T .int kc.2.2.2 8 (fun j => .int (nI j)) A U H ∧ va_Zq "jdk/internal/util/Preconditions" "SIOOBE_FORMATTER" "Ljava/util/function/BiFunction;" A U H
theorem RO0.on {kc : KC} {A B : Nat → Prop} {s U : State} {H : Heap} {locs : List Loc} (h : RO0 kc A s s.heap) (hS : va_S A s.heap H locs) (hW : s.WarmedH U.vm) (hB : ∀ q, B q → A q) : RO0 kc B U H :=
  ⟨((h.1.kept hS.2.1).narrow hB).moved hW.alike, ((h.2.1.kept hS.2.1).narrow hB).moved hW.alike, ((h.2.2.1.kept hS.2.1).narrow hB).moved hW.alike, ((h.2.2.2.1.kept hS.2.1).narrow hB).moved hW.alike, ((h.2.2.2.2.kept hS.2.1).narrow hB).moved hW.alike⟩
theorem RO0.same {kc : KC} {A : Nat → Prop} {s U : State} {H : Heap} (h : RO0 kc A s H) (e : s.vm = U.vm) : RO0 kc A U H := ⟨h.1.moved (by rw [e]; exact Vm.Alike.refl _), h.2.1.moved (by rw [e]; exact Vm.Alike.refl _), h.2.2.1.moved (by rw [e]; exact Vm.Alike.refl _), h.2.2.2.1.moved (by rw [e]; exact Vm.Alike.refl _), h.2.2.2.2.moved (by rw [e]; exact Vm.Alike.refl _)⟩
/-- array classes: int, byte, boolean, long, rows of Works, rows of Programs -/
def Kt (kc : KC) : List (ClassId × FieldType) := [(kc.1 0, .int), (kc.1 1, .byte), (kc.1 2, .boolean), (kc.1 3, .long), (kc.1 4, .object "CarriedWorks$Works"), (kc.1 5, .object "CarriedWorks$Program")]
def Kx (G : va_G) (kc : KC) (U : State) : Prop := va_K G vwCl (Kt kc) U ∧ (∀ w ∈ lw_ne, va_Nw w U) ∧ va_AO "CarriedWorks$Works" U ∧ va_AO "CarriedWorks$Program" U ∧ ∀ (i : Nat) (x : Nat × String), stX[i]? = some x → vk_R "CarriedWorksModel" x.1 x.2 (kc.2.1 i) U
theorem Kx.moved {G : va_G} {kc : KC} {s U : State} (h : Kx G kc s) (hW : s.WarmedH U.vm) : Kx G kc U := ⟨va_K.moved hW.alike h.1, fun w hw => ne_warm hw hW (h.2.1 w hw), h.2.2.1.moved hW.alike, h.2.2.2.1.moved hW.alike, fun i x hx => (h.2.2.2.2 i x hx).warm hW⟩
theorem Kx.same {G : va_G} {kc : KC} {s U : State} (h : Kx G kc s) (e : s.vm = U.vm) : Kx G kc U := ⟨va_K.moved (by rw [e]; exact Vm.Alike.refl _) h.1, fun w hw => (h.2.1 w hw).same (ne_on hw) e, h.2.2.1.moved (by rw [e]; exact Vm.Alike.refl _), h.2.2.2.1.moved (by rw [e]; exact Vm.Alike.refl _), fun i x hx => (h.2.2.2.2 i x hx).same e.symm⟩
/-- the walk's fixed ground -/
def Cx (G : va_G) (kc : KC) (p : Program) (s : State) (m : MethodId) (c : Code) (args : Array Value) (cc : ByteArray) (n : Nat) (own : String) : Prop :=
  p.tables.exec = Jvm.exec ∧ c.code = cc ∧ c.maxLocals = n ∧ s.vm.findClass own = some m.cls ∧ (∀ w ∈ lw_gd, w.before args s = true) ∧ Kx G kc s
/-! shapes: (0, class, fields) an object; (1 2 3 4, length, []) a row of int, byte, boolean, long; (5 6, length, cells) a row of Works, Programs, for good. A field: (0, _) int, (1, j) the cell j for good, (2, _) a cell or null, (3, _) null -/
abbrev ShE : Type := Nat × Nat × List (Nat × Nat)
abbrev Sg : Type := (Nat → Nat → Int32) × (Nat → Nat → Int64) × (Nat → Nat → Option Nat)
def fv (ad : Nat → Nat) (σ : Sg) (i : Nat) (f : Nat × Nat) (k : Nat) : Value := match f.1 with
  | 0 => .int (σ.1 i k)
  | 1 => .ref (ad f.2)
  | 2 => va_rf ((σ.2.2 i k).map ad)
  | _ => .null
def fl (ad : Nat → Nat) (σ : Sg) (i : Nat) (fs : List (Nat × Nat)) : List Value := fs.mapIdx (fun k f => fv ad σ i f k)
def ce (kc : KC) (ad : Nat → Nat) (σ : Sg) (i : Nat) (e : ShE) : Nat × va_E := (ad i, match e.1 with
  | 0 => .inr (e.2.1, fl ad σ i e.2.2)
  | 1 => .inl (kc.1 0, e.2.1, .inl (σ.1 i))
  | 2 => .inl (kc.1 1, e.2.1, .inl (σ.1 i))
  | 3 => .inl (kc.1 2, e.2.1, .inl (σ.1 i))
  | 4 => .inl (kc.1 3, e.2.1, .inr (.inl (σ.2.1 i)))
  | 5 => .inl (kc.1 4, e.2.1, .inr (.inr (.inr (.inr (fun j => (e.2.2[j]?).map (fun f => ad f.2))))))
  | _ => .inl (kc.1 5, e.2.1, .inr (.inr (.inr (.inr (fun j => (e.2.2[j]?).map (fun f => ad f.2)))))))
def WW (kc : KC) (sh : List ShE) (ad : Nat → Nat) (σ : Sg) : va_W := sh.mapIdx (fun i e => ce kc ad σ i e)
def u2 {α : Type} (f : Nat → Nat → α) (i k : Nat) (v : α) : Nat → Nat → α := fun a b => if a = i ∧ b = k then v else f a b
theorem u2_self {α : Type} (f : Nat → Nat → α) (i k : Nat) (v : α) : u2 f i k v i k = v := by simp [u2]
theorem u2_row {α : Type} (f : Nat → Nat → α) {i a : Nat} (k : Nat) (v : α) (h : a ≠ i) : u2 f i k v a = f a := by funext b; simp [u2, h]
theorem u2_ne {α : Type} (f : Nat → Nat → α) (i : Nat) {k b : Nat} (v : α) (h : b ≠ k) : u2 f i k v i b = f i b := by simp [u2, h]
theorem WW_get {kc : KC} {sh : List ShE} {ad : Nat → Nat} {σ : Sg} {i : Nat} {e : ShE} (h : sh[i]? = some e) : (WW kc sh ad σ)[i]? = some (ce kc ad σ i e) := by
  simp [WW, List.getElem?_mapIdx, h]
theorem WW_inv {kc : KC} {sh : List ShE} {ad : Nat → Nat} {σ : Sg} {i : Nat} {q : Nat × va_E} (h : (WW kc sh ad σ)[i]? = some q) : ∃ e, sh[i]? = some e ∧ q = ce kc ad σ i e := by
  simp only [WW, List.getElem?_mapIdx] at h
  cases hs : sh[i]? with
  | none => rw [hs] at h; cases h
  | some e => rw [hs] at h; exact ⟨e, rfl, (Option.some.inj h).symm⟩
theorem fl_cong {ad : Nat → Nat} {σ σ' : Sg} {i : Nat} (fs : List (Nat × Nat)) (h1 : σ'.1 i = σ.1 i) (h3 : σ'.2.2 i = σ.2.2 i) : fl ad σ' i fs = fl ad σ i fs := by
  unfold fl
  congr 1
  funext k f
  obtain ⟨t, j⟩ := f
  match t with
  | 0 => simp [fv, h1]
  | 1 => simp [fv]
  | 2 => simp [fv, h3]
  | _ + 3 => simp [fv]
theorem ce_cong {kc : KC} {ad : Nat → Nat} {σ σ' : Sg} {i : Nat} (e : ShE) (h1 : σ'.1 i = σ.1 i) (h2 : σ'.2.1 i = σ.2.1 i) (h3 : σ'.2.2 i = σ.2.2 i) : ce kc ad σ' i e = ce kc ad σ i e := by
  obtain ⟨t, n, fs⟩ := e
  simp only [ce, fl_cong fs h1 h3, h1, h2]
theorem WW_set {kc : KC} {sh : List ShE} {ad : Nat → Nat} {σ σ' : Sg} {i : Nat} {e : ShE} (h : sh[i]? = some e) (ho : ∀ j, j ≠ i → σ'.1 j = σ.1 j ∧ σ'.2.1 j = σ.2.1 j ∧ σ'.2.2 j = σ.2.2 j) : (WW kc sh ad σ).set i (ce kc ad σ' i e) = WW kc sh ad σ' := by
  apply List.ext_getElem?
  intro j
  have hl : i < (WW kc sh ad σ).length := (List.getElem?_eq_some_iff.mp (WW_get (kc := kc) (ad := ad) (σ := σ) h)).1
  by_cases hj : j = i
  · subst hj
    rw [List.getElem?_set_self hl, WW_get h]
  · rw [List.getElem?_set_ne (Ne.symm hj)]
    simp only [WW, List.getElem?_mapIdx]
    cases hs : sh[j]? with
    | none => rfl
    | some e2 =>
      obtain ⟨a1, a2, a3⟩ := ho j hj
      simp [ce_cong e2 a1 a2 a3]
def sI (σ : Sg) (i k : Nat) (v : Int32) : Sg := (u2 σ.1 i k v, σ.2.1, σ.2.2)
def sL (σ : Sg) (i k : Nat) (v : Int64) : Sg := (σ.1, u2 σ.2.1 i k v, σ.2.2)
def sP (σ : Sg) (i k : Nat) (v : Option Nat) : Sg := (σ.1, σ.2.1, u2 σ.2.2 i k v)
theorem sI_off {σ : Sg} {i k : Nat} {v : Int32} : ∀ j, j ≠ i → (sI σ i k v).1 j = σ.1 j ∧ (sI σ i k v).2.1 j = σ.2.1 j ∧ (sI σ i k v).2.2 j = σ.2.2 j := fun _ h => ⟨u2_row _ _ _ h, rfl, rfl⟩
theorem sL_off {σ : Sg} {i k : Nat} {v : Int64} : ∀ j, j ≠ i → (sL σ i k v).1 j = σ.1 j ∧ (sL σ i k v).2.1 j = σ.2.1 j ∧ (sL σ i k v).2.2 j = σ.2.2 j := fun _ h => ⟨rfl, u2_row _ _ _ h, rfl⟩
theorem sP_off {σ : Sg} {i k : Nat} {v : Option Nat} : ∀ j, j ≠ i → (sP σ i k v).1 j = σ.1 j ∧ (sP σ i k v).2.1 j = σ.2.1 j ∧ (sP σ i k v).2.2 j = σ.2.2 j := fun _ h => ⟨rfl, rfl, u2_row _ _ _ h⟩
/-- the kind of a field of the cell i -/
def fk (sh : List ShE) (i k : Nat) : Option (Nat × Nat × Nat) := match sh[i]? with
  | some (0, ci, fs) => (fs[k]?).map (fun f => (ci, f.1, f.2))
  | _ => none
def ak (sh : List ShE) (i : Nat) : Option (Nat × Nat) := (sh[i]?).map (fun e => (e.1, e.2.1))
theorem fk_inv {sh : List ShE} {i k ci t j : Nat} (h : fk sh i k = some (ci, t, j)) : ∃ fs, sh[i]? = some (0, ci, fs) ∧ fs[k]? = some (t, j) := by
  unfold fk at h
  split at h
  · rename_i ci' fs hs
    cases hf : fs[k]? with
    | none => rw [hf] at h; cases h
    | some f =>
      rw [hf] at h
      obtain ⟨f1, f2⟩ := f
      simp only [Option.map_some, Option.some.injEq, Prod.mk.injEq] at h
      obtain ⟨rfl, rfl, rfl⟩ := h
      exact ⟨fs, hs, hf⟩
  · cases h
theorem ak_inv {sh : List ShE} {i t n : Nat} (h : ak sh i = some (t, n)) : ∃ fs, sh[i]? = some (t, n, fs) := by
  unfold ak at h
  cases hs : sh[i]? with
  | none => rw [hs] at h; cases h
  | some e =>
    rw [hs] at h
    obtain ⟨a, b, fs⟩ := e
    simp only [Option.map_some, Option.some.injEq, Prod.mk.injEq] at h
    obtain ⟨rfl, rfl⟩ := h
    exact ⟨fs, rfl⟩
theorem fl_get {ad : Nat → Nat} {σ : Sg} {i k : Nat} {fs : List (Nat × Nat)} {f : Nat × Nat} (h : fs[k]? = some f) : (fl ad σ i fs)[k]? = some (fv ad σ i f k) := by
  simp [fl, List.getElem?_mapIdx, h]
theorem fl_len {ad : Nat → Nat} {σ : Sg} {i k : Nat} {fs : List (Nat × Nat)} {f : Nat × Nat} (h : fs[k]? = some f) : k < (fl ad σ i fs).length := (List.getElem?_eq_some_iff.mp (fl_get (ad := ad) (σ := σ) (i := i) h)).1
theorem fl_setI {ad : Nat → Nat} {σ : Sg} {i k j : Nat} {fs : List (Nat × Nat)} {v : Int32} (h : fs[k]? = some (0, j)) : (fl ad σ i fs).set k (.int v) = fl ad (sI σ i k v) i fs := by
  apply List.ext_getElem?
  intro a
  by_cases ha : a = k
  · subst ha
    rw [List.getElem?_set_self (fl_len h), fl_get h]
    simp [fv, sI, u2]
  · rw [List.getElem?_set_ne (Ne.symm ha)]
    simp only [fl, List.getElem?_mapIdx]
    cases hs : fs[a]? with
    | none => rfl
    | some f =>
      obtain ⟨t, q⟩ := f
      match t with
      | 0 => simp [fv, sI, u2, ha]
      | 1 => simp [fv]
      | 2 => simp [fv, sI]
      | _ + 3 => simp [fv]
theorem fl_setP {ad : Nat → Nat} {σ : Sg} {i k j : Nat} {fs : List (Nat × Nat)} {v : Option Nat} (h : fs[k]? = some (2, j)) : (fl ad σ i fs).set k (va_rf (v.map ad)) = fl ad (sP σ i k v) i fs := by
  apply List.ext_getElem?
  intro a
  by_cases ha : a = k
  · subst ha
    rw [List.getElem?_set_self (fl_len h), fl_get h]
    simp [fv, sP, u2]
  · rw [List.getElem?_set_ne (Ne.symm ha)]
    simp only [fl, List.getElem?_mapIdx]
    cases hs : fs[a]? with
    | none => rfl
    | some f =>
      obtain ⟨t, q⟩ := f
      match t with
      | 0 => simp [fv, sP]
      | 1 => simp [fv]
      | 2 => simp [fv, sP, u2, ha]
      | _ + 3 => simp [fv]
/-- where the walk stands: the heap holds the world, what is outside is as it was -/
def St (G : va_G) (kc : KC) (A : Nat → Prop) (H0 : Heap) (sh : List ShE) (ad : Nat → Nat) (σ : Sg) (H : Heap) (locs : List Loc) : Prop :=
  va_P G vwCl (WW kc sh ad σ) H ∧ va_D A (WW kc sh ad σ) ∧ va_S A H0 H locs ∧ ∀ q, H0.size ≤ q → A q
/-- a field's words: of a class's field that the code may name, its own or a nest mate's -/
def FL (own : String) (index ci k : Nat) : Prop := ∃ (C : String) (T : u_T) (N : Nat), vwCl[ci]? = some (C, T, N) ∧ (∀ w ∈ u_ws C T N, w ∈ lw_gd) ∧ k < N ∧ (Cond.fieldLink own index (T k).1 (T k).2.1 (T k).2.2.1 ∈ lw_gd ∨ ∃ host, Cond.fieldLinkNest own index (T k).1 (T k).2.1 (T k).2.2.1 host ∈ lw_ne)
/-- and of a put: not final, of a type -/
def FP (own : String) (index ci k : Nat) (ty : FieldType) : Prop := ∃ (C : String) (T : u_T) (N : Nat) (ty0 : Nat → FieldType), vwCl[ci]? = some (C, T, N) ∧ (∀ w ∈ u_ws C T N, w ∈ lw_gd) ∧ k < N ∧ (Cond.fieldLink own index (T k).1 (T k).2.1 (T k).2.2.1 ∈ lw_gd ∨ ∃ host, Cond.fieldLinkNest own index (T k).1 (T k).2.1 (T k).2.2.1 host ∈ lw_ne) ∧ (∀ k, k < N → parseFieldDescriptor (T k).2.2.1 = some (ty0 k)) ∧ (∀ a, a < N → ∀ b, b < N → a ≠ b → (T a).2.1 ≠ (T b).2.1) ∧ (T k).2.2.2 = false ∧ parseFieldDescriptor (T k).2.2.1 = some ty
section ZROWS
variable {p : Program} {l : Launch} {e : Env} {R : Room} {s : State} {m : MethodId} {args : Array Value} {below : List Frame} {meth : Method} {c : Code} {H : Heap} {locs : List Loc} {cells slots : Nat} {Q : State → Prop}
variable {cc : ByteArray} {nL : Nat} {own : String} {pc : Nat} {ls : Array Slot} {rest : List Value} {G : va_G} {kc : KC} {A : Nat → Prop} {H0 : Heap} {sh : List ShE} {ad : Nat → Nat} {σ : Sg} {index : Nat}
theorem z_getv (C0 : Cx G kc p s m c args cc nL own) (hw : St G kc A H0 sh ad σ H locs) (i k : Nat) {ci t j : Nat} (hf : fk sh i k = some (ci, t, j)) (hl : FL own index ci k) (hdg : decode cc pc = .ok (.getfield index, 3))
    (kk : W p l e R s m args below meth c H locs cells slots Q (F0 m (pc + 3) ls (fv ad σ i (t, j) k :: rest))) : W p l e R s m args below meth c H locs cells slots Q (F0 m pc ls (.ref (ad i) :: rest)) := by
  obtain ⟨hx, hb, -, hown, hts, hK, hN, -⟩ := C0
  obtain ⟨fs, h1, h2⟩ := fk_inv hf
  obtain ⟨C, T, N, hc, hin, hk, hlk⟩ := hl
  have he : (WW kc sh ad σ)[i]? = some (ad i, .inr (ci, fl ad σ i fs)) := WW_get h1
  rcases hlk with hlk | ⟨host, hlk⟩
  · exact va_get hx hb hts hin hown hK hw.1 i he hc k hk (hts _ hlk) (fun _ h => h) (fl_get h2) hdg kk
  · exact va_getN hx hb hts hin hown hK hw.1 i he hc k hk (va_Nw.use rfl (hN _ hlk)) (fun _ h => h) (fl_get h2) hdg kk
/-- an int field -/
theorem z_gi (C0 : Cx G kc p s m c args cc nL own) (hw : St G kc A H0 sh ad σ H locs) (i k : Nat) {ci j : Nat} (hf : fk sh i k = some (ci, 0, j)) (hl : FL own index ci k) (hdg : decode cc pc = .ok (.getfield index, 3))
    (kk : W p l e R s m args below meth c H locs cells slots Q (F0 m (pc + 3) ls (.int (σ.1 i k) :: rest))) : W p l e R s m args below meth c H locs cells slots Q (F0 m pc ls (.ref (ad i) :: rest)) := z_getv C0 hw i k hf hl hdg kk
/-- a field that holds the cell j for good -/
theorem z_gr (C0 : Cx G kc p s m c args cc nL own) (hw : St G kc A H0 sh ad σ H locs) (i k : Nat) {ci : Nat} (j : Nat) (hf : fk sh i k = some (ci, 1, j)) (hl : FL own index ci k) (hdg : decode cc pc = .ok (.getfield index, 3))
    (kk : W p l e R s m args below meth c H locs cells slots Q (F0 m (pc + 3) ls (.ref (ad j) :: rest))) : W p l e R s m args below meth c H locs cells slots Q (F0 m pc ls (.ref (ad i) :: rest)) := z_getv C0 hw i k hf hl hdg kk
/-- a field that holds a cell or null -/
theorem z_gm (C0 : Cx G kc p s m c args cc nL own) (hw : St G kc A H0 sh ad σ H locs) (i k : Nat) {ci j : Nat} (hf : fk sh i k = some (ci, 2, j)) (hl : FL own index ci k) (hdg : decode cc pc = .ok (.getfield index, 3))
    (kk : W p l e R s m args below meth c H locs cells slots Q (F0 m (pc + 3) ls (va_rf ((σ.2.2 i k).map ad) :: rest))) : W p l e R s m args below meth c H locs cells slots Q (F0 m pc ls (.ref (ad i) :: rest)) := z_getv C0 hw i k hf hl hdg kk
theorem z_gms (C0 : Cx G kc p s m c args cc nL own) (hw : St G kc A H0 sh ad σ H locs) (i k : Nat) {ci j : Nat} (q : Nat) (hq : σ.2.2 i k = some q) (hf : fk sh i k = some (ci, 2, j)) (hl : FL own index ci k) (hdg : decode cc pc = .ok (.getfield index, 3))
    (kk : W p l e R s m args below meth c H locs cells slots Q (F0 m (pc + 3) ls (.ref (ad q) :: rest))) : W p l e R s m args below meth c H locs cells slots Q (F0 m pc ls (.ref (ad i) :: rest)) := z_gm C0 hw i k hf hl hdg (by rw [hq]; exact kk)
theorem z_putv (C0 : Cx G kc p s m c args cc nL own) (hw : St G kc A H0 sh ad σ H locs) (i k : Nat) {ci t j : Nat} {σ' : Sg} {v : Value} {ty : FieldType} (hf : fk sh i k = some (ci, t, j)) (hl : FP own index ci k ty) (hn : narrow ty v = v) (hfit : fits ty v = true)
    (hset : ∀ fs : List (Nat × Nat), fs[k]? = some (t, j) → (fl ad σ i fs).set k v = fl ad σ' i fs) (ho : ∀ j, j ≠ i → σ'.1 j = σ.1 j ∧ σ'.2.1 j = σ.2.1 j ∧ σ'.2.2 j = σ.2.2 j) (hdg : decode cc pc = .ok (.putfield index, 3))
    (kk : ∀ (H1 : Heap) (locs1 : List Loc), St G kc A H0 sh ad σ' H1 locs1 → W p l e R s m args below meth c H1 locs1 cells slots Q (F0 m (pc + 3) ls rest)) : W p l e R s m args below meth c H locs cells slots Q (F0 m pc ls (v :: .ref (ad i) :: rest)) := by
  obtain ⟨hx, hb, -, hown, hts, hK, hN, -⟩ := C0
  obtain ⟨hP, hD, hS, hA⟩ := hw
  obtain ⟨fs, h1, h2⟩ := fk_inv hf
  obtain ⟨C, T, N, ty0, hc, hin, hk, hlk, hty, hnm, hfin, hd⟩ := hl
  have he : (WW kc sh ad σ)[i]? = some (ad i, .inr (ci, fl ad σ i fs)) := WW_get h1
  have hs : (WW kc sh ad σ).set i (ad i, .inr (ci, (fl ad σ i fs).set k v)) = WW kc sh ad σ' := by
    rw [hset fs h2]
    exact WW_set h1 ho
  rcases hlk with hlk | ⟨host, hlk⟩
  · refine va_put hx hb hts hin ty0 hty hnm hown hK hP hD hS i he hc k hk (hts _ hlk) (fun _ h => h) hfin hd hn hfit (fl_len h2) hdg (fun H1 locs1 a1 a2 a3 => ?_)
    rw [hs] at a1 a2
    exact kk H1 locs1 ⟨a1, a2, a3, hA⟩
  · refine va_putN hx hb hts hin ty0 hty hnm hown hK hP hD hS i he hc k hk (va_Nw.use rfl (hN _ hlk)) (fun _ h => h) hfin hd hn hfit (fl_len h2) hdg (fun H1 locs1 a1 a2 a3 => ?_)
    rw [hs] at a1 a2
    exact kk H1 locs1 ⟨a1, a2, a3, hA⟩
/-- an int is put -/
theorem z_pi (C0 : Cx G kc p s m c args cc nL own) (hw : St G kc A H0 sh ad σ H locs) (i k : Nat) {ci j : Nat} {v : Int32} (hf : fk sh i k = some (ci, 0, j)) (hl : FP own index ci k .int) (hdg : decode cc pc = .ok (.putfield index, 3))
    (kk : ∀ (H1 : Heap) (locs1 : List Loc), St G kc A H0 sh ad (sI σ i k v) H1 locs1 → W p l e R s m args below meth c H1 locs1 cells slots Q (F0 m (pc + 3) ls rest)) : W p l e R s m args below meth c H locs cells slots Q (F0 m pc ls (.int v :: .ref (ad i) :: rest)) :=
  z_putv C0 hw i k hf hl rfl rfl (fun _ h => fl_setI h) sI_off hdg kk
/-- a boolean is put -/
theorem z_pz (C0 : Cx G kc p s m c args cc nL own) (hw : St G kc A H0 sh ad σ H locs) (i k : Nat) {ci j : Nat} {v : Int32} (hv : v = 0 ∨ v = 1) (hf : fk sh i k = some (ci, 0, j)) (hl : FP own index ci k .boolean) (hdg : decode cc pc = .ok (.putfield index, 3))
    (kk : ∀ (H1 : Heap) (locs1 : List Loc), St G kc A H0 sh ad (sI σ i k v) H1 locs1 → W p l e R s m args below meth c H1 locs1 cells slots Q (F0 m (pc + 3) ls rest)) : W p l e R s m args below meth c H locs cells slots Q (F0 m pc ls (.int v :: .ref (ad i) :: rest)) :=
  z_putv C0 hw i k hf hl (by rcases hv with rfl | rfl <;> decide) (by rcases hv with rfl | rfl <;> decide) (fun _ h => fl_setI h) sI_off hdg kk
/-- a cell is put -/
theorem z_pm (C0 : Cx G kc p s m c args cc nL own) (hw : St G kc A H0 sh ad σ H locs) (i k : Nat) {ci j : Nat} (q : Nat) {nm : String} (hf : fk sh i k = some (ci, 2, j)) (hl : FP own index ci k (.object nm)) (hdg : decode cc pc = .ok (.putfield index, 3))
    (kk : ∀ (H1 : Heap) (locs1 : List Loc), St G kc A H0 sh ad (sP σ i k (some q)) H1 locs1 → W p l e R s m args below meth c H1 locs1 cells slots Q (F0 m (pc + 3) ls rest)) : W p l e R s m args below meth c H locs cells slots Q (F0 m pc ls (.ref (ad q) :: .ref (ad i) :: rest)) :=
  z_putv (v := va_rf ((some q).map ad)) C0 hw i k hf hl rfl rfl (fun _ h => fl_setP h) sP_off hdg kk
end ZROWS
