/-! CORE 6: cells as they are made, with what is in them. A cell FE: (0, class, _, fields) or (row's kind, length, value, exceptions); a field FV: (0, v, _) an int, (1, _, j) the cell j for good, (2, _, j) the cell j for now, (3, ..) null, (4, ..) null for now -/
abbrev FV : Type := Nat × Int32 × Nat
abbrev FE : Type := Nat × Nat × Int32 × List FV
def deFI : DecidableEq (Int32 × List FV) := inferInstance
def deFE : DecidableEq FE := @instDecidableEqProd Nat (Nat × Int32 × List FV) inferInstance (@instDecidableEqProd Nat (Int32 × List FV) inferInstance deFI)
def deLE : DecidableEq (List FE) := @instDecidableEqList FE deFE
theorem eqF {L M : List FE} (h : @decide (L = M) (deLE L M) = true) : L = M := @of_decide_eq_true (L = M) (deLE L M) h
def fvV (ad : Nat → Nat) (f : FV) : Value := match f.1 with
  | 0 => .int f.2.1
  | 1 => .ref (ad f.2.2)
  | 2 => .ref (ad f.2.2)
  | _ => .null
def exl (v : Int32) : List FV → Nat → Int32
  | [], _ => v
  | f :: r, j => if j = f.1 then f.2.1 else exl v r j
def rfo (f : FV) : Option Nat := match f.1 with
  | 2 => some f.2.2
  | _ => none
def rfs (fs : List FV) (j : Nat) : Option Nat := (fs[j]?).bind rfo
def ceF (kc : KC) (ad : Nat → Nat) (x : FE) : va_E := match x.1 with
  | 0 => .inr (x.2.1, x.2.2.2.map (fvV ad))
  | 1 => .inl (kc.1 0, x.2.1, .inl (exl x.2.2.1 x.2.2.2))
  | 2 => .inl (kc.1 1, x.2.1, .inl (exl x.2.2.1 x.2.2.2))
  | 3 => .inl (kc.1 2, x.2.1, .inl (exl x.2.2.1 x.2.2.2))
  | 4 => .inl (kc.1 3, x.2.1, .inr (.inl (fun _ => 0)))
  | 5 => .inl (kc.1 4, x.2.1, .inr (.inr (.inr (.inr (fun j => (rfs x.2.2.2 j).map ad)))))
  | _ => .inl (kc.1 5, x.2.1, .inr (.inr (.inr (.inr (fun j => (rfs x.2.2.2 j).map ad)))))
def WF (kc : KC) (L : List FE) (ad : Nat → Nat) : va_W := L.mapIdx (fun i x => (ad i, ceF kc ad x))
def SF (G : va_G) (kc : KC) (A : Nat → Prop) (H0 : Heap) (L : List FE) (ad : Nat → Nat) (H : Heap) (locs : List Loc) : Prop :=
  va_P G vwCl (WF kc L ad) H ∧ va_D A (WF kc L ad) ∧ va_S A H0 H locs ∧ ∀ q, H0.size ≤ q → A q
def fOkF (n : Nat) (f : FV) : Bool := if f.1 = 1 ∨ f.1 = 2 then decide (f.2.2 < n) else true
def LOk (n : Nat) (L : List FE) : Bool := L.all (fun x => x.2.2.2.all (fOkF n))
theorem WF_get {kc : KC} {L : List FE} {ad : Nat → Nat} {i : Nat} {x : FE} (h : L[i]? = some x) : (WF kc L ad)[i]? = some (ad i, ceF kc ad x) := by
  simp [WF, List.getElem?_mapIdx, h]
theorem fvV_ad {ad ad' : Nat → Nat} {n : Nat} {f : FV} (hf : fOkF n f = true) (h : ∀ i, i < n → ad' i = ad i) : fvV ad' f = fvV ad f := by
  obtain ⟨t, v, j⟩ := f
  match t with
  | 0 => rfl
  | 1 =>
    have hj : j < n := by simpa [fOkF] using hf
    simp [fvV, h j hj]
  | 2 =>
    have hj : j < n := by simpa [fOkF] using hf
    simp [fvV, h j hj]
  | _ + 3 => rfl
theorem rfs_ad {ad ad' : Nat → Nat} {n : Nat} {fs : List FV} (hf : fs.all (fOkF n) = true) (h : ∀ i, i < n → ad' i = ad i) : (fun j => (rfs fs j).map ad') = (fun j => (rfs fs j).map ad) := by
  funext j
  unfold rfs
  cases hs : fs[j]? with
  | none => rfl
  | some f =>
    have h1 := List.all_eq_true.mp hf f (List.mem_of_getElem? hs)
    obtain ⟨t, v, q⟩ := f
    match t with
    | 0 => rfl
    | 1 => rfl
    | 2 =>
      have hj : q < n := by simpa [fOkF] using h1
      simp [rfo, h q hj]
    | _ + 3 => rfl
theorem ceF_ad {kc : KC} {ad ad' : Nat → Nat} {n : Nat} {x : FE} (hx : x.2.2.2.all (fOkF n) = true) (h : ∀ i, i < n → ad' i = ad i) : ceF kc ad' x = ceF kc ad x := by
  obtain ⟨t, m, v, fs⟩ := x
  have h1 : fs.map (fvV ad') = fs.map (fvV ad) := List.map_congr_left (fun f hf => fvV_ad (List.all_eq_true.mp hx f hf) h)
  have h2 := rfs_ad hx h
  match t with
  | 0 => simp only [ceF, h1]
  | 1 => rfl
  | 2 => rfl
  | 3 => rfl
  | 4 => rfl
  | 5 => simp only [ceF]; rw [h2]
  | _ + 6 => simp only [ceF]; rw [h2]
def shV (n : Nat) (f : FV) : FV := if f.1 = 1 ∨ f.1 = 2 then (f.1, f.2.1, f.2.2 + n) else f
def shX (n : Nat) (x : FE) : FE := (x.1, x.2.1, x.2.2.1, if x.1 = 0 ∨ 5 ≤ x.1 then x.2.2.2.map (shV n) else x.2.2.2)
def shF (n : Nat) (L : List FE) : List FE := L.map (shX n)
theorem fvV_sh {ad ad' : Nat → Nat} {n : Nat} {f : FV} (h : ∀ j, ad' (j + n) = ad j) : fvV ad' (shV n f) = fvV ad f := by
  obtain ⟨t, v, j⟩ := f
  match t with
  | 0 => rfl
  | 1 => simp [fvV, shV, h]
  | 2 => simp [fvV, shV, h]
  | t + 3 => simp [fvV, shV]
theorem rfs_sh {ad ad' : Nat → Nat} {n : Nat} {fs : List FV} (h : ∀ j, ad' (j + n) = ad j) : (fun j => (rfs (fs.map (shV n)) j).map ad') = (fun j => (rfs fs j).map ad) := by
  funext j
  unfold rfs
  rw [List.getElem?_map]
  cases hs : fs[j]? with
  | none => rfl
  | some f =>
    obtain ⟨t, v, q⟩ := f
    match t with
    | 0 => rfl
    | 1 => rfl
    | 2 => simp [rfo, shV, h]
    | t + 3 => simp [rfo, shV]
theorem ceF_sh {kc : KC} {ad ad' : Nat → Nat} {n : Nat} {x : FE} (h : ∀ j, ad' (j + n) = ad j) : ceF kc ad' (shX n x) = ceF kc ad x := by
  obtain ⟨t, m, v, fs⟩ := x
  have h1 : (fs.map (shV n)).map (fvV ad') = fs.map (fvV ad) := by
    rw [List.map_map]
    exact List.map_congr_left (fun f _ => fvV_sh h)
  have h2 := rfs_sh (fs := fs) h
  match t with
  | 0 => simp only [ceF, shX]; simp [h1, -List.map_map]
  | 1 => rfl
  | 2 => rfl
  | 3 => rfl
  | 4 => rfl
  | 5 => simp only [ceF, shX]; simp only [show ((5 : Nat) = 0 ∨ 5 ≤ 5) from Or.inr (Nat.le_refl 5), if_true]; rw [h2]
  | t + 6 => simp only [ceF, shX]; simp only [show (t + 6 = 0 ∨ 5 ≤ t + 6) from Or.inr (by omega), if_true]; rw [h2]
def adj (n : Nat) (ad ad2 : Nat → Nat) : Nat → Nat := fun i => if i < n then ad i else ad2 (i - n)
theorem adj_lo {n : Nat} {ad ad2 : Nat → Nat} : ∀ i, i < n → adj n ad ad2 i = ad i := fun i h => by simp [adj, h]
theorem adj_hi {n : Nat} {ad ad2 : Nat → Nat} (j : Nat) : adj n ad ad2 (j + n) = ad2 j := by unfold adj; rw [if_neg (by omega), Nat.add_sub_cancel]
theorem WF_app {kc : KC} {L M : List FE} {ad ad2 : Nat → Nat} {n : Nat} (hn : L.length = n) (hs : LOk n L = true) : WF kc (L ++ shF n M) (adj n ad ad2) = WF kc L ad ++ WF kc M ad2 := by
  subst hn
  apply List.ext_getElem?
  intro j
  simp only [WF, List.getElem?_mapIdx]
  by_cases hj : j < L.length
  · rw [List.getElem?_append_left hj, List.getElem?_append_left (by simpa using hj), List.getElem?_mapIdx]
    cases h2 : L[j]? with
    | none => rfl
    | some x => simp [ceF_ad (List.all_eq_true.mp hs x (List.mem_of_getElem? h2)) adj_lo, adj_lo j hj]
  · rw [List.getElem?_append_right (by omega), List.getElem?_append_right (by simpa using hj), List.length_mapIdx, List.getElem?_mapIdx]
    have h3 : j = (j - L.length) + L.length := by omega
    simp only [shF, List.getElem?_map]
    cases h2 : M[j - L.length]? with
    | none => rfl
    | some x =>
      simp only [Option.map_some, ceF_sh (ad := ad2) (adj_hi (n := L.length) (ad := ad))]
      have h4 := adj_hi (n := L.length) (ad := ad) (ad2 := ad2) (j - L.length)
      rw [← h3] at h4
      rw [h4]
theorem WF_grow {kc : KC} {L : List FE} {ad : Nat → Nat} {q n : Nat} {x : FE} (hn : L.length = n) (hs : LOk n L = true) (hx : ∀ a b, ceF kc a x = ceF kc b x) : WF kc (L ++ [x]) (adj n ad (fun _ => q)) = WF kc L ad ++ [(q, ceF kc ad x)] := by
  subst hn
  apply List.ext_getElem?
  intro j
  simp only [WF, List.getElem?_mapIdx]
  by_cases hj : j < L.length
  · rw [List.getElem?_append_left hj, List.getElem?_append_left (by simpa using hj), List.getElem?_mapIdx]
    cases h2 : L[j]? with
    | none => rfl
    | some y => simp [ceF_ad (List.all_eq_true.mp hs y (List.mem_of_getElem? h2)) adj_lo, adj_lo j hj]
  · rw [List.getElem?_append_right (by omega), List.getElem?_append_right (by simpa using hj), List.length_mapIdx]
    cases h2 : [x][j - L.length]? with
    | none => 
      have h3 : 1 ≤ j - L.length := by
        have h4 := List.getElem?_eq_none_iff.mp h2
        simpa using h4
      rw [List.getElem?_eq_none (by simpa using h3)]
      rfl
    | some y =>
      have h3 : j - L.length < 1 := (List.getElem?_eq_some_iff.mp h2).1
      have h4 : j - L.length = 0 := by omega
      rw [h4] at h2 ⊢
      cases h2
      have h5 : j = L.length := by omega
      subst h5
      have h6 : adj L.length ad (fun _ => q) L.length = q := by simp [adj]
      simp only [Option.map_some, List.getElem?_cons_zero, h6, hx (adj L.length ad fun _ => q) ad]
theorem WF_set {kc : KC} {L : List FE} {ad : Nat → Nat} {i : Nat} {x y : FE} (h : L[i]? = some x) : (WF kc L ad).set i (ad i, ceF kc ad y) = WF kc (L.set i y) ad := by
  have hl : i < L.length := (List.getElem?_eq_some_iff.mp h).1
  apply List.ext_getElem?
  intro a
  by_cases ha : a = i
  · subst ha
    rw [List.getElem?_set_self (by simpa [WF] using hl)]
    simp only [WF, List.getElem?_mapIdx, List.getElem?_set_self hl, Option.map_some]
  · rw [List.getElem?_set_ne (Ne.symm ha)]
    simp only [WF, List.getElem?_mapIdx, List.getElem?_set_ne (Ne.symm ha)]
/-- a tail of the world is another's; the head stays -/
theorem va_tail {A0 : Nat → Prop} {D : va_G} {cl : List vw_C} {w1 w2 w3 : va_W} {H H1 : Heap} (hP : va_P D cl (w1 ++ w2) H) (hD : va_D A0 (w1 ++ w2)) (hk : ∀ q : Nat, q < H.size → ¬ va_A w2 H.size q → H1[q]? = H[q]?) (hF : ∀ q, va_A w2 H.size q → A0 q) (hP1 : va_P D cl w3 H1) (hD1 : va_D (va_A w2 H.size) w3) : va_P D cl (w1 ++ w3) H1 ∧ va_D A0 (w1 ++ w3) := by
  have up : ∀ (k : Nat) (q : Nat × va_E), w1[k]? = some q → (w1 ++ w2)[k]? = some q := fun k q h => by rw [List.getElem?_append_left (List.getElem?_eq_some_iff.mp h).1]; exact h
  have apart : ∀ (k : Nat) (q : Nat × va_E), w1[k]? = some q → q.1 < H.size ∧ ¬ va_A w2 H.size q.1 := by
    intro k q hq
    have hl := (hP k q (up k q hq)).lt
    refine ⟨hl, fun h => ?_⟩
    rcases h with ⟨k2, e, h⟩ | h
    · have h2 : (w1 ++ w2)[w1.length + k2]? = some (q.1, e) := by
        rw [List.getElem?_append_right (by omega), Nat.add_sub_cancel_left]
        exact h
      have h3 := hD.1 k (w1.length + k2) q (q.1, e) (up k q hq) h2 rfl
      have h4 := (List.getElem?_eq_some_iff.mp hq).1
      omega
    · omega
  refine ⟨va_P.app (fun k q hq => ?_) hP1, va_D.app ⟨fun i j x y hi hj => hD.1 i j x y (up i x hi) (up j y hj), fun k q hq => hD.2 k q (up k q hq)⟩ (hD1.weaken (fun k q _ h => hF q.1 h)) (fun i j x y hx hy hxy => ?_)⟩
  · obtain ⟨g1, g2⟩ := apart k q hq
    exact (hP k q (up k q hq)).kept (hk q.1 g1 g2)
  · exact (apart i x hx).2 (by rw [hxy]; exact hD1.2 j y hy)
/-- what a 'new' asks for -/
def NW (own : String) (index ci N : Nat) (fs : List FV) : Prop := ∃ (C : String) (T : u_T) (ty : Nat → FieldType), vwCl[ci]? = some (C, T, N) ∧ (∀ w ∈ u_ws C T N, w ∈ lw_gd) ∧ (∀ k, k < N → parseFieldDescriptor (T k).2.2.1 = some (ty k)) ∧ Cond.classLink own index C ∈ lw_gd ∧ Cond.instantiable C N ∈ lw_gd ∧ Cond.initialized C ∈ lw_gd ∧ (∀ j, j < N → defaultValue (ty j) = vp_V (fs.map (fvV a00)) j) ∧ ∀ ad : Nat → Nat, fs.map (fvV ad) = fs.map (fvV a00)
/-- a final field's words, in its own class's constructor -/
def FF (own : String) (index ci k : Nat) (ty : FieldType) : Prop := ∃ (C : String) (T : u_T) (N : Nat) (ty0 : Nat → FieldType), vwCl[ci]? = some (C, T, N) ∧ (∀ w ∈ u_ws C T N, w ∈ lw_gd) ∧ k < N ∧ Cond.fieldLink own index (T k).1 (T k).2.1 (T k).2.2.1 ∈ lw_gd ∧ (∀ k, k < N → parseFieldDescriptor (T k).2.2.1 = some (ty0 k)) ∧ (∀ a, a < N → ∀ b, b < N → a ≠ b → (T a).2.1 ≠ (T b).2.1) ∧ (T k).2.2.2 = true ∧ (T k).1 = own ∧ parseFieldDescriptor (T k).2.2.1 = some ty
section KROWS
variable {p : Program} {l : Launch} {e : Env} {R : Room} {s : State} {m : MethodId} {args : Array Value} {below : List Frame} {meth : Method} {c : Code} {H : Heap} {locs : List Loc} {cells slots : Nat} {Q : State → Prop}
variable {cc : ByteArray} {nL : Nat} {own : String} {pc : Nat} {ls : Array Slot} {rest : List Value} {G : va_G} {kc : KC} {A : Nat → Prop} {H0 : Heap} {L : List FE} {ad : Nat → Nat} {index : Nat}
theorem kz_new (C0 : Cx G kc p s m c args cc nL own) (hw : SF G kc A H0 L ad H locs) (n : Nat) {ci N : Nat} {fs : List FV} (hn : L.length = n) (hs : LOk n L = true) (hl : NW own index ci N fs) (hcells : cells + 1 ≤ R.cells) (hslots : slots + N ≤ R.slots) (hdg : decode cc pc = .ok (.new index, 3))
    (kk : ∀ (q : Nat) (ad' : Nat → Nat) (H1 : Heap), ad' n = q → (∀ i, i < n → ad' i = ad i) → SF G kc A H0 (L ++ [(0, ci, 0, fs)]) ad' H1 locs → W p l e R s m args below meth c H1 locs (cells + 1) (slots + N) Q (F0 m (pc + 3) ls (.ref q :: rest))) : W p l e R s m args below meth c H locs cells slots Q (F0 m pc ls rest) := by
  obtain ⟨hx, hb, -, hown, hts, hK, -⟩ := C0
  obtain ⟨hP, hD, hS, hA⟩ := hw
  obtain ⟨C, T, ty, hc, hin, hty, h1, h2, h3, h4, h5⟩ := hl
  have hx' : ∀ a b, ceF kc a ((0, ci, 0, fs) : FE) = ceF kc b (0, ci, 0, fs) := fun a b => by simp only [ceF]; rw [h5 a, h5 b]
  refine va_new (ci := ci) (fs := fs.map (fvV a00)) hx hb hts hin ty hty hown (hts _ h1) (hts _ h2) (hts _ h3) hK hP hD hS hA hc h4 hcells hslots hdg (fun q H1 hP1 hD1 hS1 => ?_)
  have e2 : WF kc (L ++ [(0, ci, 0, fs)]) (adj n ad (fun _ => q)) = WF kc L ad ++ [(q, .inr (ci, fs.map (fvV a00)))] := by
    rw [WF_grow hn hs hx']
    simp only [ceF]
    rw [h5 ad]
  exact kk q (adj n ad (fun _ => q)) H1 (by simp [adj]) adj_lo ⟨by rw [e2]; exact hP1, by rw [e2]; exact hD1, hS1, hA⟩
theorem kz_newai (C0 : Cx G kc p s m c args cc nL own) (hw : SF G kc A H0 L ad H locs) (n N : Nat) {x : Int32} (hn : L.length = n) (hs : LOk n L = true) (harr : Cond.arrayClass .int ∈ lw_gd) (hx0 : ¬ x < 0) (hN : x.toNatClampNeg = N) (hb8 : N * componentBytes .int ≤ 536870912) (hcells : cells + 1 ≤ R.cells) (hslots : slots + N ≤ R.slots) (hdg : decode cc pc = .ok (.newarray .int, 2))
    (kk : ∀ (q : Nat) (ad' : Nat → Nat) (H1 : Heap), ad' n = q → (∀ i, i < n → ad' i = ad i) → SF G kc A H0 (L ++ [(1, N, 0, [])]) ad' H1 locs → W p l e R s m args below meth c H1 locs (cells + 1) (slots + N) Q (F0 m (pc + 2) ls (.ref q :: rest))) : W p l e R s m args below meth c H locs cells slots Q (F0 m pc ls (.int x :: rest)) := by
  obtain ⟨hx, hb, -, -, hts, hK, -⟩ := C0
  obtain ⟨hP, hD, hS, hA⟩ := hw
  refine va_newa (atype := .int) (ty := .int) (a0 := (N, .inl (fun _ => 0))) (N' := N) hx hb (hts _ harr) rfl hK hP hD hS hA (fun cA => by rw [vp_cell_i]; rfl) hx0 hN hb8 hcells hslots hdg (fun q cA H1 hK1 hP1 hD1 hS1 => ?_)
  have e1 : cA = kc.1 0 := by
    have a1 := va_nm_int (hK1.2 6 (cA, .int) rfl).2
    have a2 := va_nm_int (hK.2 0 (kc.1 0, .int) rfl).2
    exact Option.some.inj (a1.symm.trans a2)
  subst e1
  have e2 : WF kc (L ++ [(1, N, 0, [])]) (adj n ad (fun _ => q)) = WF kc L ad ++ [(q, .inl (kc.1 0, (N, .inl (fun _ => 0))))] := by
    rw [WF_grow hn hs (fun _ _ => rfl)]
    rfl
  exact kk q (adj n ad (fun _ => q)) H1 (by simp [adj]) adj_lo ⟨by rw [e2]; exact hP1, by rw [e2]; exact hD1, hS1, hA⟩
theorem kz_newab (C0 : Cx G kc p s m c args cc nL own) (hw : SF G kc A H0 L ad H locs) (n N : Nat) {x : Int32} (hn : L.length = n) (hs : LOk n L = true) (harr : Cond.arrayClass .byte ∈ lw_gd) (hx0 : ¬ x < 0) (hN : x.toNatClampNeg = N) (hb8 : N * componentBytes .byte ≤ 536870912) (hcells : cells + 1 ≤ R.cells) (hslots : slots + N ≤ R.slots) (hdg : decode cc pc = .ok (.newarray .byte, 2))
    (kk : ∀ (q : Nat) (ad' : Nat → Nat) (H1 : Heap), ad' n = q → (∀ i, i < n → ad' i = ad i) → SF G kc A H0 (L ++ [(2, N, 0, [])]) ad' H1 locs → W p l e R s m args below meth c H1 locs (cells + 1) (slots + N) Q (F0 m (pc + 2) ls (.ref q :: rest))) : W p l e R s m args below meth c H locs cells slots Q (F0 m pc ls (.int x :: rest)) := by
  obtain ⟨hx, hb, -, -, hts, hK, -⟩ := C0
  obtain ⟨hP, hD, hS, hA⟩ := hw
  refine va_newa (atype := .byte) (ty := .byte) (a0 := (N, .inl (fun _ => 0))) (N' := N) hx hb (hts _ harr) rfl hK hP hD hS hA (fun cA => by rw [vp_cell_i]; rfl) hx0 hN hb8 hcells hslots hdg (fun q cA H1 hK1 hP1 hD1 hS1 => ?_)
  have e1 : cA = kc.1 1 := by
    have a1 := va_nm_byte (hK1.2 6 (cA, .byte) rfl).2
    have a2 := va_nm_byte (hK.2 1 (kc.1 1, .byte) rfl).2
    exact Option.some.inj (a1.symm.trans a2)
  subst e1
  have e2 : WF kc (L ++ [(2, N, 0, [])]) (adj n ad (fun _ => q)) = WF kc L ad ++ [(q, .inl (kc.1 1, (N, .inl (fun _ => 0))))] := by
    rw [WF_grow hn hs (fun _ _ => rfl)]
    rfl
  exact kk q (adj n ad (fun _ => q)) H1 (by simp [adj]) adj_lo ⟨by rw [e2]; exact hP1, by rw [e2]; exact hD1, hS1, hA⟩
theorem kz_newaz (C0 : Cx G kc p s m c args cc nL own) (hw : SF G kc A H0 L ad H locs) (n N : Nat) {x : Int32} (hn : L.length = n) (hs : LOk n L = true) (harr : Cond.arrayClass .boolean ∈ lw_gd) (hx0 : ¬ x < 0) (hN : x.toNatClampNeg = N) (hb8 : N * componentBytes .boolean ≤ 536870912) (hcells : cells + 1 ≤ R.cells) (hslots : slots + N ≤ R.slots) (hdg : decode cc pc = .ok (.newarray .boolean, 2))
    (kk : ∀ (q : Nat) (ad' : Nat → Nat) (H1 : Heap), ad' n = q → (∀ i, i < n → ad' i = ad i) → SF G kc A H0 (L ++ [(3, N, 0, [])]) ad' H1 locs → W p l e R s m args below meth c H1 locs (cells + 1) (slots + N) Q (F0 m (pc + 2) ls (.ref q :: rest))) : W p l e R s m args below meth c H locs cells slots Q (F0 m pc ls (.int x :: rest)) := by
  obtain ⟨hx, hb, -, -, hts, hK, -⟩ := C0
  obtain ⟨hP, hD, hS, hA⟩ := hw
  refine va_newa (atype := .boolean) (ty := .boolean) (a0 := (N, .inl (fun _ => 0))) (N' := N) hx hb (hts _ harr) rfl hK hP hD hS hA (fun cA => by rw [vp_cell_i]; rfl) hx0 hN hb8 hcells hslots hdg (fun q cA H1 hK1 hP1 hD1 hS1 => ?_)
  have e1 : cA = kc.1 2 := by
    have a1 := va_nm_boolean (hK1.2 6 (cA, .boolean) rfl).2
    have a2 := va_nm_boolean (hK.2 2 (kc.1 2, .boolean) rfl).2
    exact Option.some.inj (a1.symm.trans a2)
  subst e1
  have e2 : WF kc (L ++ [(3, N, 0, [])]) (adj n ad (fun _ => q)) = WF kc L ad ++ [(q, .inl (kc.1 2, (N, .inl (fun _ => 0))))] := by
    rw [WF_grow hn hs (fun _ _ => rfl)]
    rfl
  exact kk q (adj n ad (fun _ => q)) H1 (by simp [adj]) adj_lo ⟨by rw [e2]; exact hP1, by rw [e2]; exact hD1, hS1, hA⟩
theorem kz_newal (C0 : Cx G kc p s m c args cc nL own) (hw : SF G kc A H0 L ad H locs) (n N : Nat) {x : Int32} (hn : L.length = n) (hs : LOk n L = true) (harr : Cond.arrayClass .long ∈ lw_gd) (hx0 : ¬ x < 0) (hN : x.toNatClampNeg = N) (hb8 : N * componentBytes .long ≤ 536870912) (hcells : cells + 1 ≤ R.cells) (hslots : slots + N ≤ R.slots) (hdg : decode cc pc = .ok (.newarray .long, 2))
    (kk : ∀ (q : Nat) (ad' : Nat → Nat) (H1 : Heap), ad' n = q → (∀ i, i < n → ad' i = ad i) → SF G kc A H0 (L ++ [(4, N, 0, [])]) ad' H1 locs → W p l e R s m args below meth c H1 locs (cells + 1) (slots + N) Q (F0 m (pc + 2) ls (.ref q :: rest))) : W p l e R s m args below meth c H locs cells slots Q (F0 m pc ls (.int x :: rest)) := by
  obtain ⟨hx, hb, -, -, hts, hK, -⟩ := C0
  obtain ⟨hP, hD, hS, hA⟩ := hw
  refine va_newa (atype := .long) (ty := .long) (a0 := (N, .inr (.inl (fun _ => 0)))) (N' := N) hx hb (hts _ harr) rfl hK hP hD hS hA (fun cA => by rw [vp_cell_l]; rfl) hx0 hN hb8 hcells hslots hdg (fun q cA H1 hK1 hP1 hD1 hS1 => ?_)
  have e1 : cA = kc.1 3 := by
    have a1 := va_nm_long (hK1.2 6 (cA, .long) rfl).2
    have a2 := va_nm_long (hK.2 3 (kc.1 3, .long) rfl).2
    exact Option.some.inj (a1.symm.trans a2)
  subst e1
  have e2 : WF kc (L ++ [(4, N, 0, [])]) (adj n ad (fun _ => q)) = WF kc L ad ++ [(q, .inl (kc.1 3, (N, .inr (.inl (fun _ => 0)))))] := by
    rw [WF_grow hn hs (fun _ _ => rfl)]
    rfl
  exact kk q (adj n ad (fun _ => q)) H1 (by simp [adj]) adj_lo ⟨by rw [e2]; exact hP1, by rw [e2]; exact hD1, hS1, hA⟩
theorem kz_newqw (C0 : Cx G kc p s m c args cc nL own) (hw : SF G kc A H0 L ad H locs) (n N : Nat) {x : Int32} (hn : L.length = n) (hs : LOk n L = true) (harr : Cond.classLink own index "CarriedWorks$Works" ∈ lw_gd) (hx0 : ¬ x < 0) (hN : x.toNatClampNeg = N) (hb8 : N * 4 ≤ 536870912) (hcells : cells + 1 ≤ R.cells) (hslots : slots + N ≤ R.slots) (hdg : decode cc pc = .ok (.anewarray index, 3))
    (kk : ∀ (q : Nat) (ad' : Nat → Nat) (H1 : Heap), ad' n = q → (∀ i, i < n → ad' i = ad i) → SF G kc A H0 (L ++ [(5, N, 0, [])]) ad' H1 locs → W p l e R s m args below meth c H1 locs (cells + 1) (slots + N) Q (F0 m (pc + 3) ls (.ref q :: rest))) : W p l e R s m args below meth c H locs cells slots Q (F0 m pc ls (.int x :: rest)) := by
  obtain ⟨hx, hb, -, hown, hts, hKx⟩ := C0
  have hK := hKx.1
  obtain ⟨hP, hD, hS, hA⟩ := hw
  refine va_newq hx hb hown (hts _ harr) hKx.2.2.1 hK hP hD hS hA hx0 hN hb8 hcells hslots hdg (fun q cA H1 hK1 hP1 hD1 hS1 => ?_)
  have e1 : cA = kc.1 4 := by
    obtain ⟨-, -, -, -, -, a1⟩ := (hK1.2 6 (cA, .object "CarriedWorks$Works") rfl).2
    obtain ⟨-, -, -, -, -, a2⟩ := (hK.2 4 (kc.1 4, .object "CarriedWorks$Works") rfl).2
    exact Option.some.inj (a1.symm.trans a2)
  subst e1
  have e2 : WF kc (L ++ [(5, N, 0, [])]) (adj n ad (fun _ => q)) = WF kc L ad ++ [(q, .inl (kc.1 4, N, .inr (.inr (.inr (.inr (fun _ => none))))))] := by
    rw [WF_grow hn hs (fun _ _ => rfl)]
    rfl
  exact kk q (adj n ad (fun _ => q)) H1 (by simp [adj]) adj_lo ⟨by rw [e2]; exact hP1, by rw [e2]; exact hD1, hS1, hA⟩
theorem kz_newqp (C0 : Cx G kc p s m c args cc nL own) (hw : SF G kc A H0 L ad H locs) (n N : Nat) {x : Int32} (hn : L.length = n) (hs : LOk n L = true) (harr : Cond.classLink own index "CarriedWorks$Program" ∈ lw_gd) (hx0 : ¬ x < 0) (hN : x.toNatClampNeg = N) (hb8 : N * 4 ≤ 536870912) (hcells : cells + 1 ≤ R.cells) (hslots : slots + N ≤ R.slots) (hdg : decode cc pc = .ok (.anewarray index, 3))
    (kk : ∀ (q : Nat) (ad' : Nat → Nat) (H1 : Heap), ad' n = q → (∀ i, i < n → ad' i = ad i) → SF G kc A H0 (L ++ [(6, N, 0, [])]) ad' H1 locs → W p l e R s m args below meth c H1 locs (cells + 1) (slots + N) Q (F0 m (pc + 3) ls (.ref q :: rest))) : W p l e R s m args below meth c H locs cells slots Q (F0 m pc ls (.int x :: rest)) := by
  obtain ⟨hx, hb, -, hown, hts, hKx⟩ := C0
  have hK := hKx.1
  obtain ⟨hP, hD, hS, hA⟩ := hw
  refine va_newq hx hb hown (hts _ harr) hKx.2.2.2.1 hK hP hD hS hA hx0 hN hb8 hcells hslots hdg (fun q cA H1 hK1 hP1 hD1 hS1 => ?_)
  have e1 : cA = kc.1 5 := by
    obtain ⟨-, -, -, -, -, a1⟩ := (hK1.2 6 (cA, .object "CarriedWorks$Program") rfl).2
    obtain ⟨-, -, -, -, -, a2⟩ := (hK.2 5 (kc.1 5, .object "CarriedWorks$Program") rfl).2
    exact Option.some.inj (a1.symm.trans a2)
  subst e1
  have e2 : WF kc (L ++ [(6, N, 0, [])]) (adj n ad (fun _ => q)) = WF kc L ad ++ [(q, .inl (kc.1 5, N, .inr (.inr (.inr (.inr (fun _ => none))))))] := by
    rw [WF_grow hn hs (fun _ _ => rfl)]
    rfl
  exact kk q (adj n ad (fun _ => q)) H1 (by simp [adj]) adj_lo ⟨by rw [e2]; exact hP1, by rw [e2]; exact hD1, hS1, hA⟩
theorem fvV_set {ad : Nat → Nat} {fs : List FV} {k : Nat} {f : FV} : (fs.map (fvV ad)).set k (fvV ad f) = (fs.set k f).map (fvV ad) := by rw [List.map_set]
/-- a constructor puts into a final field -/
theorem kz_pF (C0 : Cx G kc p s m c args cc nL own) (hnm : meth.name = "<init>") (hw : SF G kc A H0 L ad H locs) (i k : Nat) {a ci : Nat} {z : Int32} {fs : List FV} {ty : FieldType} {v : Value} (f : FV) (hi : L[i]? = some (0, ci, z, fs)) (hk : k < fs.length) (ha : ad i = a) (hv : fvV ad f = v) (hl : FF own index ci k ty) (hn : narrow ty v = v) (hfit : fits ty v = true) (hdg : decode cc pc = .ok (.putfield index, 3))
    (kk : ∀ (H1 : Heap) (locs1 : List Loc), SF G kc A H0 (L.set i (0, ci, z, fs.set k f)) ad H1 locs1 → W p l e R s m args below meth c H1 locs1 cells slots Q (F0 m (pc + 3) ls rest)) : W p l e R s m args below meth c H locs cells slots Q (F0 m pc ls (v :: .ref a :: rest)) := by
  subst ha; subst hv
  obtain ⟨hx, hb, -, hown, hts, hK, hN, -⟩ := C0
  obtain ⟨hP, hD, hS, hA⟩ := hw
  obtain ⟨C, T, N, ty0, hc, hin, hkN, hlk, hty, hnm2, hfin, hdecl, hd⟩ := hl
  have he : (WF kc L ad)[i]? = some (ad i, .inr (ci, fs.map (fvV ad))) := WF_get hi
  have hs : (WF kc L ad).set i (ad i, .inr (ci, (fs.map (fvV ad)).set k (fvV ad f))) = WF kc (L.set i (0, ci, z, fs.set k f)) ad := by
    rw [fvV_set]
    exact WF_set (y := (0, ci, z, fs.set k f)) hi
  refine va_putF hx hb hts hin ty0 hty hnm2 hown hK hP hD hS i he hc k hkN (hts _ hlk) (fun _ h => h) hfin hnm hdecl hd hn hfit (by simpa using hk) hdg (fun H1 locs1 a1 a2 a3 => ?_)
  rw [hs] at a1 a2
  exact kk H1 locs1 ⟨a1, a2, a3, hA⟩
/-- and into another -/
theorem kz_p (C0 : Cx G kc p s m c args cc nL own) (hw : SF G kc A H0 L ad H locs) (i k : Nat) {a ci : Nat} {z : Int32} {fs : List FV} {ty : FieldType} {v : Value} (f : FV) (hi : L[i]? = some (0, ci, z, fs)) (hk : k < fs.length) (ha : ad i = a) (hv : fvV ad f = v) (hl : FP own index ci k ty) (hn : narrow ty v = v) (hfit : fits ty v = true) (hdg : decode cc pc = .ok (.putfield index, 3))
    (kk : ∀ (H1 : Heap) (locs1 : List Loc), SF G kc A H0 (L.set i (0, ci, z, fs.set k f)) ad H1 locs1 → W p l e R s m args below meth c H1 locs1 cells slots Q (F0 m (pc + 3) ls rest)) : W p l e R s m args below meth c H locs cells slots Q (F0 m pc ls (v :: .ref a :: rest)) := by
  subst ha; subst hv
  obtain ⟨hx, hb, -, hown, hts, hK, hN, -⟩ := C0
  obtain ⟨hP, hD, hS, hA⟩ := hw
  obtain ⟨C, T, N, ty0, hc, hin, hkN, hlk, hty, hnm2, hfin, hd⟩ := hl
  have he : (WF kc L ad)[i]? = some (ad i, .inr (ci, fs.map (fvV ad))) := WF_get hi
  have hs : (WF kc L ad).set i (ad i, .inr (ci, (fs.map (fvV ad)).set k (fvV ad f))) = WF kc (L.set i (0, ci, z, fs.set k f)) ad := by
    rw [fvV_set]
    exact WF_set (y := (0, ci, z, fs.set k f)) hi
  rcases hlk with hlk | ⟨host, hlk⟩
  · refine va_put hx hb hts hin ty0 hty hnm2 hown hK hP hD hS i he hc k hkN (hts _ hlk) (fun _ h => h) hfin hd hn hfit (by simpa using hk) hdg (fun H1 locs1 a1 a2 a3 => ?_)
    rw [hs] at a1 a2
    exact kk H1 locs1 ⟨a1, a2, a3, hA⟩
  · refine va_putN hx hb hts hin ty0 hty hnm2 hown hK hP hD hS i he hc k hkN (va_Nw.use rfl (hN _ hlk)) (fun _ h => h) hfin hd hn hfit (by simpa using hk) hdg (fun H1 locs1 a1 a2 a3 => ?_)
    rw [hs] at a1 a2
    exact kk H1 locs1 ⟨a1, a2, a3, hA⟩
theorem kz_g (C0 : Cx G kc p s m c args cc nL own) (hw : SF G kc A H0 L ad H locs) (i k : Nat) {a ci : Nat} {z : Int32} {fs : List FV} {v : Value} (f : FV) (hi : L[i]? = some (0, ci, z, fs)) (hf : fs[k]? = some f) (ha : ad i = a) (hv : fvV ad f = v) (hl : FL own index ci k) (hdg : decode cc pc = .ok (.getfield index, 3))
    (kk : W p l e R s m args below meth c H locs cells slots Q (F0 m (pc + 3) ls (v :: rest))) : W p l e R s m args below meth c H locs cells slots Q (F0 m pc ls (.ref a :: rest)) := by
  subst ha; subst hv
  obtain ⟨hx, hb, -, hown, hts, hK, hN, -⟩ := C0
  obtain ⟨C, T, N, hc, hin, hk, hlk⟩ := hl
  have he : (WF kc L ad)[i]? = some (ad i, .inr (ci, fs.map (fvV ad))) := WF_get hi
  have hg : (fs.map (fvV ad))[k]? = some (fvV ad f) := by rw [List.getElem?_map, hf]; rfl
  rcases hlk with hlk | ⟨host, hlk⟩
  · exact va_get hx hb hts hin hown hK hw.1 i he hc k hk (hts _ hlk) (fun _ h => h) hg hdg kk
  · exact va_getN hx hb hts hin hown hK hw.1 i he hc k hk (va_Nw.use rfl (hN _ hlk)) (fun _ h => h) hg hdg kk
theorem exl_upd {v x : Int32} {es : List FV} {k : Nat} : upd (exl v es) k x = exl v ((k, x, 0) :: es) := by
  funext j
  simp [upd, exl]
/-- an int into a row that is being made -/
theorem kz_iast (C0 : Cx G kc p s m c args cc nL own) (hw : SF G kc A H0 L ad H locs) (i k : Nat) {a N : Nat} {x v z : Int32} {es : List FV} (hi : L[i]? = some (1, N, z, es)) (ha : ad i = a) (hx : vp_in x N) (hk : x.toNatClampNeg = k) (hdg : decode cc pc = .ok (.iastore, 1))
    (kk : ∀ (H1 : Heap) (locs1 : List Loc), SF G kc A H0 (L.set i (1, N, z, (k, v, 0) :: es)) ad H1 locs1 → W p l e R s m args below meth c H1 locs1 cells slots Q (F0 m (pc + 1) ls rest)) : W p l e R s m args below meth c H locs cells slots Q (F0 m pc ls (.int v :: .int x :: .ref a :: rest)) := by
  subst ha; subst hk
  obtain ⟨hx0, hb, -, -, -, hK, -⟩ := C0
  obtain ⟨hP, hD, hS, hA⟩ := hw
  have he : (WF kc L ad)[i]? = some (ad i, .inl (kc.1 0, N, .inl (exl z es))) := WF_get hi
  have hs : (WF kc L ad).set i (ad i, .inl (kc.1 0, N, .inl (upd (exl z es) x.toNatClampNeg v))) = WF kc (L.set i (1, N, z, (x.toNatClampNeg, v, 0) :: es)) ad := by
    rw [exl_upd]
    exact WF_set (y := (1, N, z, (x.toNatClampNeg, v, 0) :: es)) hi
  refine va_iast hx0 hb hK hP hD hS i 0 he rfl hx hdg (fun H1 locs1 a1 a2 a3 => ?_)
  rw [hs] at a1 a2
  exact kk H1 locs1 ⟨a1, a2, a3, hA⟩
theorem rfs_up {ad : Nat → Nat} {fs : List FV} {j : Nat} : va_up (fun k => (rfs fs k).map ad) fs.length (some (ad j)) = fun k => (rfs (fs ++ [(2, 0, j)]) k).map ad := by
  funext k
  unfold va_up rfs
  by_cases h : k = fs.length
  · subst h
    simp [rfo]
  · rw [if_neg h]
    by_cases h2 : k < fs.length
    · rw [List.getElem?_append_left h2]
    · have e1 : fs[k]? = none := List.getElem?_eq_none (by omega)
      have e2 : (fs ++ [((2, 0, j) : FV)])[k]? = none := List.getElem?_eq_none (by simp only [List.length_append, List.length_cons, List.length_nil]; omega)
      rw [e2]
      show Option.map ad ((fs[k]?).bind rfo) = _
      rw [e1]

theorem kz_aastw (C0 : Cx G kc p s m c args cc nL own) (hw : SF G kc A H0 L ad H locs) (i j : Nat) {a b N ci : Nat} {x z z2 : Int32} {r : vw_C} {fs es : List FV} (hi : L[i]? = some (5, N, z, es)) (hj : L[j]? = some (0, ci, z2, fs)) (hc : vwCl[ci]? = some r) (hr : r.1 = "CarriedWorks$Works") (ha : ad i = a) (hb : ad j = b) (hx : vp_in x N) (hk : x.toNatClampNeg = es.length) (hdg : decode cc pc = .ok (.aastore, 1))
    (kk : ∀ (H1 : Heap) (locs1 : List Loc), SF G kc A H0 (L.set i (5, N, z, es ++ [(2, 0, j)])) ad H1 locs1 → W p l e R s m args below meth c H1 locs1 cells slots Q (F0 m (pc + 1) ls rest)) : W p l e R s m args below meth c H locs cells slots Q (F0 m pc ls (.ref b :: .int x :: .ref a :: rest)) := by
  subst ha; subst hb
  obtain ⟨hx0, hb0, -, -, -, hK, -⟩ := C0
  obtain ⟨hP, hD, hS, hA⟩ := hw
  have he : (WF kc L ad)[i]? = some (ad i, .inl (kc.1 4, N, .inr (.inr (.inr (.inr (fun k => (rfs es k).map ad)))))) := WF_get hi
  have hv : (WF kc L ad)[j]? = some (ad j, .inr (ci, fs.map (fvV ad))) := WF_get hj
  have hs : (WF kc L ad).set i (ad i, .inl (kc.1 4, N, .inr (.inr (.inr (.inr (va_up (fun k => (rfs es k).map ad) x.toNatClampNeg (some (ad j)))))))) = WF kc (L.set i (5, N, z, es ++ [(2, 0, j)])) ad := by
    rw [hk, rfs_up]
    exact WF_set (y := (5, N, z, es ++ [(2, 0, j)])) hi
  refine va_astq (r := r) hx0 hb0 hK hP hD hS i 4 j ci he (by rw [hr]; rfl) hv hc hx hdg (fun H1 locs1 a1 a2 a3 => ?_)
  rw [hs] at a1 a2
  exact kk H1 locs1 ⟨a1, a2, a3, hA⟩
theorem kz_aastp (C0 : Cx G kc p s m c args cc nL own) (hw : SF G kc A H0 L ad H locs) (i j : Nat) {a b N ci : Nat} {x z z2 : Int32} {r : vw_C} {fs es : List FV} (hi : L[i]? = some (6, N, z, es)) (hj : L[j]? = some (0, ci, z2, fs)) (hc : vwCl[ci]? = some r) (hr : r.1 = "CarriedWorks$Program") (ha : ad i = a) (hb : ad j = b) (hx : vp_in x N) (hk : x.toNatClampNeg = es.length) (hdg : decode cc pc = .ok (.aastore, 1))
    (kk : ∀ (H1 : Heap) (locs1 : List Loc), SF G kc A H0 (L.set i (6, N, z, es ++ [(2, 0, j)])) ad H1 locs1 → W p l e R s m args below meth c H1 locs1 cells slots Q (F0 m (pc + 1) ls rest)) : W p l e R s m args below meth c H locs cells slots Q (F0 m pc ls (.ref b :: .int x :: .ref a :: rest)) := by
  subst ha; subst hb
  obtain ⟨hx0, hb0, -, -, -, hK, -⟩ := C0
  obtain ⟨hP, hD, hS, hA⟩ := hw
  have he : (WF kc L ad)[i]? = some (ad i, .inl (kc.1 5, N, .inr (.inr (.inr (.inr (fun k => (rfs es k).map ad)))))) := WF_get hi
  have hv : (WF kc L ad)[j]? = some (ad j, .inr (ci, fs.map (fvV ad))) := WF_get hj
  have hs : (WF kc L ad).set i (ad i, .inl (kc.1 5, N, .inr (.inr (.inr (.inr (va_up (fun k => (rfs es k).map ad) x.toNatClampNeg (some (ad j)))))))) = WF kc (L.set i (6, N, z, es ++ [(2, 0, j)])) ad := by
    rw [hk, rfs_up]
    exact WF_set (y := (6, N, z, es ++ [(2, 0, j)])) hi
  refine va_astq (r := r) hx0 hb0 hK hP hD hS i 5 j ci he (by rw [hr]; rfl) hv hc hx hdg (fun H1 locs1 a1 a2 a3 => ?_)
  rw [hs] at a1 a2
  exact kk H1 locs1 ⟨a1, a2, a3, hA⟩
theorem kz_obj (C0 : Cx G kc p s m c args cc nL own) (hsz : ls.size = nL) {a : Nat} (h1 : Cond.methodLink own index Lib.objectInit ∈ lw_gd) (h2 : Cond.instanceMethod Lib.objectInit ∈ lw_gd) (h3 : Cond.code Lib.objectInit ⟨#[0xb1]⟩ 1 none ∈ lw_gd) (hf : 1 ≤ R.frames) (hlo : 20 ≤ R.locals) (hrest : (rest.map fun v => v.category).sum ≤ 8) (hdg : decode cc pc = .ok (.invokespecial index, 3))
    (kk : W p l e R s m args below meth c H locs cells slots Q (F0 m (pc + 3) ls rest)) : W p l e R s m args below meth c H locs cells slots Q (F0 m pc ls (.ref a :: rest)) := by
  obtain ⟨hx, hb, hml, hown, hts, -⟩ := C0
  exact W.objInit hx hb hown (hts _ h1) (hts _ h2) (hts _ h3) rfl (by rw [hml]; exact hsz) rfl hdg hf (by show 2 * 0 + _ + 12 ≤ _; omega) kk
end KROWS
def PreK (G : va_G) (kc : KC) (av : List Value) (L : List FE) (ad : Nat → Nat) (sz : Nat) : Array Value → State → Prop :=
  va_Pc av (fun U => U.heap.size = sz ∧ va_P G vwCl (WF kc L ad) U.heap ∧ Kx G kc U ∧ va_D (fun _ => True) (WF kc L ad) ∧ RO0 kc (va_A (WF kc L ad) sz) U U.heap)
theorem PreK.blind {G : va_G} {kc : KC} {av : List Value} {L : List FE} {ad : Nat → Nat} {sz : Nat} : FrameBlind (PreK G kc av L ad sz) := by
  intro a U g mk q
  obtain ⟨q0, q1, qP, qK, qD, qR⟩ := q
  exact ⟨q0, q1, qP, qK.same (U := U.calling g mk a) rfl, qD, qR.same (U := U.calling g mk a) rfl⟩
/-- a constructor's end: the cells that it made, in order, its own the first -/
def QK (G : va_G) (kc : KC) (LK : List FE) (a : Nat) (A : Nat → Prop) : Array Value → State → Outcome → State → Prop := va_Qv (fun ad => ad 0 = a) (fun (ad : Nat → Nat) t => va_P G vwCl (WF kc LK ad) t.heap ∧ va_D A (WF kc LK ad)) A
def MK (l : Launch) (G : va_G) (kc : KC) (y : MethodName) (cc : ByteArray) (n fr lo mc ms : Nat) (vs : List Value) (x0 : FE) (LK : List FE) : Prop :=
  ∀ (a sz : Nat), Met l y (wU y cc n none) { frames := fr, cells := mc, slots := ms, locals := lo } (PreK G kc (.ref a :: vs) [x0] (fun _ => a) sz) (QK G kc LK a (va_A (WF kc [x0] (fun _ => a)) sz)) mc ms (va_A (WF kc [x0] (fun _ => a)) sz)
theorem k_body {l : Launch} {G : va_G} {kc : KC} {y : MethodName} {cc : ByteArray} {n : Nat} {ret : Option FieldType} {rm : Room} {av : List Value} {L : List FE} {ad : Nat → Nat} {Qc : (Nat → Prop) → Array Value → State → Outcome → State → Prop} (hy : plainFor y = true) (hn : (lg_sl av).length ≤ n)
    (body : ∀ (p : Program) (e : Env) (s : State) (m : MethodId) (below : List Frame) (meth : Method) (c : Code) (A : Nat → Prop), Cx G kc p s m c av.toArray cc n y.cls → meth.sig.returnType = ret → meth.locks = false → meth.name = y.name → SF G kc A s.heap L ad s.heap [] → RO0 kc A s s.heap → ∀ ls : Array Slot, lv_has ls n (lv_args 0 av) → W p l e rm s m av.toArray below meth c s.heap [] 0 0 (MQ below (Qc A) av.toArray s rm.cells rm.slots A) (F0 m 0 ls [])) (sz : Nat) :
    Met l y (wU y cc n ret) rm (PreK G kc av L ad sz) (Qc (va_A (WF kc L ad) sz)) rm.cells rm.slots (va_A (WF kc L ad) sz) := by
  refine va_MetF (cc := cc) (maxL := n) (ret := ret) hy rfl ?_
  intro p e s m args below meth c s₁ B hml hv
  obtain ⟨rfl, hsz, hP, hK, hD0, hRo⟩ := hv
  have hts := atoms_spec (ws := wU y cc n ret) B.pre
  subst hsz
  have hl := lv_entry av (n := n) hn
  rw [lg_entry_eq]
  exact body p e s m below meth c (va_A (WF kc L ad) s.heap.size) ⟨B.exec, B.bytes, hml, findClass_of_methodNamed B.named, fun w hw => hts w (List.mem_cons_of_mem _ hw), hK⟩ B.returns B.notSynchronized (name_of_methodNamed B.named B.method).1 ⟨hP, hD0.self, va_S.rf, fun q h => Or.inr h⟩ hRo _ hl
section KCALL
variable {p : Program} {l : Launch} {e : Env} {R : Room} {s : State} {m : MethodId} {args : Array Value} {below : List Frame} {meth : Method} {c : Code} {H : Heap} {locs : List Loc} {cells slots mc ms : Nat} {Q : State → Prop}
variable {cc cc' : ByteArray} {nL n' fr lo na : Nat} {own : String} {pc : Nat} {ls : Array Slot} {rest st0 vs : List Value} {G : va_G} {kc : KC} {A : Nat → Prop} {H0 : Heap} {L LK : List FE} {ad : Nat → Nat} {index : Nat} {y : MethodName}
theorem kz_vret {a : Nat} (C0 : Cx G kc p s m c args cc nL own) (hr : meth.sig.returnType = none) (hlk : meth.locks = false) (hw : SF G kc A s.heap L ad H locs) (ha : ad 0 = a) (hL : L = LK) (hdg : decode cc pc = .ok (.return_, 1)) :
    W p l e R s m args below meth c H locs cells slots (MQ below (QK G kc LK a A) args s cells slots A) (F0 m pc ls []) := by
  subst hL
  exact W.vret C0.1 C0.2.1 hr (fun t ht hW => ⟨⟨ad, rfl, ha, by rw [ht]; exact hw.1, hw.2.1⟩, hw.2.2.1.F ht⟩) hw.2.2.1.2.2 hdg hlk
/-- a constructor's call, of the cell that was made last -/
theorem kz_call (C0 : Cx G kc p s m c args cc nL own) (hRo : RO0 kc A s s.heap) {x0 : FE} (hM : MK l G kc y cc' n' fr lo mc ms vs x0 LK) (n : Nat) {a : Nat} (hw : SF G kc A s.heap (L ++ [x0]) ad H locs) (hn : L.length = n) (hs : LOk n L = true) (hx0 : ∀ a b, ceF kc a x0 = ceF kc b x0) (ha : ad n = a) (hv : CI y cc' n' na) (hlk : LKm own index y) (hna : vs.length = na) (hsz : ls.size = nL) (hst : st0 = vs.reverse ++ .ref a :: rest) (hroom : fr + 1 ≤ R.frames ∧ 8 + (n' + 11) + lo ≤ R.locals) (hW : (rest.map fun v => v.category).sum ≤ 8) (hdg : decode cc pc = .ok (.invokespecial index, 3)) (hf : cells + mc ≤ R.cells ∧ slots + ms ≤ R.slots)
    (kk : ∀ (ad' : Nat → Nat) (H1 : Heap) (locs1 : List Loc), ad' n = a → (∀ i, i < n → ad' i = ad i) → SF G kc A s.heap (L ++ shF n LK) ad' H1 locs1 → W p l e R s m args below meth c H1 locs1 (cells + mc) (slots + ms) Q (F0 m (pc + 3) ls rest)) : W p l e R s m args below meth c H locs cells slots Q (F0 m pc ls st0) := by
  obtain ⟨hP, hD, hS, hA⟩ := hw
  have e0 : WF kc (L ++ [x0]) ad = WF kc L ad ++ WF kc [x0] (fun _ => a) := by
    apply List.ext_getElem?
    intro j
    subst hn
    simp only [WF, List.getElem?_mapIdx]
    by_cases hj : j < L.length
    · rw [List.getElem?_append_left hj, List.getElem?_append_left (by simpa using hj), List.getElem?_mapIdx]
    · rw [List.getElem?_append_right (by omega), List.getElem?_append_right (by simpa using hj), List.length_mapIdx, List.getElem?_mapIdx]
      cases h2 : [x0][j - L.length]? with
      | none => rfl
      | some y =>
        have h3 : j - L.length < 1 := (List.getElem?_eq_some_iff.mp h2).1
        have h4 : j = L.length := by omega
        have h5 : j - L.length = 0 := by omega
        rw [h5] at h2
        cases h2
        subst h4
        simp only [Option.map_some, ha, hx0 ad (fun _ => a)]
  rw [e0] at hP hD
  have hPt : va_P G vwCl (WF kc [x0] (fun _ => a)) H := fun k q hq => hP ((WF kc L ad).length + k) q (by rw [List.getElem?_append_right (by omega), Nat.add_sub_cancel_left]; exact hq)
  have hDt : va_D (fun _ => True) (WF kc [x0] (fun _ => a)) := ⟨fun i j x y hi hj hxy => by
      have h1 := hD.1 ((WF kc L ad).length + i) ((WF kc L ad).length + j) x y (by rw [List.getElem?_append_right (by omega), Nat.add_sub_cancel_left]; exact hi) (by rw [List.getElem?_append_right (by omega), Nat.add_sub_cancel_left]; exact hj) hxy
      omega, fun _ _ _ => trivial⟩
  have hFc : ∀ q, va_A (WF kc [x0] (fun _ => a)) H.size q → A q := by
    intro q h
    rcases h with ⟨k, e, h⟩ | h
    · exact hD.2 ((WF kc L ad).length + k) (q, e) (by rw [List.getElem?_append_right (by omega), Nat.add_sub_cancel_left]; exact h)
    · exact hA q (Nat.le_trans hS.1 h)
  have hKm := C0.2.2.2.2.2
  have hr := zr_I (As := vs) (rest := rest) (locs := locs) (st0 := st0) (e := e) (below := below) (meth := meth) (cells := cells) (slots := slots) C0 (hM a H.size) hv hlk ⟨PreK.blind, fun U hU hW => ⟨rfl, by rw [hU], by rw [hU]; exact hPt, hKm.moved hW, hDt, by rw [hU]; exact hRo.on hS hW hFc⟩⟩ hna hsz hst hroom hW hdg hf
  refine va_callv hr hS (fun q _ h => hFc q h) hFc (fun ad2 t H1 locs1 ht hvm hp hB hz1 hk1 hS1 => ?_)
  obtain ⟨hP1, hD1⟩ := hB
  rw [ht] at hP1
  obtain ⟨hP2, hD2⟩ := va_tail hP hD hk1 hFc hP1 hD1
  rw [← WF_app hn hs] at hP2 hD2
  refine kk (adj n ad ad2) H1 locs1 ?_ adj_lo ⟨hP2, hD2, hS1, hA⟩
  have h0 := adj_hi (n := n) (ad := ad) (ad2 := ad2) 0
  rw [Nat.zero_add] at h0
  rw [h0]
  exact hp
end KCALL
/-! from the cells as they were made to the world of the walks -/
def shO (f : FV) : Nat × Nat := match f.1 with
  | 0 => (0, 0)
  | 1 => (1, f.2.2)
  | 2 => (2, 0)
  | 4 => (2, 0)
  | _ => (3, 0)
def shE (x : FE) : ShE := (x.1, x.2.1, if x.1 = 0 then x.2.2.2.map shO else if 5 ≤ x.1 then x.2.2.2.map (fun f => (1, f.2.2)) else [])
def sgF (L : List FE) : Sg := (fun i k => match L[i]? with
    | some (0, _, _, fs) => (match fs[k]? with | some f => f.2.1 | none => 0)
    | some (_, _, v, es) => exl v es k
    | none => 0, fun _ _ => 0, fun i k => match L[i]? with
    | some (0, _, _, fs) => (fs[k]?).bind rfo
    | _ => none)
def okA (x : FE) : Bool := if 5 ≤ x.1 then decide (x.1 ≤ 6) && x.2.2.2.all (fun f => f.1 == 2) else true
theorem WF_WW {kc : KC} {L : List FE} {ad : Nat → Nat} (hL : L.all okA = true) : WF kc L ad = WW kc (L.map shE) ad (sgF L) := by
  apply List.ext_getElem?
  intro i
  simp only [WF, WW, List.getElem?_mapIdx, List.getElem?_map]
  cases hi : L[i]? with
  | none => rfl
  | some x =>
    have hk := List.all_eq_true.mp hL x (List.mem_of_getElem? hi)
    obtain ⟨t, n, v, fs⟩ := x
    simp only [Option.map_some]
    congr 1
    have h1 : ∀ (t' : Nat), t = t' + 1 → (sgF L).1 i = exl v fs := by
      intro t' ht
      subst ht
      funext k
      simp only [sgF, hi]
    match t with
    | 0 =>
      have h0 : fs.map (fvV ad) = fl ad (sgF L) i (fs.map shO) := by
        apply List.ext_getElem?
        intro k
        simp only [fl, List.getElem?_mapIdx, List.getElem?_map]
        cases hf : fs[k]? with
        | none => rfl
        | some f =>
          simp only [Option.map_some]
          congr 1
          obtain ⟨ft, fv0, fj⟩ := f
          match ft with
          | 0 => simp [fvV, fv, shO, sgF, hi, hf]
          | 1 => simp [fvV, fv, shO]
          | 2 => simp [fvV, fv, shO, sgF, hi, hf, rfo, va_rf]
          | 3 => simp [fvV, fv, shO]
          | 4 => simp [fvV, fv, shO, sgF, hi, hf, rfo, va_rf]
          | _ + 5 => simp [fvV, fv, shO]
      simp only [ceF, ce, shE, if_true, h0]
    | 1 => simp only [ceF, ce, shE]; rw [h1 0 rfl]
    | 2 => simp only [ceF, ce, shE]; rw [h1 1 rfl]
    | 3 => simp only [ceF, ce, shE]; rw [h1 2 rfl]
    | 4 => simp only [ceF, ce, shE]; rfl
    | 5 =>
      have h5 : (fun j => (rfs fs j).map ad) = (fun j => (((fs.map (fun f => ((1, f.2.2) : Nat × Nat)))[j]?).map (fun f => ad f.2))) := by
        funext j
        rw [List.getElem?_map]
        unfold rfs
        cases hf : fs[j]? with
        | none => rfl
        | some f =>
          simp only [okA, show (5 ≤ 5) from Nat.le_refl 5, if_true, Bool.and_eq_true] at hk
          have h2 := List.all_eq_true.mp hk.2 f (List.mem_of_getElem? hf)
          obtain ⟨ft, fv0, fj⟩ := f
          have h3 : ft = 2 := by simpa using h2
          subst h3
          rfl
      simp only [ceF, ce, shE, h5]
      rfl
    | 6 =>
      have h5 : (fun j => (rfs fs j).map ad) = (fun j => (((fs.map (fun f => ((1, f.2.2) : Nat × Nat)))[j]?).map (fun f => ad f.2))) := by
        funext j
        rw [List.getElem?_map]
        unfold rfs
        cases hf : fs[j]? with
        | none => rfl
        | some f =>
          simp only [okA, show (5 ≤ 6) from by decide, if_true, Bool.and_eq_true] at hk
          have h2 := List.all_eq_true.mp hk.2 f (List.mem_of_getElem? hf)
          obtain ⟨ft, fv0, fj⟩ := f
          have h3 : ft = 2 := by simpa using h2
          subst h3
          rfl
      simp only [ceF, ce, shE, h5]
      rfl
    | t + 7 =>
      exfalso
      simp only [okA, show 5 ≤ t + 7 from by omega, if_true, Bool.and_eq_true, decide_eq_true_eq] at hk
      omega
theorem SF.St {G : va_G} {kc : KC} {A : Nat → Prop} {H0 : Heap} {L : List FE} {ad : Nat → Nat} {H : Heap} {locs : List Loc} (hL : L.all okA = true) (h : SF G kc A H0 L ad H locs) : St G kc A H0 (L.map shE) ad (sgF L) H locs := by
  obtain ⟨h1, h2, h3, h4⟩ := h
  rw [WF_WW hL] at h1 h2
  exact ⟨h1, h2, h3, h4⟩
