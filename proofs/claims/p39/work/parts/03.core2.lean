/-! CORE 2: rows of arrays, returns, entries, calls -/
section ZARR
variable {p : Program} {l : Launch} {e : Env} {R : Room} {s : State} {m : MethodId} {args : Array Value} {below : List Frame} {meth : Method} {c : Code} {H : Heap} {locs : List Loc} {cells slots : Nat} {Q : State → Prop}
variable {cc : ByteArray} {nL : Nat} {own : String} {pc : Nat} {ls : Array Slot} {rest : List Value} {G : va_G} {kc : KC} {A : Nat → Prop} {H0 : Heap} {sh : List ShE} {ad : Nat → Nat} {σ : Sg} {index : Nat}
theorem upd_u2 (f : Nat → Nat → Int32) (i k : Nat) (x : Int32) : upd (f i) k x = u2 f i k x i := by funext j; simp [upd, u2]
theorem updL_u2 (f : Nat → Nat → Int64) (i k : Nat) (x : Int64) : vp_updL (f i) k x = u2 f i k x i := by funext j; simp [vp_updL, u2]
theorem z_iald (C0 : Cx G kc p s m c args cc nL own) (hw : St G kc A H0 sh ad σ H locs) (i : Nat) {n : Nat} (hf : ak sh i = some (1, n)) {x : Int32} (hin : vp_in x n) (hdg : decode cc pc = .ok (.iaload, 1))
    (kk : W p l e R s m args below meth c H locs cells slots Q (F0 m (pc + 1) ls (.int (σ.1 i x.toNatClampNeg) :: rest))) : W p l e R s m args below meth c H locs cells slots Q (F0 m pc ls (.int x :: .ref (ad i) :: rest)) := by
  obtain ⟨hx, hb, -, -, -, hK, -⟩ := C0
  obtain ⟨fs, h1⟩ := ak_inv hf
  exact va_iald hx hb hK hw.1 i 0 (WW_get h1) rfl hin hdg kk
theorem z_bald (C0 : Cx G kc p s m c args cc nL own) (hw : St G kc A H0 sh ad σ H locs) (i : Nat) {n : Nat} (hf : ak sh i = some (2, n)) {x : Int32} (hin : vp_in x n) (hdg : decode cc pc = .ok (.baload, 1))
    (kk : W p l e R s m args below meth c H locs cells slots Q (F0 m (pc + 1) ls (.int (σ.1 i x.toNatClampNeg) :: rest))) : W p l e R s m args below meth c H locs cells slots Q (F0 m pc ls (.int x :: .ref (ad i) :: rest)) := by
  obtain ⟨hx, hb, -, -, -, hK, -⟩ := C0
  obtain ⟨fs, h1⟩ := ak_inv hf
  exact va_bald hx hb hK hw.1 i 1 (WW_get h1) rfl hin hdg kk
theorem z_zald (C0 : Cx G kc p s m c args cc nL own) (hw : St G kc A H0 sh ad σ H locs) (i : Nat) {n : Nat} (hf : ak sh i = some (3, n)) {x : Int32} (hin : vp_in x n) (hdg : decode cc pc = .ok (.baload, 1))
    (kk : W p l e R s m args below meth c H locs cells slots Q (F0 m (pc + 1) ls (.int (σ.1 i x.toNatClampNeg) :: rest))) : W p l e R s m args below meth c H locs cells slots Q (F0 m pc ls (.int x :: .ref (ad i) :: rest)) := by
  obtain ⟨hx, hb, -, -, -, hK, -⟩ := C0
  obtain ⟨fs, h1⟩ := ak_inv hf
  exact va_zald hx hb hK hw.1 i 2 (WW_get h1) rfl hin hdg kk
theorem z_lald (C0 : Cx G kc p s m c args cc nL own) (hw : St G kc A H0 sh ad σ H locs) (i : Nat) {n : Nat} (hf : ak sh i = some (4, n)) {x : Int32} (hin : vp_in x n) (hdg : decode cc pc = .ok (.laload, 1))
    (kk : W p l e R s m args below meth c H locs cells slots Q (F0 m (pc + 1) ls (.long (σ.2.1 i x.toNatClampNeg) :: rest))) : W p l e R s m args below meth c H locs cells slots Q (F0 m pc ls (.int x :: .ref (ad i) :: rest)) := by
  obtain ⟨hx, hb, -, -, -, hK, -⟩ := C0
  obtain ⟨fs, h1⟩ := ak_inv hf
  exact va_lald hx hb hK hw.1 i 3 (WW_get h1) rfl hin hdg kk
theorem z_iast (C0 : Cx G kc p s m c args cc nL own) (hw : St G kc A H0 sh ad σ H locs) (i : Nat) {n : Nat} (hf : ak sh i = some (1, n)) {x v : Int32} (hin : vp_in x n) (hdg : decode cc pc = .ok (.iastore, 1))
    (kk : ∀ (H1 : Heap) (locs1 : List Loc), St G kc A H0 sh ad (sI σ i x.toNatClampNeg v) H1 locs1 → W p l e R s m args below meth c H1 locs1 cells slots Q (F0 m (pc + 1) ls rest)) : W p l e R s m args below meth c H locs cells slots Q (F0 m pc ls (.int v :: .int x :: .ref (ad i) :: rest)) := by
  obtain ⟨hx, hb, -, -, -, hK, -⟩ := C0
  obtain ⟨hP, hD, hS, hA⟩ := hw
  obtain ⟨fs, h1⟩ := ak_inv hf
  refine va_iast hx hb hK hP hD hS i 0 (WW_get h1) rfl hin hdg (fun H1 locs1 a1 a2 a3 => kk H1 locs1 ⟨?_, ?_, a3, hA⟩)
  · rw [upd_u2] at a1
    rw [← WW_set h1 sI_off]; exact a1
  · rw [upd_u2] at a2
    rw [← WW_set h1 sI_off]; exact a2
theorem z_bast (C0 : Cx G kc p s m c args cc nL own) (hw : St G kc A H0 sh ad σ H locs) (i : Nat) {n : Nat} (hf : ak sh i = some (2, n)) {x v : Int32} (hin : vp_in x n) (hdg : decode cc pc = .ok (.bastore, 1))
    (kk : ∀ (H1 : Heap) (locs1 : List Loc), St G kc A H0 sh ad (sI σ i x.toNatClampNeg v.toInt8.toInt32) H1 locs1 → W p l e R s m args below meth c H1 locs1 cells slots Q (F0 m (pc + 1) ls rest)) : W p l e R s m args below meth c H locs cells slots Q (F0 m pc ls (.int v :: .int x :: .ref (ad i) :: rest)) := by
  obtain ⟨hx, hb, -, -, -, hK, -⟩ := C0
  obtain ⟨hP, hD, hS, hA⟩ := hw
  obtain ⟨fs, h1⟩ := ak_inv hf
  refine va_bast hx hb hK hP hD hS i 1 (WW_get h1) rfl hin hdg (fun H1 locs1 a1 a2 a3 => kk H1 locs1 ⟨?_, ?_, a3, hA⟩)
  · rw [upd_u2, vp_nar_byte] at a1
    rw [← WW_set h1 sI_off]; exact a1
  · rw [upd_u2, vp_nar_byte] at a2
    rw [← WW_set h1 sI_off]; exact a2
theorem nar_bool {v : Int32} (hv : v = 0 ∨ v = 1) : vp_nar .boolean v = v := by rcases hv with rfl | rfl <;> decide
theorem z_zast (C0 : Cx G kc p s m c args cc nL own) (hw : St G kc A H0 sh ad σ H locs) (i : Nat) {n : Nat} (hf : ak sh i = some (3, n)) {x v : Int32} (hv : v = 0 ∨ v = 1) (hin : vp_in x n) (hdg : decode cc pc = .ok (.bastore, 1))
    (kk : ∀ (H1 : Heap) (locs1 : List Loc), St G kc A H0 sh ad (sI σ i x.toNatClampNeg v) H1 locs1 → W p l e R s m args below meth c H1 locs1 cells slots Q (F0 m (pc + 1) ls rest)) : W p l e R s m args below meth c H locs cells slots Q (F0 m pc ls (.int v :: .int x :: .ref (ad i) :: rest)) := by
  obtain ⟨hx, hb, -, -, -, hK, -⟩ := C0
  obtain ⟨hP, hD, hS, hA⟩ := hw
  obtain ⟨fs, h1⟩ := ak_inv hf
  refine va_zast hx hb hK hP hD hS i 2 (WW_get h1) rfl hin hdg (fun H1 locs1 a1 a2 a3 => kk H1 locs1 ⟨?_, ?_, a3, hA⟩)
  · rw [upd_u2, nar_bool hv] at a1
    rw [← WW_set h1 sI_off]; exact a1
  · rw [upd_u2, nar_bool hv] at a2
    rw [← WW_set h1 sI_off]; exact a2
theorem z_last (C0 : Cx G kc p s m c args cc nL own) (hw : St G kc A H0 sh ad σ H locs) (i : Nat) {n : Nat} (hf : ak sh i = some (4, n)) {x : Int32} {v : Int64} (hin : vp_in x n) (hdg : decode cc pc = .ok (.lastore, 1))
    (kk : ∀ (H1 : Heap) (locs1 : List Loc), St G kc A H0 sh ad (sL σ i x.toNatClampNeg v) H1 locs1 → W p l e R s m args below meth c H1 locs1 cells slots Q (F0 m (pc + 1) ls rest)) : W p l e R s m args below meth c H locs cells slots Q (F0 m pc ls (.long v :: .int x :: .ref (ad i) :: rest)) := by
  obtain ⟨hx, hb, -, -, -, hK, -⟩ := C0
  obtain ⟨hP, hD, hS, hA⟩ := hw
  obtain ⟨fs, h1⟩ := ak_inv hf
  refine va_last hx hb hK hP hD hS i 3 (WW_get h1) rfl hin hdg (fun H1 locs1 a1 a2 a3 => kk H1 locs1 ⟨?_, ?_, a3, hA⟩)
  · rw [updL_u2] at a1
    rw [← WW_set h1 sL_off]; exact a1
  · rw [updL_u2] at a2
    rw [← WW_set h1 sL_off]; exact a2
/-- a row of Works (5) or of Programs (6) -/
def rk (sh : List ShE) (i N : Nat) : Option (Nat × Nat × Nat) := match sh[i]? with
  | some (t, n, fs) => (fs[N]?).map (fun f => (t, n, f.2))
  | none => none
theorem rk_inv {sh : List ShE} {i N t n j : Nat} (h : rk sh i N = some (t, n, j)) : ∃ fs, sh[i]? = some (t, n, fs) ∧ (fs[N]?).map (fun f => f.2) = some j := by
  unfold rk at h
  split at h
  · rename_i t' n' fs hs
    cases hf : fs[N]? with
    | none => rw [hf] at h; cases h
    | some f =>
      rw [hf] at h
      simp only [Option.map_some, Option.some.injEq, Prod.mk.injEq] at h
      obtain ⟨rfl, rfl, rfl⟩ := h
      exact ⟨fs, hs, by rw [hf]; rfl⟩
  · cases h
theorem z_aaldN (C0 : Cx G kc p s m c args cc nL own) (hw : St G kc A H0 sh ad σ H locs) (i N : Nat) {t n j : Nat} (hf : rk sh i N = some (t, n, j)) (ht : t = 5 ∨ t = 6) (hN : N < n) (hn : n < 2 ^ 31) (hdg : decode cc pc = .ok (.aaload, 1))
    (kk : W p l e R s m args below meth c H locs cells slots Q (F0 m (pc + 1) ls (.ref (ad j) :: rest))) : W p l e R s m args below meth c H locs cells slots Q (F0 m pc ls (.int (nI N) :: .ref (ad i) :: rest)) := by
  obtain ⟨hx, hb, -, -, -, hK, -⟩ := C0
  obtain ⟨fs, h1, h2⟩ := rk_inv hf
  have h3 : (fs[N]?).map (fun f => ad f.2) = some (ad j) := by
    cases hs : fs[N]? with
    | none => rw [hs] at h2; cases h2
    | some f =>
      rw [hs] at h2
      simp only [Option.map_some, Option.some.injEq] at h2 ⊢
      rw [h2]
  have hc : (nI N).toNatClampNeg = N := nI_clamp (Nat.lt_trans hN hn)
  rcases ht with rfl | rfl
  · refine va_aldq hx hb hK hw.1 i 4 (WW_get h1) rfl (vp_in_nI hN hn) hdg ?_
    rw [hc, h3]
    exact kk
  · refine va_aldq hx hb hK hw.1 i 5 (WW_get h1) rfl (vp_in_nI hN hn) hdg ?_
    rw [hc, h3]
    exact kk
theorem z_alen (C0 : Cx G kc p s m c args cc nL own) (hw : St G kc A H0 sh ad σ H locs) (i : Nat) {t n : Nat} (hf : ak sh i = some (t + 1, n)) (ht : t < 6) (hdg : decode cc pc = .ok (.arraylength, 1))
    (kk : W p l e R s m args below meth c H locs cells slots Q (F0 m (pc + 1) ls (.int (nI n) :: rest))) : W p l e R s m args below meth c H locs cells slots Q (F0 m pc ls (.ref (ad i) :: rest)) := by
  obtain ⟨hx, hb, -, -, -, hK, -⟩ := C0
  obtain ⟨fs, h1⟩ := ak_inv hf
  match t, ht, h1 with
  | 0, _, h1 => exact va_alen hx hb hK hw.1 i 0 (WW_get h1) rfl rfl hdg kk
  | 1, _, h1 => exact va_alen hx hb hK hw.1 i 1 (WW_get h1) rfl rfl hdg kk
  | 2, _, h1 => exact va_alen hx hb hK hw.1 i 2 (WW_get h1) rfl rfl hdg kk
  | 3, _, h1 => exact va_alen hx hb hK hw.1 i 3 (WW_get h1) rfl rfl hdg kk
  | 4, _, h1 => exact va_alen hx hb hK hw.1 i 4 (WW_get h1) rfl rfl hdg kk
  | 5, _, h1 => exact va_alen hx hb hK hw.1 i 5 (WW_get h1) rfl rfl hdg kk
end ZARR
/-! contracts over a world -/
def PreC (G : va_G) (kc : KC) (av : List Value) (sh : List ShE) (ad : Nat → Nat) (σ : Sg) (sz : Nat) : Array Value → State → Prop :=
  va_Pc av (fun U => U.heap.size = sz ∧ va_P G vwCl (WW kc sh ad σ) U.heap ∧ Kx G kc U ∧ va_D (fun _ => True) (WW kc sh ad σ) ∧ RO0 kc (va_A (WW kc sh ad σ) sz) U U.heap)
def PoC (G : va_G) (kc : KC) (sh : List ShE) (ad : Nat → Nat) (A : Nat → Prop) (σ : Sg) (t : State) : Prop := va_P G vwCl (WW kc sh ad σ) t.heap ∧ va_D A (WW kc sh ad σ)
def MI (l : Launch) (G : va_G) (kc : KC) (y : MethodName) (cc : ByteArray) (n : Nat) (ret : Option FieldType) (fr lo : Nat) (av : List Value) (sh : List ShE) (ad : Nat → Nat) (σ : Sg) (post : Int32 → Sg → Prop) : Prop :=
  ∀ sz, Met l y (wU y cc n ret) { frames := fr, cells := 0, slots := 0, locals := lo } (PreC G kc av sh ad σ sz) (va_Qi post (PoC G kc sh ad (va_A (WW kc sh ad σ) sz)) (va_A (WW kc sh ad σ) sz)) 0 0 (va_A (WW kc sh ad σ) sz)
def ML (l : Launch) (G : va_G) (kc : KC) (y : MethodName) (cc : ByteArray) (n : Nat) (fr lo : Nat) (av : List Value) (sh : List ShE) (ad : Nat → Nat) (σ : Sg) (post : Int64 → Sg → Prop) : Prop :=
  ∀ sz, Met l y (wU y cc n (some .long)) { frames := fr, cells := 0, slots := 0, locals := lo } (PreC G kc av sh ad σ sz) (va_Ql post (PoC G kc sh ad (va_A (WW kc sh ad σ) sz)) (va_A (WW kc sh ad σ) sz)) 0 0 (va_A (WW kc sh ad σ) sz)
def MV (l : Launch) (G : va_G) (kc : KC) (y : MethodName) (cc : ByteArray) (n : Nat) (fr lo : Nat) (av : List Value) (sh : List ShE) (ad : Nat → Nat) (σ : Sg) (post : Sg → Prop) : Prop :=
  ∀ sz, Met l y (wU y cc n none) { frames := fr, cells := 0, slots := 0, locals := lo } (PreC G kc av sh ad σ sz) (va_Qv post (PoC G kc sh ad (va_A (WW kc sh ad σ) sz)) (va_A (WW kc sh ad σ) sz)) 0 0 (va_A (WW kc sh ad σ) sz)
/-- a method that answers a cell of the world, or null -/
def MR (l : Launch) (G : va_G) (kc : KC) (y : MethodName) (cc : ByteArray) (n : Nat) (rt : FieldType) (fr lo : Nat) (av : List Value) (sh : List ShE) (ad : Nat → Nat) (σ : Sg) (post : Option Nat → Sg → Prop) : Prop :=
  ∀ sz, Met l y (wU y cc n (some rt)) { frames := fr, cells := 0, slots := 0, locals := lo } (PreC G kc av sh ad σ sz) (va_Qq (fun r σ' => ∃ q : Option Nat, r = q.map ad ∧ post q σ') (PoC G kc sh ad (va_A (WW kc sh ad σ) sz)) (va_A (WW kc sh ad σ) sz)) 0 0 (va_A (WW kc sh ad σ) sz)
theorem PreC.blind {G : va_G} {kc : KC} {av : List Value} {sh : List ShE} {ad : Nat → Nat} {σ : Sg} {sz : Nat} : FrameBlind (PreC G kc av sh ad σ sz) := by
  intro a U g mk q
  obtain ⟨q0, q1, qP, qK, qD, qR⟩ := q
  exact ⟨q0, q1, qP, qK.same (U := U.calling g mk a) rfl, qD, qR.same (U := U.calling g mk a) rfl⟩
theorem z_body {l : Launch} {G : va_G} {kc : KC} {y : MethodName} {cc : ByteArray} {n : Nat} {ret : Option FieldType} {rm : Room} {av : List Value} {sh : List ShE} {ad : Nat → Nat} {σ : Sg} {Qc : (Nat → Prop) → Array Value → State → Outcome → State → Prop} (hy : plainFor y = true) (hn : (lg_sl av).length ≤ n)
    (body : ∀ (p : Program) (e : Env) (s : State) (m : MethodId) (below : List Frame) (meth : Method) (c : Code) (A : Nat → Prop), Cx G kc p s m c av.toArray cc n y.cls → meth.sig.returnType = ret → meth.locks = false → meth.name = y.name → St G kc A s.heap sh ad σ s.heap [] → RO0 kc A s s.heap → ∀ ls : Array Slot, lv_has ls n (lv_args 0 av) → W p l e rm s m av.toArray below meth c s.heap [] 0 0 (MQ below (Qc A) av.toArray s rm.cells rm.slots A) (F0 m 0 ls [])) (sz : Nat) :
    Met l y (wU y cc n ret) rm (PreC G kc av sh ad σ sz) (Qc (va_A (WW kc sh ad σ) sz)) rm.cells rm.slots (va_A (WW kc sh ad σ) sz) := by
  refine va_MetF (cc := cc) (maxL := n) (ret := ret) hy rfl ?_
  intro p e s m args below meth c s₁ B hml hv
  obtain ⟨rfl, hsz, hP, hK, hD0, hRo⟩ := hv
  have hts := atoms_spec (ws := wU y cc n ret) B.pre
  subst hsz
  have hl := lv_entry av (n := n) hn
  rw [lg_entry_eq]
  exact body p e s m below meth c (va_A (WW kc sh ad σ) s.heap.size) ⟨B.exec, B.bytes, hml, findClass_of_methodNamed B.named, fun w hw => hts w (List.mem_cons_of_mem _ hw), hK⟩ B.returns B.notSynchronized (name_of_methodNamed B.named B.method).1 ⟨hP, hD0.self, va_S.rf, fun q h => Or.inr h⟩ hRo _ hl
section ZRET
variable {p : Program} {l : Launch} {e : Env} {R : Room} {s : State} {m : MethodId} {args : Array Value} {below : List Frame} {meth : Method} {c : Code} {H : Heap} {locs : List Loc} {cells slots mc ms : Nat}
variable {cc : ByteArray} {nL : Nat} {own : String} {pc : Nat} {ls : Array Slot} {G : va_G} {kc : KC} {A : Nat → Prop} {sh : List ShE} {ad : Nat → Nat} {σ : Sg}
theorem z_iret {post : Int32 → Sg → Prop} {v : Int32} (C0 : Cx G kc p s m c args cc nL own) (hr : meth.sig.returnType = some .int) (hlk : meth.locks = false) (hw : St G kc A s.heap sh ad σ H locs) (hp : post v σ) (hdg : decode cc pc = .ok (.ireturn, 1)) :
    W p l e R s m args below meth c H locs cells slots (MQ below (va_Qi post (PoC G kc sh ad A) A) args s cells slots A) (F0 m pc ls [.int v]) := by
  exact W.iret C0.1 C0.2.1 hr (fun t ht hW => ⟨⟨v, σ, rfl, hp, by rw [ht]; exact hw.1, hw.2.1⟩, hw.2.2.1.F ht⟩) hw.2.2.1.2.2 hdg hlk
theorem z_zret {post : Int32 → Sg → Prop} {v : Int32} (C0 : Cx G kc p s m c args cc nL own) (hr : meth.sig.returnType = some .boolean) (hlk : meth.locks = false) (hv : v = 0 ∨ v = 1) (hw : St G kc A s.heap sh ad σ H locs) (hp : post v σ) (hdg : decode cc pc = .ok (.ireturn, 1)) :
    W p l e R s m args below meth c H locs cells slots (MQ below (va_Qi post (PoC G kc sh ad A) A) args s cells slots A) (F0 m pc ls [.int v]) := by
  exact W.zret C0.1 C0.2.1 hr (by rcases hv with rfl | rfl <;> decide) (fun t ht hW => ⟨⟨v, σ, rfl, hp, by rw [ht]; exact hw.1, hw.2.1⟩, hw.2.2.1.F ht⟩) hw.2.2.1.2.2 hdg hlk
theorem z_lret {post : Int64 → Sg → Prop} {v : Int64} (C0 : Cx G kc p s m c args cc nL own) (hr : meth.sig.returnType = some .long) (hlk : meth.locks = false) (hw : St G kc A s.heap sh ad σ H locs) (hp : post v σ) (hdg : decode cc pc = .ok (.lreturn, 1)) :
    W p l e R s m args below meth c H locs cells slots (MQ below (va_Ql post (PoC G kc sh ad A) A) args s cells slots A) (F0 m pc ls [.long v]) := by
  exact W.lret C0.1 C0.2.1 hr (fun t ht hW => ⟨⟨v, σ, rfl, hp, by rw [ht]; exact hw.1, hw.2.1⟩, hw.2.2.1.F ht⟩) hw.2.2.1.2.2 hdg hlk
theorem z_vret {post : Sg → Prop} (C0 : Cx G kc p s m c args cc nL own) (hr : meth.sig.returnType = none) (hlk : meth.locks = false) (hw : St G kc A s.heap sh ad σ H locs) (hp : post σ) (hdg : decode cc pc = .ok (.return_, 1)) :
    W p l e R s m args below meth c H locs cells slots (MQ below (va_Qv post (PoC G kc sh ad A) A) args s cells slots A) (F0 m pc ls []) := by
  exact W.vret C0.1 C0.2.1 hr (fun t ht hW => ⟨⟨σ, rfl, hp, by rw [ht]; exact hw.1, hw.2.1⟩, hw.2.2.1.F ht⟩) hw.2.2.1.2.2 hdg hlk
theorem z_rret {post : Option Nat → Sg → Prop} {v : Value} {q : Option Nat} {nm : String} (C0 : Cx G kc p s m c args cc nL own) (hr : meth.sig.returnType = some (.object nm)) (hlk : meth.locks = false) (hw : St G kc A s.heap sh ad σ H locs) (hv : v = va_rf (q.map ad)) (hp : post q σ) (hdg : decode cc pc = .ok (.areturn, 1)) :
    W p l e R s m args below meth c H locs cells slots (MQ below (va_Qq (fun r σ' => ∃ q : Option Nat, r = q.map ad ∧ post q σ') (PoC G kc sh ad A) A) args s cells slots A) (F0 m pc ls [v]) := by
  subst hv
  refine W.aret C0.1 C0.2.1 hr (Or.inl ⟨nm, rfl⟩) ?_ (fun t ht hW => ⟨⟨q.map ad, σ, rfl, ⟨q, rfl, hp⟩, by rw [ht]; exact hw.1, hw.2.1⟩, hw.2.2.1.F ht⟩) hw.2.2.1.2.2 hdg hlk
  cases q with
  | none => exact Or.inl rfl
  | some q => exact Or.inr ⟨ad q, rfl⟩
end ZRET
