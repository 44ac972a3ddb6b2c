/-! CORE 3: calls -/
def CV (y : MethodName) (cc : ByteArray) (n : Nat) (ret : Option FieldType) (na : Nat) : Prop := Cond.code y cc n ret ∈ lw_gd ∧ Cond.initialized y.cls ∈ lw_gd ∧ Cond.instanceMethod y ∈ lw_gd ∧ Cond.selects y.cls y y ∈ lw_gd ∧ y.cls ≠ "java/lang/invoke/MethodHandle" ∧ y.cls ≠ "java/lang/invoke/VarHandle" ∧ (parseMethodDescriptor y.desc).map (fun d => d.parameters.length) = some na
def CS (y : MethodName) (cc : ByteArray) (n : Nat) (ret : Option FieldType) (na : Nat) : Prop := Cond.code y cc n ret ∈ lw_gd ∧ Cond.initialized y.cls ∈ lw_gd ∧ Cond.static y ∈ lw_gd ∧ y.cls ≠ "java/lang/invoke/MethodHandle" ∧ y.cls ≠ "java/lang/invoke/VarHandle" ∧ (parseMethodDescriptor y.desc).map (fun d => d.parameters.length) = some na
def CI (y : MethodName) (cc : ByteArray) (n : Nat) (na : Nat) : Prop := Cond.code y cc n none ∈ lw_gd ∧ Cond.initialized y.cls ∈ lw_gd ∧ Cond.instanceMethod y ∈ lw_gd ∧ y.name = "<init>" ∧ y.cls ≠ "java/lang/invoke/MethodHandle" ∧ y.cls ≠ "java/lang/invoke/VarHandle" ∧ (parseMethodDescriptor y.desc).map (fun d => d.parameters.length) = some na
def LKm (own : String) (index : Nat) (y : MethodName) : Prop := Cond.methodLink own index y ∈ lw_gd ∨ ∃ host, Cond.methodLinkNest own index y host ∈ lw_ne
section ZCALL
variable {p : Program} {l : Launch} {e : Env} {R : Room} {s : State} {m : MethodId} {args : Array Value} {below : List Frame} {meth : Method} {c : Code} {H : Heap} {locs : List Loc} {cells slots mc ms : Nat} {Q : State → Prop}
variable {cc cc' : ByteArray} {nL n' fr lo na : Nat} {own : String} {pc : Nat} {ls : Array Slot} {rest st0 As : List Value} {G : va_G} {kc : KC} {A : Nat → Prop} {H0 : Heap} {sh : List ShE} {ad : Nat → Nat} {σ : Sg} {index : Nat} {y : MethodName} {ret : Option FieldType} {Pc : Array Value → State → Prop} {Qc : Array Value → State → Outcome → State → Prop} {free : Addr → Prop} {b : Nat}
theorem zr_V (C0 : Cx G kc p s m c args cc nL own) (hM : Met l y (wU y cc' n' ret) { frames := fr, cells := mc, slots := ms, locals := lo } Pc Qc mc ms free) (hv : CV y cc' n' ret na) (hlk : LKm own index y) (hp : PreV s H y.cls b Pc As) (hna : As.length = na) (hsz : ls.size = nL) (hst : st0 = As.reverse ++ .ref b :: rest) (hroom : fr + 1 ≤ R.frames ∧ 8 + (n' + 11) + lo ≤ R.locals) (hW : (rest.map fun v => v.category).sum ≤ 8) (hdg : decode cc pc = .ok (.invokevirtual index, 3)) (hf : cells + mc ≤ R.cells ∧ slots + ms ≤ R.slots) :
    va_Run p l e R s m args below meth c H locs cells slots mc ms (F0 m pc ls st0) rest (Qc (Value.ref b :: As).toArray) free := by
  obtain ⟨hx, hb, hml, hown, hts, hK, hN, -⟩ := C0
  obtain ⟨h1, h2, h3, h4, h5, h6, h7⟩ := hv
  rcases hlk with hlk | ⟨host, hlk⟩
  · exact va_runV ⟨hx, hb, hml, hown, hts⟩ hM ⟨callB_of na hts (gdU h1) rfl rfl rfl (hts _ h2) (hts _ hlk) ⟨h5, h6, h7⟩ hroom, hts _ h3, hts _ h4⟩ hp rfl hna hsz hst (lv_room (rest := st0) hW) hdg hf
  · exact va_runVN ⟨hx, hb, hml, hown, hts⟩ hM ⟨va_cnB na hts (gdU h1) rfl rfl rfl (hN _ hlk) (hts _ h2) ⟨h5, h6, h7⟩ hroom, hts _ h3, hts _ h4⟩ hp rfl hna hsz hst (lv_room (rest := st0) hW) hdg hf
theorem zr_S (C0 : Cx G kc p s m c args cc nL own) (hM : Met l y (wU y cc' n' ret) { frames := fr, cells := mc, slots := ms, locals := lo } Pc Qc mc ms free) (hv : CS y cc' n' ret na) (hlk : LKm own index y) (hp : PreS s H Pc As) (hna : As.length = na) (hsz : ls.size = nL) (hst : st0 = As.reverse ++ rest) (hroom : fr + 1 ≤ R.frames ∧ 8 + (n' + 11) + lo ≤ R.locals) (hW : (rest.map fun v => v.category).sum ≤ 8) (hdg : decode cc pc = .ok (.invokestatic index, 3)) (hf : cells + mc ≤ R.cells ∧ slots + ms ≤ R.slots) :
    va_Run p l e R s m args below meth c H locs cells slots mc ms (F0 m pc ls st0) rest (Qc As.toArray) free := by
  obtain ⟨hx, hb, hml, hown, hts, hK, hN, -⟩ := C0
  obtain ⟨h1, h2, h3, h5, h6, h7⟩ := hv
  rcases hlk with hlk | ⟨host, hlk⟩
  · exact va_runS ⟨hx, hb, hml, hown, hts⟩ hM ⟨callB_of na hts (gdU h1) rfl rfl rfl (hts _ h2) (hts _ hlk) ⟨h5, h6, h7⟩ hroom, hts _ h3⟩ hp rfl hna hsz hst (lv_room (rest := st0) hW) hdg hf
  · exact va_runSN ⟨hx, hb, hml, hown, hts⟩ hM ⟨va_cnB na hts (gdU h1) rfl rfl rfl (hN _ hlk) (hts _ h2) ⟨h5, h6, h7⟩ hroom, hts _ h3, trivial⟩ hp rfl hna hsz hst (lv_room (rest := st0) hW) hdg hf
theorem zr_I (C0 : Cx G kc p s m c args cc nL own) (hM : Met l y (wU y cc' n' none) { frames := fr, cells := mc, slots := ms, locals := lo } Pc Qc mc ms free) (hv : CI y cc' n' na) (hlk : LKm own index y) (hp : PreS s H Pc (.ref b :: As)) (hna : As.length = na) (hsz : ls.size = nL) (hst : st0 = As.reverse ++ .ref b :: rest) (hroom : fr + 1 ≤ R.frames ∧ 8 + (n' + 11) + lo ≤ R.locals) (hW : (rest.map fun v => v.category).sum ≤ 8) (hdg : decode cc pc = .ok (.invokespecial index, 3)) (hf : cells + mc ≤ R.cells ∧ slots + ms ≤ R.slots) :
    va_Run p l e R s m args below meth c H locs cells slots mc ms (F0 m pc ls st0) rest (Qc (Value.ref b :: As).toArray) free := by
  obtain ⟨hx, hb, hml, hown, hts, hK, hN, -⟩ := C0
  obtain ⟨h1, h2, h3, h4, h5, h6, h7⟩ := hv
  rcases hlk with hlk | ⟨host, hlk⟩
  · exact va_runI ⟨hx, hb, hml, hown, hts⟩ hM ⟨callB_of na hts (gdU h1) rfl rfl rfl (hts _ h2) (hts _ hlk) ⟨h5, h6, h7⟩ hroom, h4, hts _ h3⟩ hp rfl hna hsz hst (lv_room (rest := st0) hW) hdg hf
  · exact va_runIN ⟨hx, hb, hml, hown, hts⟩ hM ⟨va_cnB na hts (gdU h1) rfl rfl rfl (hN _ hlk) (hts _ h2) ⟨h5, h6, h7⟩ hroom, h4, hts _ h3⟩ hp rfl hna hsz hst (lv_room (rest := st0) hW) hdg hf
theorem St.fre (hw : St G kc A H0 sh ad σ H locs) : ∀ q, va_A (WW kc sh ad σ) H.size q → A q := by
  intro q h
  rcases h with ⟨k, e, h⟩ | h
  · exact hw.2.1.2 k _ h
  · exact hw.2.2.2 q (Nat.le_trans hw.2.2.1.1 h)
theorem nilA {kc : KC} {ad' : Nat → Nat} {σ' : Sg} {z q : Nat} : va_A (WW kc [] ad' σ') z q ↔ z ≤ q := by
  constructor
  · rintro (⟨k, e, h⟩ | h)
    · simp [WW] at h
    · exact h
  · exact Or.inr
/-- what a callee over the whole world wants, at a receiver that is the cell i -/
theorem zp_V (C0 : Cx G kc p s m c args cc nL own) (hRo : RO0 kc A s s.heap) (hw : St G kc A s.heap sh ad σ H locs) (i : Nat) {ci : Nat} {fs : List (Nat × Nat)} {C : String} {q : vw_C} (hi : sh[i]? = some (0, ci, fs)) (hc : vwCl[ci]? = some q) (hC : q.1 = C) : PreV s H C (ad i) (PreC G kc (.ref (ad i) :: As) sh ad σ H.size) As := by
  obtain ⟨-, -, -, -, -, hK⟩ := C0
  subst hC
  exact ⟨PreC.blind, va_recv hK.1 hw.1 hc (q0 := i) (WW_get hi), fun U hU hW => ⟨rfl, by rw [hU], by rw [hU]; exact hw.1, hK.moved hW, hw.2.1.weaken (fun _ _ _ _ => trivial), by rw [hU]; exact hRo.on hw.2.2.1 hW hw.fre⟩⟩
theorem zp_S (C0 : Cx G kc p s m c args cc nL own) (hRo : RO0 kc A s s.heap) (hw : St G kc A s.heap sh ad σ H locs) : PreS s H (PreC G kc As sh ad σ H.size) As := by
  obtain ⟨-, -, -, -, -, hK⟩ := C0
  exact ⟨PreC.blind, fun U hU hW => ⟨rfl, by rw [hU], by rw [hU]; exact hw.1, hK.moved hW, hw.2.1.weaken (fun _ _ _ _ => trivial), by rw [hU]; exact hRo.on hw.2.2.1 hW hw.fre⟩⟩
theorem zp_P (C0 : Cx G kc p s m c args cc nL own) (hRo : RO0 kc A s s.heap) (hw : St G kc A s.heap sh ad σ H locs) (ad' : Nat → Nat) (σ' : Sg) : PreS s H (PreC G kc As [] ad' σ' H.size) As := by
  obtain ⟨-, -, -, -, -, hK⟩ := C0
  exact ⟨PreC.blind, fun U hU hW => ⟨rfl, by rw [hU], fun k q h => by simp [WW] at h, hK.moved hW, ⟨fun i j p q h => by simp [WW] at h, fun k q h => by simp [WW] at h⟩, by rw [hU]; exact hRo.on hw.2.2.1 hW (fun q h => hw.2.2.2 q (Nat.le_trans hw.2.2.1.1 (nilA.mp h)))⟩⟩
theorem St.back {σ' : Sg} {H1 : Heap} {locs1 : List Loc} (hw : St G kc A H0 sh ad σ H locs) (hP : va_P G vwCl (WW kc sh ad σ') H1) (hD : va_D (va_A (WW kc sh ad σ) H.size) (WW kc sh ad σ')) (hS : va_S A H0 H1 locs1) : St G kc A H0 sh ad σ' H1 locs1 :=
  ⟨hP, hD.weaken (fun _ q _ h => hw.fre q.1 h), hS, hw.2.2.2⟩
theorem zk_I {post : Int32 → Sg → Prop} {a : Array Value} (hw : St G kc A H0 sh ad σ H locs) (hr : va_Run p l e R s m args below meth c H locs cells slots 0 0 (F0 m pc ls st0) rest (va_Qi post (PoC G kc sh ad (va_A (WW kc sh ad σ) H.size)) (va_A (WW kc sh ad σ) H.size) a) (va_A (WW kc sh ad σ) H.size))
    (kk : ∀ (r : Int32) (σ' : Sg) (H1 : Heap) (locs1 : List Loc), post r σ' → St G kc A H0 sh ad σ' H1 locs1 → W p l e R s m args below meth c H1 locs1 cells slots Q (F0 m (pc + 3) ls (.int r :: rest))) : W p l e R s m args below meth c H locs cells slots Q (F0 m pc ls st0) := by
  refine va_calli hr hw.2.2.1 (fun q _ h => hw.fre q h) hw.fre (fun r σ' t H1 locs1 ht hvm hp hB hz1 hk1 hS => ?_)
  obtain ⟨hP1, hD1⟩ := hB
  rw [ht] at hP1
  exact kk r σ' H1 locs1 hp (hw.back hP1 hD1 hS)
theorem zk_L {post : Int64 → Sg → Prop} {a : Array Value} (hw : St G kc A H0 sh ad σ H locs) (hr : va_Run p l e R s m args below meth c H locs cells slots 0 0 (F0 m pc ls st0) rest (va_Ql post (PoC G kc sh ad (va_A (WW kc sh ad σ) H.size)) (va_A (WW kc sh ad σ) H.size) a) (va_A (WW kc sh ad σ) H.size))
    (kk : ∀ (r : Int64) (σ' : Sg) (H1 : Heap) (locs1 : List Loc), post r σ' → St G kc A H0 sh ad σ' H1 locs1 → W p l e R s m args below meth c H1 locs1 cells slots Q (F0 m (pc + 3) ls (.long r :: rest))) : W p l e R s m args below meth c H locs cells slots Q (F0 m pc ls st0) := by
  refine va_calll hr hw.2.2.1 (fun q _ h => hw.fre q h) hw.fre (fun r σ' t H1 locs1 ht hvm hp hB hz1 hk1 hS => ?_)
  obtain ⟨hP1, hD1⟩ := hB
  rw [ht] at hP1
  exact kk r σ' H1 locs1 hp (hw.back hP1 hD1 hS)
theorem zk_V {post : Sg → Prop} {a : Array Value} (hw : St G kc A H0 sh ad σ H locs) (hr : va_Run p l e R s m args below meth c H locs cells slots 0 0 (F0 m pc ls st0) rest (va_Qv post (PoC G kc sh ad (va_A (WW kc sh ad σ) H.size)) (va_A (WW kc sh ad σ) H.size) a) (va_A (WW kc sh ad σ) H.size))
    (kk : ∀ (σ' : Sg) (H1 : Heap) (locs1 : List Loc), post σ' → St G kc A H0 sh ad σ' H1 locs1 → W p l e R s m args below meth c H1 locs1 cells slots Q (F0 m (pc + 3) ls rest)) : W p l e R s m args below meth c H locs cells slots Q (F0 m pc ls st0) := by
  refine va_callv hr hw.2.2.1 (fun q _ h => hw.fre q h) hw.fre (fun σ' t H1 locs1 ht hvm hp hB hz1 hk1 hS => ?_)
  obtain ⟨hP1, hD1⟩ := hB
  rw [ht] at hP1
  exact kk σ' H1 locs1 hp (hw.back hP1 hD1 hS)
theorem zk_R {post : Option Nat → Sg → Prop} {a : Array Value} (hw : St G kc A H0 sh ad σ H locs) (hr : va_Run p l e R s m args below meth c H locs cells slots 0 0 (F0 m pc ls st0) rest (va_Qq (fun r σ' => ∃ q : Option Nat, r = q.map ad ∧ post q σ') (PoC G kc sh ad (va_A (WW kc sh ad σ) H.size)) (va_A (WW kc sh ad σ) H.size) a) (va_A (WW kc sh ad σ) H.size))
    (kk : ∀ (q : Option Nat) (σ' : Sg) (H1 : Heap) (locs1 : List Loc), post q σ' → St G kc A H0 sh ad σ' H1 locs1 → W p l e R s m args below meth c H1 locs1 cells slots Q (F0 m (pc + 3) ls (va_rf (q.map ad) :: rest))) : W p l e R s m args below meth c H locs cells slots Q (F0 m pc ls st0) := by
  refine va_callq hr hw.2.2.1 (fun q _ h => hw.fre q h) hw.fre (fun r σ' t H1 locs1 ht hvm hp hB hz1 hk1 hS => ?_)
  obtain ⟨q, rfl, hp⟩ := hp
  obtain ⟨hP1, hD1⟩ := hB
  rw [ht] at hP1
  exact kk q σ' H1 locs1 hp (hw.back hP1 hD1 hS)
/-- a call of a method that has no world: the world stays -/
theorem St.keep {H1 : Heap} {locs1 : List Loc} (hw : St G kc A H0 sh ad σ H locs) (hk : ∀ q : Nat, q < H.size → ¬ H.size ≤ q → H1[q]? = H[q]?) (hS : va_S A H0 H1 locs1) : St G kc A H0 sh ad σ H1 locs1 :=
  ⟨hw.1.kept (fun k q h => hk q.1 ((hw.1 k q h).lt) (by have := (hw.1 k q h).lt; omega)), hw.2.1, hS, hw.2.2.2⟩
theorem zn_I {post : Int32 → Sg → Prop} {a : Array Value} {ad' : Nat → Nat} {σ0 : Sg} (hw : St G kc A H0 sh ad σ H locs) (hr : va_Run p l e R s m args below meth c H locs cells slots 0 0 (F0 m pc ls st0) rest (va_Qi post (PoC G kc [] ad' (va_A (WW kc [] ad' σ0) H.size)) (va_A (WW kc [] ad' σ0) H.size) a) (va_A (WW kc [] ad' σ0) H.size))
    (kk : ∀ (r : Int32) (σ' : Sg) (H1 : Heap) (locs1 : List Loc), post r σ' → St G kc A H0 sh ad σ H1 locs1 → W p l e R s m args below meth c H1 locs1 cells slots Q (F0 m (pc + 3) ls (.int r :: rest))) : W p l e R s m args below meth c H locs cells slots Q (F0 m pc ls st0) := by
  have hF : ∀ q, va_A (WW kc [] ad' σ0) H.size q → A q := fun q h => hw.2.2.2 q (Nat.le_trans hw.2.2.1.1 (nilA.mp h))
  refine va_calli hr hw.2.2.1 (fun q _ h => hF q h) hF (fun r σ' t H1 locs1 ht hvm hp hB hz1 hk1 hS => ?_)
  exact kk r σ' H1 locs1 hp (hw.keep (fun q h1 h2 => hk1 q h1 (fun z => h2 (nilA.mp z))) hS)
theorem zn_L {post : Int64 → Sg → Prop} {a : Array Value} {ad' : Nat → Nat} {σ0 : Sg} (hw : St G kc A H0 sh ad σ H locs) (hr : va_Run p l e R s m args below meth c H locs cells slots 0 0 (F0 m pc ls st0) rest (va_Ql post (PoC G kc [] ad' (va_A (WW kc [] ad' σ0) H.size)) (va_A (WW kc [] ad' σ0) H.size) a) (va_A (WW kc [] ad' σ0) H.size))
    (kk : ∀ (r : Int64) (σ' : Sg) (H1 : Heap) (locs1 : List Loc), post r σ' → St G kc A H0 sh ad σ H1 locs1 → W p l e R s m args below meth c H1 locs1 cells slots Q (F0 m (pc + 3) ls (.long r :: rest))) : W p l e R s m args below meth c H locs cells slots Q (F0 m pc ls st0) := by
  have hF : ∀ q, va_A (WW kc [] ad' σ0) H.size q → A q := fun q h => hw.2.2.2 q (Nat.le_trans hw.2.2.1.1 (nilA.mp h))
  refine va_calll hr hw.2.2.1 (fun q _ h => hF q h) hF (fun r σ' t H1 locs1 ht hvm hp hB hz1 hk1 hS => ?_)
  exact kk r σ' H1 locs1 hp (hw.keep (fun q h1 h2 => hk1 q h1 (fun z => h2 (nilA.mp z))) hS)
end ZCALL
/-- a method of numbers alone: any world, no world -/
def s00 : Sg := (fun _ _ => 0, fun _ _ => 0, fun _ _ => none)
def a00 : Nat → Nat := fun _ => 0
