set_option maxRecDepth 100000 in
set_option maxHeartbeats 4000000 in
theorem c_J7_fill_53178 (l : Launch) (G : va_G) (kc : KC) (ad : Nat → Nat) (σ : Sg)  (v : Int32) (N : Nat) (hN : N < 2 ^ 31) : MV l G kc yJ7_fill_53178 cJ7_fill_53178 4 0 0 [.ref (ad 0), .int v] [(1, N, [])] ad σ (fun σ1 => ∀ j, j < N → σ1.1 0 j = v) := by
  intro sz
  refine z_body (y := yJ7_fill_53178) (n := 4) (av := [.ref (ad 0), .int v]) (Qc := fun A => va_Qv (fun σ1 => ∀ j, j < N → σ1.1 0 j = v) (PoC G kc [(1, N, [])] ad A) A) (by decide +kernel) (Nat.le_of_ble_eq_true rfl) (fun pr e s m below meth c A C0 hr hlk hnm hw hRo ls hl => ?_) sz
  have hx := C0.1
  have hb := C0.2.1
  have hown := C0.2.2.2.1
  have hts := C0.2.2.2.2.1
  have hl : lv_has ls 4 [(0, .ref (ad 0)), (1, .int v)] := hl
  refine lv_iconst (v := 0) hx hb (dkP dF_3 DJ7_fill_53178 (i := 0) rfl rfl) (by decide) ?_
  refine lv_istore_n (lv' := [(2, .int 0), (0, .ref (ad 0)), (1, .int v)]) hx hb (dkP dF_61 DJ7_fill_53178 (i := 1) rfl rfl) rfl hl (by decide) rfl (fun ls hl => ?_)
  refine lv_aload_n hx hb (dkP dF_42 DJ7_fill_53178 (i := 2) rfl rfl) rfl (lv_at hl 1 rfl) ?_
  refine z_alen (t := 0) (n := N) C0 hw 0 rfl (by decide) (dkP dF_190 DJ7_fill_53178 (i := 3) rfl rfl) ?_
  refine lv_istore_n (lv' := [(3, .int (nI N)), (2, .int 0), (0, .ref (ad 0)), (1, .int v)]) hx hb (dkP dF_62 DJ7_fill_53178 (i := 4) rfl rfl) rfl hl (by decide) rfl (fun ls hl => ?_)
  have lp1 : ∀ (nq : Nat) (i : Nat) (τ : Sg) (H : Heap) (locs : List Loc) (ls : Array Slot), N - i < nq → (i ≤ N) → (∀ j, j < i → τ.1 0 j = v) → St G kc A s.heap [(1, N, [])] ad τ H locs → lv_has ls 4 [(3, .int (nI N)), (2, .int (nI i)), (0, .ref (ad 0)), (1, .int v)] → W pr l e { frames := 0, cells := 0, slots := 0, locals := 0 } s m ([.ref (ad 0), .int v] : List Value).toArray below meth c H locs 0 0 (MQ below (va_Qv (fun σ1 => ∀ j, j < N → σ1.1 0 j = v) (PoC G kc [(1, N, [])] ad A) A) ([.ref (ad 0), .int v] : List Value).toArray s 0 0 A) (F0 m 5 ls []) := by
    intro nq
    induction nq with
    | zero => intro i τ H locs ls hmu; exact absurd hmu (Nat.not_lt_zero _)
    | succ nq ih1 =>
      intro i τ H locs ls hmu hi hf hw hl
      refine lv_iload_n hx hb (dkP dF_28 DJ7_fill_53178 (i := 5) rfl rfl) rfl (lv_at hl 1 rfl) ?_
      refine lv_iload_n hx hb (dkP dF_29 DJ7_fill_53178 (i := 6) rfl rfl) rfl (lv_at hl 0 rfl) ?_
      refine lv_icmp_ge (tgt := 20) hx hb (dkS dF_162 DJ7_fill_53178 (i := 7) rfl rfl rfl) (by decide) (fun c2 => ?_) (fun c2 => ?_)
      · simp (disch := omega) only [ta_lt, ta_le, ta_eq, tnI] at c2
        exact z_vret C0 hr hlk hw (fun j hj => hf j (by omega)) (dkP dF_177 DJ7_fill_53178 (i := 14) rfl rfl)
      · simp (disch := omega) only [ta_lt, ta_le, ta_eq, tnI] at c2
        refine lv_aload_n hx hb (dkP dF_42 DJ7_fill_53178 (i := 8) rfl rfl) rfl (lv_at hl 2 rfl) ?_
        refine lv_iload_n hx hb (dkP dF_28 DJ7_fill_53178 (i := 9) rfl rfl) rfl (lv_at hl 1 rfl) ?_
        refine lv_iload_n hx hb (dkP dF_27 DJ7_fill_53178 (i := 10) rfl rfl) rfl (lv_at hl 3 rfl) ?_
        refine z_iastN (n := N) C0 hw 0 i rfl (by omega) (by omega) (dkP dF_79 DJ7_fill_53178 (i := 11) rfl rfl) (fun H locs hw => ?_)
        refine lv_iinc (v := nI (i + 1)) (lv' := [(2, .int (nI (i + 1))), (3, .int (nI N)), (0, .ref (ad 0)), (1, .int v)]) hx hb (dkI DJ7_fill_53178 (i := 12) rfl rfl rfl rfl) hl (k := 1) rfl (nI_1 _) (by decide) rfl (fun ls hl => ?_)
        refine lv_goto (tgt := 5) hx hb (dkS dF_167 DJ7_fill_53178 (i := 13) rfl rfl rfl) (by decide) ?_
        exact ih1 (i + 1) (sI τ 0 i v) _ _ _ (by omega) (by omega) (fun j hj => if h : j = i then (by rw [h]; exact rd_s) else (rd_n (by omega)).trans (hf j (by omega))) hw (lv_sub hl [1, 0, 2, 3] rfl)
  exact lp1 _ 0 σ _ _ _ (Nat.lt_succ_self _) (by omega) (fun j hj => absurd hj (by omega)) hw (lv_sub hl [0, 1, 2, 3] rfl)
theorem va_one {A0 : Nat → Prop} {D : va_G} {cl : List vw_C} {ws : va_W} {i a : Nat} {e e' : va_E} {H H1 : Heap} (hP : va_P D cl ws H) (hD : va_D A0 ws) (hi : ws[i]? = some (a, e)) (hk : ∀ q : Nat, q < H.size → ¬ va_A [(a, e)] H.size q → H1[q]? = H[q]?) (he : va_at D cl (a, e') H1) : va_P D cl (ws.set i (a, e')) H1 ∧ va_D A0 (ws.set i (a, e')) := by
  refine ⟨fun k q hq => ?_, hD.set hi⟩
  by_cases hki : k = i
  · subst hki
    rw [List.getElem?_set_self (List.getElem?_eq_some_iff.mp hi).1] at hq
    cases hq
    exact he
  · rw [List.getElem?_set_ne (Ne.symm hki)] at hq
    have h1 := hP k q hq
    refine h1.kept (hk q.1 h1.lt (fun h => ?_))
    rcases h with ⟨k2, e2, h⟩ | h
    · have h2 : k2 < 1 := (List.getElem?_eq_some_iff.mp h).1
      have h3 : k2 = 0 := by omega
      subst h3
      have h4 : a = q.1 := by
        simp only [List.getElem?_cons_zero, Option.some.injEq, Prod.mk.injEq] at h
        exact h.1
      exact hki (hD.1 k i q (a, e) hq hi h4.symm)
    · have := h1.lt
      omega
theorem vp_cellx {cA : ClassId} {N : Nat} {f g : Nat → Int32} (h : ∀ j, j < N → f j = g j) : vp_cell cA (N, .inl f) = vp_cell cA (N, .inl g) := by
  rw [vp_cell_i, vp_cell_i]
  unfold arrV
  congr 2
  funext j
  show Value.int (f j.val) = Value.int (g j.val)
  rw [h j.val j.isLt]
theorem kz_fill {p : Program} {l : Launch} {e : Env} {R : Room} {s : State} {m : MethodId} {args : Array Value} {below : List Frame} {meth : Method} {c : Code} {H : Heap} {locs : List Loc} {cells slots : Nat} {Q : State → Prop} {cc : ByteArray} {nL : Nat} {own : String} {pc : Nat} {ls : Array Slot} {rest : List Value} {G : va_G} {kc : KC} {A : Nat → Prop} {L : List FE} {ad : Nat → Nat} {index : Nat}
    (C0 : Cx G kc p s m c args cc nL own) (hRo : RO0 kc A s s.heap) (i : Nat) {a N : Nat} {z v : Int32} {es : List FV} (hi : L[i]? = some (1, N, z, es)) (ha : ad i = a) (hw : SF G kc A s.heap L ad H locs) (hN : N < 2 ^ 31) (hlk : LKm own index yJ7_fill_53178) (hsz : ls.size = nL) (hroom : 0 + 1 ≤ R.frames ∧ 8 + (4 + 11) + 0 ≤ R.locals) (hdg : decode cc pc = .ok (.invokestatic index, 3)) (hcs : cells ≤ R.cells ∧ slots ≤ R.slots) (hW : (rest.map fun v => v.category).sum ≤ 8)
    (kk : ∀ (H1 : Heap) (locs1 : List Loc), SF G kc A s.heap (L.set i (1, N, v, [])) ad H1 locs1 → W p l e R s m args below meth c H1 locs1 cells slots Q (F0 m (pc + 3) ls rest)) : W p l e R s m args below meth c H locs cells slots Q (F0 m pc ls (.int v :: .ref a :: rest)) := by
  subst ha
  obtain ⟨hP, hD, hS, hA⟩ := hw
  have he : (WF kc L ad)[i]? = some (ad i, .inl (kc.1 0, N, .inl (exl z es))) := WF_get hi
  have ew : WW kc [(1, N, [])] (fun _ => ad i) ((fun _ => exl z es), (fun _ _ => 0), (fun _ _ => none)) = [(ad i, .inl (kc.1 0, N, .inl (exl z es)))] := rfl
  have hPt : va_P G vwCl (WW kc [(1, N, [])] (fun _ => ad i) ((fun _ => exl z es), (fun _ _ => 0), (fun _ _ => none))) H := by
    rw [ew]
    intro k q hq
    have h2 : k < 1 := (List.getElem?_eq_some_iff.mp hq).1
    have h3 : k = 0 := by omega
    subst h3
    cases hq
    exact hP i _ he
  have hDt : va_D (fun _ => True) (WW kc [(1, N, [])] (fun _ => ad i) ((fun _ => exl z es), (fun _ _ => 0), (fun _ _ => none))) := by
    rw [ew]
    refine ⟨fun a b x y h1 h2 _ => ?_, fun _ _ _ => trivial⟩
    have h3 : a < 1 := (List.getElem?_eq_some_iff.mp h1).1
    have h4 : b < 1 := (List.getElem?_eq_some_iff.mp h2).1
    omega
  have hFc : ∀ q, va_A (WW kc [(1, N, [])] (fun _ => ad i) ((fun _ => exl z es), (fun _ _ => 0), (fun _ _ => none))) H.size q → A q := by
    intro q h
    rw [ew] at h
    rcases h with ⟨k, e, h⟩ | h
    · have h2 : k < 1 := (List.getElem?_eq_some_iff.mp h).1
      have h3 : k = 0 := by omega
      subst h3
      cases h
      exact hD.2 i _ he
    · exact hA q (Nat.le_trans hS.1 h)
  have hKm := C0.2.2.2.2.2
  have hr := zr_S (As := [.ref (ad i), .int v]) (rest := rest) (locs := locs) (st0 := .int v :: .ref (ad i) :: rest) (e := e) (below := below) (meth := meth) (cells := cells) (slots := slots) C0 (c_J7_fill_53178 l G kc (fun _ => ad i) ((fun _ => exl z es), (fun _ _ => 0), (fun _ _ => none)) v N hN H.size) cs_J7_fill_53178 hlk ⟨PreC.blind, fun U hU hW => ⟨rfl, by rw [hU], by rw [hU]; exact hPt, hKm.moved hW, hDt, by rw [hU]; exact hRo.on hS hW hFc⟩⟩ rfl hsz rfl hroom hW hdg ⟨by simpa using hcs.1, by simpa using hcs.2⟩
  refine va_callv hr hS (fun q _ h => hFc q h) hFc (fun σ' t H1 locs1 ht hvm hp hB hz1 hk1 hS1 => ?_)
  obtain ⟨hP1, hD1⟩ := hB
  rw [ht] at hP1
  rw [ew] at hk1
  have hat : va_at G vwCl (ad i, ceF kc ad (1, N, v, [])) H1 := by
    have h1 := hP1 0 (ad i, .inl (kc.1 0, N, .inl (σ'.1 0))) rfl
    show H1[ad i]? = some (vp_cell (kc.1 0) (N, .inl (exl v [])))
    rw [show vp_cell (kc.1 0) (N, .inl (exl v [])) = vp_cell (kc.1 0) (N, .inl (σ'.1 0)) from vp_cellx (fun j hj => (hp j hj).symm)]
    exact h1
  obtain ⟨hP2, hD2⟩ := va_one hP hD he hk1 hat
  rw [WF_set (y := (1, N, v, [])) hi] at hP2 hD2
  exact kk H1 locs1 ⟨hP2, hD2, hS1, hA⟩
