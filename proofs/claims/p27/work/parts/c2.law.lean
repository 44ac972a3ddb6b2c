/-! THE LAW: two worlds side by side -/
theorem va_front {A0 : Nat → Prop} {D : va_G} {cl : List vw_C} {w1 w2 w3 : va_W} {H H1 : Heap} (hP : va_P D cl (w1 ++ w2) H) (hD : va_D A0 (w1 ++ w2)) (hk : ∀ q : Nat, q < H.size → ¬ va_A w1 H.size q → H1[q]? = H[q]?) (hF : ∀ q, va_A w1 H.size q → A0 q) (hP1 : va_P D cl w3 H1) (hD1 : va_D (va_A w1 H.size) w3) : va_P D cl (w3 ++ w2) H1 ∧ va_D A0 (w3 ++ w2) := by
  have up : ∀ (k : Nat) (q : Nat × va_E), w2[k]? = some q → (w1 ++ w2)[w1.length + k]? = some q := fun k q h => by rw [List.getElem?_append_right (by omega), Nat.add_sub_cancel_left]; exact h
  have apart : ∀ (k : Nat) (q : Nat × va_E), w2[k]? = some q → q.1 < H.size ∧ ¬ va_A w1 H.size q.1 := by
    intro k q hq
    have hl := (hP _ q (up k q hq)).lt
    refine ⟨hl, fun h => ?_⟩
    rcases h with ⟨k2, e, h⟩ | h
    · have h4 := (List.getElem?_eq_some_iff.mp h).1
      have h2 : (w1 ++ w2)[k2]? = some (q.1, e) := by rw [List.getElem?_append_left h4]; exact h
      have h3 := hD.1 (w1.length + k) k2 q (q.1, e) (up k q hq) h2 rfl
      omega
    · omega
  refine ⟨va_P.app hP1 (fun k q hq => ?_), va_D.app (hD1.weaken (fun k q _ h => hF q.1 h)) ⟨fun i j x y hi hj hxy => ?_, fun k q hq => hD.2 _ q (up k q hq)⟩ (fun i j x y hx hy hxy => ?_)⟩
  · obtain ⟨g1, g2⟩ := apart k q hq
    exact (hP _ q (up k q hq)).kept (hk q.1 g1 g2)
  · have := hD.1 _ _ x y (up i x hi) (up j y hj) hxy
    omega
  · exact (apart j y hy).2 (by rw [← hxy]; exact hD1.2 i x hx)
def RLa (σ1 σ2 : Sg) : Prop := (∀ k, k < 3 → σ1.1 185 k = σ2.1 3 k) ∧ (∀ k, k < 4 → σ1.1 225 k = σ2.1 33 k) ∧ (∀ k, k < 4 → σ1.1 226 k = σ2.1 34 k)
def KA (σ τ : Sg) : Prop := ∀ x k, (x = 185 ∨ x = 225 ∨ x = 226) → τ.1 x k = σ.1 x k
def KB (σ τ : Sg) : Prop := ∀ x k, (x = 3 ∨ x = 33 ∨ x = 34) → τ.1 x k = σ.1 x k
theorem RLa.f {σ1 σ2 τ1 τ2 : Sg} (h : RLa σ1 σ2) (a : KA σ1 τ1) (b : KB σ2 τ2) : RLa τ1 τ2 :=
  ⟨fun k hk => (a 185 k (by decide)).trans ((h.1 k hk).trans (b 3 k (by decide)).symm), fun k hk => (a 225 k (by decide)).trans ((h.2.1 k hk).trans (b 33 k (by decide)).symm), fun k hk => (a 226 k (by decide)).trans ((h.2.2 k hk).trans (b 34 k (by decide)).symm)⟩
set_option maxRecDepth 100000 in
theorem RL0 : RLa sC0 sM0 := by unfold RLa; decide +kernel
set_option maxRecDepth 100000 in
theorem RLb0 : RLb sC0 sM0 := by
  refine ⟨by decide +kernel, ⟨by decide +kernel, by decide +kernel, by decide +kernel, by decide +kernel, by unfold NDQ; decide +kernel⟩, fun w hw h => ?_⟩
  exact absurd h (by show ¬ (0 : Int32) = 1; decide)
def TW (G : va_G) (kc : KC) (A : Nat → Prop) (H0 : Heap) (ad1 : Nat → Nat) (σ1 : Sg) (ad2 : Nat → Nat) (σ2 : Sg) (H : Heap) (locs : List Loc) : Prop :=
  va_P G vwCl (WW kc shC ad1 σ1 ++ WW kc shM ad2 σ2) H ∧ va_D A (WW kc shC ad1 σ1 ++ WW kc shM ad2 σ2) ∧ va_S A H0 H locs ∧ ∀ q, H0.size ≤ q → A q
section LAWC
variable {p : Program} {l : Launch} {e : Env} {R : Room} {s : State} {m : MethodId} {args : Array Value} {below : List Frame} {meth : Method} {c : Code} {H : Heap} {locs : List Loc} {cells slots : Nat} {Q : State → Prop}
variable {cc cc' : ByteArray} {nL n' fr lo na : Nat} {own : String} {pc : Nat} {ls : Array Slot} {rest st0 As : List Value} {G : va_G} {kc : KC} {A : Nat → Prop} {ad1 ad2 : Nat → Nat} {σ1 σ2 : Sg} {index : Nat} {y : MethodName} {post : Int32 → Sg → Prop}
theorem q_x (C0 : Cx G kc p s m c args cc nL own) (hRo : RO0 kc A s s.heap) (hw : TW G kc A s.heap ad1 σ1 ad2 σ2 H locs) (hM : MI l G kc y cc' n' (some .int) fr lo (.ref (ad1 0) :: As) shC ad1 σ1 post) (hy : y.cls = RX11) (hv : CV y cc' n' (some .int) na) (hlk : LKm own index y) (hna : As.length = na) (hsz : ls.size = nL) (hst : st0 = As.reverse ++ .ref (ad1 0) :: rest) (hroom : fr + 1 ≤ R.frames ∧ 8 + (n' + 11) + lo ≤ R.locals) (hW : (rest.map fun v => v.category).sum ≤ 8) (hdg : decode cc pc = .ok (.invokevirtual index, 3)) (hcs : cells ≤ R.cells ∧ slots ≤ R.slots)
    (kk : ∀ (r : Int32) (σ' : Sg) (H1 : Heap) (locs1 : List Loc), post r σ' → TW G kc A s.heap ad1 σ' ad2 σ2 H1 locs1 → W p l e R s m args below meth c H1 locs1 cells slots Q (F0 m (pc + 3) ls (.int r :: rest))) : W p l e R s m args below meth c H locs cells slots Q (F0 m pc ls st0) := by
  obtain ⟨hP, hD, hS, hA⟩ := hw
  have hK := C0.2.2.2.2.2
  have hPt : va_P G vwCl (WW kc shC ad1 σ1) H := fun k q hq => hP k q (by rw [List.getElem?_append_left (List.getElem?_eq_some_iff.mp hq).1]; exact hq)
  have hup : ∀ (k : Nat) (q : Nat × va_E), (WW kc shC ad1 σ1)[k]? = some q → (WW kc shC ad1 σ1 ++ WW kc shM ad2 σ2)[k]? = some q := fun k q hq => by rw [List.getElem?_append_left (List.getElem?_eq_some_iff.mp hq).1]; exact hq
  have hDt : va_D (fun _ => True) (WW kc shC ad1 σ1) := ⟨fun i j x y hi hj hxy => hD.1 i j x y (hup i x hi) (hup j y hj) hxy, fun _ _ _ => trivial⟩
  have hFc : ∀ q, va_A (WW kc shC ad1 σ1) H.size q → A q := by
    intro q h
    rcases h with ⟨k, e, h⟩ | h
    · exact hD.2 k (q, e) (hup k (q, e) h)
    · exact hA q (Nat.le_trans hS.1 h)
  have hr := zr_V (As := As) (rest := rest) (b := ad1 0) (locs := locs) (st0 := st0) (e := e) (below := below) (meth := meth) (cells := cells) (slots := slots) C0 (hM H.size) hv hlk ⟨PreC.blind, by
      rw [hy]
      exact va_recv (ci := 11) (q0 := 0) (q := (RX11, TX11, 12)) hK.1 hPt rfl (WW_get shc_0), fun U hU hW => ⟨rfl, by rw [hU], by rw [hU]; exact hPt, hK.moved hW, hDt, by rw [hU]; exact hRo.on hS hW hFc⟩⟩ hna hsz hst hroom hW hdg ⟨by simpa using hcs.1, by simpa using hcs.2⟩
  refine va_calli hr hS (fun q _ h => hFc q h) hFc (fun r σ' t H1 locs1 ht hvm hp hB hz1 hk1 hS1 => ?_)
  obtain ⟨hP1, hD1⟩ := hB
  rw [ht] at hP1
  obtain ⟨hP2, hD2⟩ := va_front hP hD hk1 hFc hP1 hD1
  exact kk r σ' H1 locs1 hp ⟨hP2, hD2, hS1, hA⟩
theorem q_m (C0 : Cx G kc p s m c args cc nL own) (hRo : RO0 kc A s s.heap) (hw : TW G kc A s.heap ad1 σ1 ad2 σ2 H locs) (hM : MI l G kc y cc' n' (some .int) fr lo (.ref (ad2 0) :: As) shM ad2 σ2 post) (hy : y.cls = RX12) (hv : CV y cc' n' (some .int) na) (hlk : LKm own index y) (hna : As.length = na) (hsz : ls.size = nL) (hst : st0 = As.reverse ++ .ref (ad2 0) :: rest) (hroom : fr + 1 ≤ R.frames ∧ 8 + (n' + 11) + lo ≤ R.locals) (hW : (rest.map fun v => v.category).sum ≤ 8) (hdg : decode cc pc = .ok (.invokevirtual index, 3)) (hcs : cells ≤ R.cells ∧ slots ≤ R.slots)
    (kk : ∀ (r : Int32) (σ' : Sg) (H1 : Heap) (locs1 : List Loc), post r σ' → TW G kc A s.heap ad1 σ1 ad2 σ' H1 locs1 → W p l e R s m args below meth c H1 locs1 cells slots Q (F0 m (pc + 3) ls (.int r :: rest))) : W p l e R s m args below meth c H locs cells slots Q (F0 m pc ls st0) := by
  obtain ⟨hP, hD, hS, hA⟩ := hw
  have hK := C0.2.2.2.2.2
  have hup : ∀ (k : Nat) (q : Nat × va_E), (WW kc shM ad2 σ2)[k]? = some q → (WW kc shC ad1 σ1 ++ WW kc shM ad2 σ2)[(WW kc shC ad1 σ1).length + k]? = some q := fun k q hq => by rw [List.getElem?_append_right (by omega), Nat.add_sub_cancel_left]; exact hq
  have hPt : va_P G vwCl (WW kc shM ad2 σ2) H := fun k q hq => hP _ q (hup k q hq)
  have hDt : va_D (fun _ => True) (WW kc shM ad2 σ2) := ⟨fun i j x y hi hj hxy => by
      have := hD.1 _ _ x y (hup i x hi) (hup j y hj) hxy
      omega, fun _ _ _ => trivial⟩
  have hFc : ∀ q, va_A (WW kc shM ad2 σ2) H.size q → A q := by
    intro q h
    rcases h with ⟨k, e, h⟩ | h
    · exact hD.2 _ (q, e) (hup k (q, e) h)
    · exact hA q (Nat.le_trans hS.1 h)
  have hr := zr_V (As := As) (rest := rest) (b := ad2 0) (locs := locs) (st0 := st0) (e := e) (below := below) (meth := meth) (cells := cells) (slots := slots) C0 (hM H.size) hv hlk ⟨PreC.blind, by
      rw [hy]
      exact va_recv (ci := 12) (q0 := 0) (q := (RX12, TX12, 54)) hK.1 hPt rfl (WW_get (show shM[0]? = some _ from rfl)), fun U hU hW => ⟨rfl, by rw [hU], by rw [hU]; exact hPt, hK.moved hW, hDt, by rw [hU]; exact hRo.on hS hW hFc⟩⟩ hna hsz hst hroom hW hdg ⟨by simpa using hcs.1, by simpa using hcs.2⟩
  refine va_calli hr hS (fun q _ h => hFc q h) hFc (fun r σ' t H1 locs1 ht hvm hp hB hz1 hk1 hS1 => ?_)
  obtain ⟨hP1, hD1⟩ := hB
  rw [ht] at hP1
  obtain ⟨hP2, hD2⟩ := va_tail hP hD hk1 hFc hP1 hD1
  exact kk r σ' H1 locs1 hp ⟨hP2, hD2, hS1, hA⟩
end LAWC

set_option maxRecDepth 100000 in
theorem law_exit (l : Launch) (G : va_G) (kc : KC) {p : Program} {e : Env} {s : State} {m : MethodId} {below : List Frame} {meth : Method} {c : Code} {b : Nat} (hr : meth.sig.returnType = ret) (hlk : meth.locks = false) (C0 : Cx G kc p s m c #[Value.ref b] cL_law 4 RL) {H : Heap} {locs : List Loc} {ls : Array Slot} (hS : va_S (fun q : Nat => s.heap.size ≤ q) s.heap H locs) : W p l e room_1 s m #[Value.ref b] below meth c H locs 836 1863908 (lw_Z below #[Value.ref b] s) (F0 m 1622 ls []) := by
  have hx := C0.1
  have hb := C0.2.1
  refine lv_iconst (v := 1) hx hb (dkP dF_4 DL_law (i := 1146) rfl rfl) (by decide) ?_
  refine va_forget (fun q hq => hS.2.2 q hq) ?_
  refine W.widen (k := 600000) (n := 7302250) (by decide) (by decide) ?_
  exact lw_ret hx hb hr hlk (dkP dF_172 DL_law (i := 1147) rfl rfl)
set_option maxRecDepth 100000 in
set_option maxHeartbeats 4000000 in
theorem law_0 (l : Launch) (G : va_G) (kc : KC) {p : Program} {e : Env} {s : State} {m : MethodId} {below : List Frame} {meth : Method} {c : Code} {b L : Nat} {xs : Nat → Int32} (C0 : Cx G kc p s m c #[Value.ref b] cL_law 4 RL) (hRo : RO0 kc (fun q : Nat => s.heap.size ≤ q) s s.heap) (hX : va_X b L xs s s.heap) (hbl : b < s.heap.size) (hL : L ≤ 3072) {ad1 ad2 : Nat → Nat} {q : Nat} (hq : 6 * q + 6 ≤ L) {σ1 σ2 : Sg} (hT1 : TC σ1) (hJ1 : JC σ1) (hT2 : TM σ2) (hJ2 : JM σ2) (hR : RLb σ1 σ2) {H : Heap} {locs : List Loc} {ls : Array Slot} (hw : TW G kc (fun q : Nat => s.heap.size ≤ q) s.heap ad1 σ1 ad2 σ2 H locs) (hl : lv_has ls 4 [(3, .int (nI (6 * q))), (2, .ref (ad2 0)), (1, .ref (ad1 0)), (0, .ref b)]) (kk : ∀ (σ1 σ2 : Sg) (H : Heap) (locs : List Loc), TC σ1 → JC σ1 → TM σ2 → JM σ2 → RLb σ1 σ2 → TW G kc (fun q : Nat => s.heap.size ≤ q) s.heap ad1 σ1 ad2 σ2 H locs → W p l e room_1 s m #[Value.ref b] below meth c H locs 836 1863908 (lw_Z below #[Value.ref b] s) (F0 m 1616 ls [])) : W p l e room_1 s m #[Value.ref b] below meth c H locs 836 1863908 (lw_Z below #[Value.ref b] s) (F0 m 224 ls []) := by
  have hx := C0.1
  have hb := C0.2.1
  have hown := C0.2.2.2.1
  have hts := C0.2.2.2.2.1
  have hbA : ¬ (fun q : Nat => s.heap.size ≤ q) b := Nat.not_le.mpr hbl
  refine lv_aload_n hx hb (dkP dF_43 DL_law (i := 22) rfl rfl) rfl (lv_at hl 2 rfl) ?_
  refine lv_aload_n hx hb (dkP dF_42 DL_law (i := 23) rfl rfl) rfl (lv_at hl 3 rfl) ?_
  refine lv_iload_n hx hb (dkP dF_29 DL_law (i := 24) rfl rfl) rfl (lv_at hl 0 rfl) ?_
  refine lv_iconst (v := 1) hx hb (dkP dF_4 DL_law (i := 25) rfl rfl) (by decide) ?_
  refine lv_iadd hx hb (dkP dF_96 DL_law (i := 26) rfl rfl) ?_
  refine z_top (y := nI (6 * q + 1)) (by simp only [fa_lit, nI_add]) ?_
  refine va_sld hx hb hX hbl hbA hw.2.2.1 (i := nI (6 * q + 1)) (vp_in_nI (by omega) (by omega)) (dkP dF_46 DL_law (i := 27) rfl rfl) ?_
  refine lv_aload_n hx hb (dkP dF_42 DL_law (i := 28) rfl rfl) rfl (lv_at hl 3 rfl) ?_
  refine lv_iload_n hx hb (dkP dF_29 DL_law (i := 29) rfl rfl) rfl (lv_at hl 0 rfl) ?_
  refine lv_iconst (v := 2) hx hb (dkP dF_5 DL_law (i := 30) rfl rfl) (by decide) ?_
  refine lv_iadd hx hb (dkP dF_96 DL_law (i := 31) rfl rfl) ?_
  refine z_top (y := nI (6 * q + 2)) (by simp only [fa_lit, nI_add]) ?_
  refine va_sld hx hb hX hbl hbA hw.2.2.1 (i := nI (6 * q + 2)) (vp_in_nI (by omega) (by omega)) (dkP dF_46 DL_law (i := 32) rfl rfl) ?_
  refine lv_aload_n hx hb (dkP dF_42 DL_law (i := 33) rfl rfl) rfl (lv_at hl 3 rfl) ?_
  refine lv_iload_n hx hb (dkP dF_29 DL_law (i := 34) rfl rfl) rfl (lv_at hl 0 rfl) ?_
  refine lv_iconst (v := 3) hx hb (dkP dF_6 DL_law (i := 35) rfl rfl) (by decide) ?_
  refine lv_iadd hx hb (dkP dF_96 DL_law (i := 36) rfl rfl) ?_
  refine z_top (y := nI (6 * q + 3)) (by simp only [fa_lit, nI_add]) ?_
  refine va_sld hx hb hX hbl hbA hw.2.2.1 (i := nI (6 * q + 3)) (vp_in_nI (by omega) (by omega)) (dkP dF_46 DL_law (i := 37) rfl rfl) ?_
  refine lv_aload_n hx hb (dkP dF_42 DL_law (i := 38) rfl rfl) rfl (lv_at hl 3 rfl) ?_
  refine lv_iload_n hx hb (dkP dF_29 DL_law (i := 39) rfl rfl) rfl (lv_at hl 0 rfl) ?_
  refine lv_iconst (v := 4) hx hb (dkP dF_7 DL_law (i := 40) rfl rfl) (by decide) ?_
  refine lv_iadd hx hb (dkP dF_96 DL_law (i := 41) rfl rfl) ?_
  refine z_top (y := nI (6 * q + 4)) (by simp only [fa_lit, nI_add]) ?_
  refine va_sld hx hb hX hbl hbA hw.2.2.1 (i := nI (6 * q + 4)) (vp_in_nI (by omega) (by omega)) (dkP dF_46 DL_law (i := 42) rfl rfl) ?_
  refine lv_aload_n hx hb (dkP dF_42 DL_law (i := 43) rfl rfl) rfl (lv_at hl 3 rfl) ?_
  refine lv_iload_n hx hb (dkP dF_29 DL_law (i := 44) rfl rfl) rfl (lv_at hl 0 rfl) ?_
  refine lv_iconst (v := 5) hx hb (dkP dF_8 DL_law (i := 45) rfl rfl) (by decide) ?_
  refine lv_iadd hx hb (dkP dF_96 DL_law (i := 46) rfl rfl) ?_
  refine z_top (y := nI (6 * q + 5)) (by simp only [fa_lit, nI_add]) ?_
  refine va_sld hx hb hX hbl hbA hw.2.2.1 (i := nI (6 * q + 5)) (vp_in_nI (by omega) (by omega)) (dkP dF_46 DL_law (i := 47) rfl rfl) ?_
  refine q_x (As := [.int (xs (nI (6 * q + 1)).toNatClampNeg), .int (xs (nI (6 * q + 2)).toNatClampNeg), .int (xs (nI (6 * q + 3)).toNatClampNeg), .int (xs (nI (6 * q + 4)).toNatClampNeg), .int (xs (nI (6 * q + 5)).toNatClampNeg)]) (rest := []) C0 hRo hw (c_X11_feed l G kc ad1 σ1 (xs (nI (6 * q + 1)).toNatClampNeg) (xs (nI (6 * q + 2)).toNatClampNeg) (xs (nI (6 * q + 3)).toNatClampNeg) (xs (nI (6 * q + 4)).toNatClampNeg) (xs (nI (6 * q + 5)).toNatClampNeg) hJ1 hT1) rfl cv_X11_feed lk_L_13 rfl hl.1 rfl ⟨by decide, by decide⟩ (Nat.le_of_ble_eq_true rfl) (dk2 dF_182 DL_law (i := 48) rfl rfl rfl) ⟨by decide, by decide⟩ (fun r1 s1 H locs hp1 hw => ?_)
  obtain ⟨g1_0, hT1_, hF1⟩ := hp1
  have hJ1 := g1_0
  have hT1 := hT1_
  have hA : KA2 σ1 s1 := fun x k hx9 => hF1.1 x k (fun h9 => by rcases hx9 with rfl | rfl | rfl | rfl | rfl | hx9 <;> first | (simp at h9; done) | omega)
  refine lv_pop hx hb (dkP dF_87 DL_law (i := 49) rfl rfl) rfl ?_
  refine lv_aload_n hx hb (dkP dF_44 DL_law (i := 50) rfl rfl) rfl (lv_at hl 1 rfl) ?_
  refine lv_aload_n hx hb (dkP dF_42 DL_law (i := 51) rfl rfl) rfl (lv_at hl 3 rfl) ?_
  refine lv_iload_n hx hb (dkP dF_29 DL_law (i := 52) rfl rfl) rfl (lv_at hl 0 rfl) ?_
  refine lv_iconst (v := 1) hx hb (dkP dF_4 DL_law (i := 53) rfl rfl) (by decide) ?_
  refine lv_iadd hx hb (dkP dF_96 DL_law (i := 54) rfl rfl) ?_
  refine z_top (y := nI (6 * q + 1)) (by simp only [fa_lit, nI_add]) ?_
  refine va_sld hx hb hX hbl hbA hw.2.2.1 (i := nI (6 * q + 1)) (vp_in_nI (by omega) (by omega)) (dkP dF_46 DL_law (i := 55) rfl rfl) ?_
  refine lv_aload_n hx hb (dkP dF_42 DL_law (i := 56) rfl rfl) rfl (lv_at hl 3 rfl) ?_
  refine lv_iload_n hx hb (dkP dF_29 DL_law (i := 57) rfl rfl) rfl (lv_at hl 0 rfl) ?_
  refine lv_iconst (v := 2) hx hb (dkP dF_5 DL_law (i := 58) rfl rfl) (by decide) ?_
  refine lv_iadd hx hb (dkP dF_96 DL_law (i := 59) rfl rfl) ?_
  refine z_top (y := nI (6 * q + 2)) (by simp only [fa_lit, nI_add]) ?_
  refine va_sld hx hb hX hbl hbA hw.2.2.1 (i := nI (6 * q + 2)) (vp_in_nI (by omega) (by omega)) (dkP dF_46 DL_law (i := 60) rfl rfl) ?_
  refine lv_aload_n hx hb (dkP dF_42 DL_law (i := 61) rfl rfl) rfl (lv_at hl 3 rfl) ?_
  refine lv_iload_n hx hb (dkP dF_29 DL_law (i := 62) rfl rfl) rfl (lv_at hl 0 rfl) ?_
  refine lv_iconst (v := 3) hx hb (dkP dF_6 DL_law (i := 63) rfl rfl) (by decide) ?_
  refine lv_iadd hx hb (dkP dF_96 DL_law (i := 64) rfl rfl) ?_
  refine z_top (y := nI (6 * q + 3)) (by simp only [fa_lit, nI_add]) ?_
  refine va_sld hx hb hX hbl hbA hw.2.2.1 (i := nI (6 * q + 3)) (vp_in_nI (by omega) (by omega)) (dkP dF_46 DL_law (i := 65) rfl rfl) ?_
  refine lv_aload_n hx hb (dkP dF_42 DL_law (i := 66) rfl rfl) rfl (lv_at hl 3 rfl) ?_
  refine lv_iload_n hx hb (dkP dF_29 DL_law (i := 67) rfl rfl) rfl (lv_at hl 0 rfl) ?_
  refine lv_iconst (v := 4) hx hb (dkP dF_7 DL_law (i := 68) rfl rfl) (by decide) ?_
  refine lv_iadd hx hb (dkP dF_96 DL_law (i := 69) rfl rfl) ?_
  refine z_top (y := nI (6 * q + 4)) (by simp only [fa_lit, nI_add]) ?_
  refine va_sld hx hb hX hbl hbA hw.2.2.1 (i := nI (6 * q + 4)) (vp_in_nI (by omega) (by omega)) (dkP dF_46 DL_law (i := 70) rfl rfl) ?_
  refine lv_aload_n hx hb (dkP dF_42 DL_law (i := 71) rfl rfl) rfl (lv_at hl 3 rfl) ?_
  refine lv_iload_n hx hb (dkP dF_29 DL_law (i := 72) rfl rfl) rfl (lv_at hl 0 rfl) ?_
  refine lv_iconst (v := 5) hx hb (dkP dF_8 DL_law (i := 73) rfl rfl) (by decide) ?_
  refine lv_iadd hx hb (dkP dF_96 DL_law (i := 74) rfl rfl) ?_
  refine z_top (y := nI (6 * q + 5)) (by simp only [fa_lit, nI_add]) ?_
  refine va_sld hx hb hX hbl hbA hw.2.2.1 (i := nI (6 * q + 5)) (vp_in_nI (by omega) (by omega)) (dkP dF_46 DL_law (i := 75) rfl rfl) ?_
  refine q_m (As := [.int (xs (nI (6 * q + 1)).toNatClampNeg), .int (xs (nI (6 * q + 2)).toNatClampNeg), .int (xs (nI (6 * q + 3)).toNatClampNeg), .int (xs (nI (6 * q + 4)).toNatClampNeg), .int (xs (nI (6 * q + 5)).toNatClampNeg)]) (rest := []) C0 hRo hw (c_X12_feed l G kc ad2 σ2 (xs (nI (6 * q + 1)).toNatClampNeg) (xs (nI (6 * q + 2)).toNatClampNeg) (xs (nI (6 * q + 3)).toNatClampNeg) (xs (nI (6 * q + 4)).toNatClampNeg) (xs (nI (6 * q + 5)).toNatClampNeg)  hT2) rfl cv_X12_feed lk_L_17 rfl hl.1 rfl ⟨by decide, by decide⟩ (Nat.le_of_ble_eq_true rfl) (dk2 dF_182 DL_law (i := 76) rfl rfl rfl) ⟨by decide, by decide⟩ (fun r2 s2 H locs hp2 hw => ?_)
  obtain ⟨hT2_, hF2⟩ := hp2
  have hJ2 := hJ2.f hF2 (by decide) (by decide)
  have hT2 := hT2_
  have hB : KB2 σ2 s2 := ⟨fun k => congrFun (hF2.1 2 (by decide) (by decide)) k, fun k => congrFun (hF2.1 3 (by decide) (by decide)) k, fun k hk => hF2.2.2.2 rfl k hk⟩
  have hN : RLb s1 s2 := hR.f hA hB
  refine lv_pop hx hb (dkP dF_87 DL_law (i := 77) rfl rfl) rfl ?_
  refine lv_goto (tgt := 1616) hx hb (dkS dF_167 DL_law (i := 78) rfl rfl rfl) (by decide) ?_
  exact kk _ _ _ _ hT1 hJ1 hT2 hJ2 hN hw
set_option maxRecDepth 100000 in
set_option maxHeartbeats 4000000 in
theorem law_1 (l : Launch) (G : va_G) (kc : KC) {p : Program} {e : Env} {s : State} {m : MethodId} {below : List Frame} {meth : Method} {c : Code} {b L : Nat} {xs : Nat → Int32} (C0 : Cx G kc p s m c #[Value.ref b] cL_law 4 RL) (hRo : RO0 kc (fun q : Nat => s.heap.size ≤ q) s s.heap) (hX : va_X b L xs s s.heap) (hbl : b < s.heap.size) (hL : L ≤ 3072) {ad1 ad2 : Nat → Nat} {q : Nat} (hq : 6 * q + 6 ≤ L) {σ1 σ2 : Sg} (hT1 : TC σ1) (hJ1 : JC σ1) (hT2 : TM σ2) (hJ2 : JM σ2) (hR : RLb σ1 σ2) {H : Heap} {locs : List Loc} {ls : Array Slot} (hw : TW G kc (fun q : Nat => s.heap.size ≤ q) s.heap ad1 σ1 ad2 σ2 H locs) (hl : lv_has ls 4 [(3, .int (nI (6 * q))), (2, .ref (ad2 0)), (1, .ref (ad1 0)), (0, .ref b)]) (kk : ∀ (σ1 σ2 : Sg) (H : Heap) (locs : List Loc), TC σ1 → JC σ1 → TM σ2 → JM σ2 → RLb σ1 σ2 → TW G kc (fun q : Nat => s.heap.size ≤ q) s.heap ad1 σ1 ad2 σ2 H locs → W p l e room_1 s m #[Value.ref b] below meth c H locs 836 1863908 (lw_Z below #[Value.ref b] s) (F0 m 1616 ls [])) : W p l e room_1 s m #[Value.ref b] below meth c H locs 836 1863908 (lw_Z below #[Value.ref b] s) (F0 m 287 ls []) := by
  have hx := C0.1
  have hb := C0.2.1
  have hown := C0.2.2.2.1
  have hts := C0.2.2.2.2.1
  have hbA : ¬ (fun q : Nat => s.heap.size ≤ q) b := Nat.not_le.mpr hbl
  refine lv_aload_n hx hb (dkP dF_43 DL_law (i := 79) rfl rfl) rfl (lv_at hl 2 rfl) ?_
  refine lv_aload_n hx hb (dkP dF_42 DL_law (i := 80) rfl rfl) rfl (lv_at hl 3 rfl) ?_
  refine lv_iload_n hx hb (dkP dF_29 DL_law (i := 81) rfl rfl) rfl (lv_at hl 0 rfl) ?_
  refine lv_iconst (v := 1) hx hb (dkP dF_4 DL_law (i := 82) rfl rfl) (by decide) ?_
  refine lv_iadd hx hb (dkP dF_96 DL_law (i := 83) rfl rfl) ?_
  refine z_top (y := nI (6 * q + 1)) (by simp only [fa_lit, nI_add]) ?_
  refine va_sld hx hb hX hbl hbA hw.2.2.1 (i := nI (6 * q + 1)) (vp_in_nI (by omega) (by omega)) (dkP dF_46 DL_law (i := 84) rfl rfl) ?_
  refine q_x (As := [.int (xs (nI (6 * q + 1)).toNatClampNeg)]) (rest := []) C0 hRo hw (c_X11_end l G kc ad1 σ1 (xs (nI (6 * q + 1)).toNatClampNeg) hJ1 hT1) rfl cv_X11_end lk_L_18 rfl hl.1 rfl ⟨by decide, by decide⟩ (Nat.le_of_ble_eq_true rfl) (dk2 dF_182 DL_law (i := 85) rfl rfl rfl) ⟨by decide, by decide⟩ (fun r1 s1 H locs hp1 hw => ?_)
  obtain ⟨g1_0, hT1_, hF1⟩ := hp1
  have hJ1 := g1_0
  have hT1 := hT1_
  have hA : KA2 σ1 s1 := fun x k hx9 => hF1.1 x k (fun h9 => by rcases hx9 with rfl | rfl | rfl | rfl | rfl | hx9 <;> first | (simp at h9; done) | omega)
  refine lv_pop hx hb (dkP dF_87 DL_law (i := 86) rfl rfl) rfl ?_
  refine lv_aload_n hx hb (dkP dF_44 DL_law (i := 87) rfl rfl) rfl (lv_at hl 1 rfl) ?_
  refine lv_aload_n hx hb (dkP dF_42 DL_law (i := 88) rfl rfl) rfl (lv_at hl 3 rfl) ?_
  refine lv_iload_n hx hb (dkP dF_29 DL_law (i := 89) rfl rfl) rfl (lv_at hl 0 rfl) ?_
  refine lv_iconst (v := 1) hx hb (dkP dF_4 DL_law (i := 90) rfl rfl) (by decide) ?_
  refine lv_iadd hx hb (dkP dF_96 DL_law (i := 91) rfl rfl) ?_
  refine z_top (y := nI (6 * q + 1)) (by simp only [fa_lit, nI_add]) ?_
  refine va_sld hx hb hX hbl hbA hw.2.2.1 (i := nI (6 * q + 1)) (vp_in_nI (by omega) (by omega)) (dkP dF_46 DL_law (i := 92) rfl rfl) ?_
  refine q_m (As := [.int (xs (nI (6 * q + 1)).toNatClampNeg)]) (rest := []) C0 hRo hw (c_X12_end l G kc ad2 σ2 (xs (nI (6 * q + 1)).toNatClampNeg)  hT2) rfl cv_X12_end lk_L_22 rfl hl.1 rfl ⟨by decide, by decide⟩ (Nat.le_of_ble_eq_true rfl) (dk2 dF_182 DL_law (i := 93) rfl rfl rfl) ⟨by decide, by decide⟩ (fun r2 s2 H locs hp2 hw => ?_)
  obtain ⟨hT2_, hF2⟩ := hp2
  have hJ2 := hJ2.f hF2 (by decide) (by decide)
  have hT2 := hT2_
  have hB : KB2 σ2 s2 := ⟨fun k => congrFun (hF2.1 2 (by decide) (by decide)) k, fun k => congrFun (hF2.1 3 (by decide) (by decide)) k, fun k hk => hF2.2.2.2 rfl k hk⟩
  have hN : RLb s1 s2 := hR.f hA hB
  refine lv_pop hx hb (dkP dF_87 DL_law (i := 94) rfl rfl) rfl ?_
  refine lv_goto (tgt := 1616) hx hb (dkS dF_167 DL_law (i := 95) rfl rfl rfl) (by decide) ?_
  exact kk _ _ _ _ hT1 hJ1 hT2 hJ2 hN hw
set_option maxRecDepth 100000 in
set_option maxHeartbeats 4000000 in
theorem law_2 (l : Launch) (G : va_G) (kc : KC) {p : Program} {e : Env} {s : State} {m : MethodId} {below : List Frame} {meth : Method} {c : Code} {b L : Nat} {xs : Nat → Int32} (C0 : Cx G kc p s m c #[Value.ref b] cL_law 4 RL) (hRo : RO0 kc (fun q : Nat => s.heap.size ≤ q) s s.heap) (hX : va_X b L xs s s.heap) (hbl : b < s.heap.size) (hL : L ≤ 3072) {ad1 ad2 : Nat → Nat} {q : Nat} (hq : 6 * q + 6 ≤ L) {σ1 σ2 : Sg} (hT1 : TC σ1) (hJ1 : JC σ1) (hT2 : TM σ2) (hJ2 : JM σ2) (hR : RLb σ1 σ2) {H : Heap} {locs : List Loc} {ls : Array Slot} (hw : TW G kc (fun q : Nat => s.heap.size ≤ q) s.heap ad1 σ1 ad2 σ2 H locs) (hl : lv_has ls 4 [(3, .int (nI (6 * q))), (2, .ref (ad2 0)), (1, .ref (ad1 0)), (0, .ref b)]) (kk : ∀ (σ1 σ2 : Sg) (H : Heap) (locs : List Loc), TC σ1 → JC σ1 → TM σ2 → JM σ2 → RLb σ1 σ2 → TW G kc (fun q : Nat => s.heap.size ≤ q) s.heap ad1 σ1 ad2 σ2 H locs → W p l e room_1 s m #[Value.ref b] below meth c H locs 836 1863908 (lw_Z below #[Value.ref b] s) (F0 m 1616 ls [])) : W p l e room_1 s m #[Value.ref b] below meth c H locs 836 1863908 (lw_Z below #[Value.ref b] s) (F0 m 310 ls []) := by
  have hx := C0.1
  have hb := C0.2.1
  have hown := C0.2.2.2.1
  have hts := C0.2.2.2.2.1
  have hbA : ¬ (fun q : Nat => s.heap.size ≤ q) b := Nat.not_le.mpr hbl
  refine lv_aload_n hx hb (dkP dF_43 DL_law (i := 96) rfl rfl) rfl (lv_at hl 2 rfl) ?_
  refine lv_aload_n hx hb (dkP dF_42 DL_law (i := 97) rfl rfl) rfl (lv_at hl 3 rfl) ?_
  refine lv_iload_n hx hb (dkP dF_29 DL_law (i := 98) rfl rfl) rfl (lv_at hl 0 rfl) ?_
  refine lv_iconst (v := 1) hx hb (dkP dF_4 DL_law (i := 99) rfl rfl) (by decide) ?_
  refine lv_iadd hx hb (dkP dF_96 DL_law (i := 100) rfl rfl) ?_
  refine z_top (y := nI (6 * q + 1)) (by simp only [fa_lit, nI_add]) ?_
  refine va_sld hx hb hX hbl hbA hw.2.2.1 (i := nI (6 * q + 1)) (vp_in_nI (by omega) (by omega)) (dkP dF_46 DL_law (i := 101) rfl rfl) ?_
  refine q_x (As := [.int (xs (nI (6 * q + 1)).toNatClampNeg)]) (rest := []) C0 hRo hw (c_X11_old l G kc ad1 σ1 (xs (nI (6 * q + 1)).toNatClampNeg) hJ1 hT1) rfl cv_X11_old lk_L_23 rfl hl.1 rfl ⟨by decide, by decide⟩ (Nat.le_of_ble_eq_true rfl) (dk2 dF_182 DL_law (i := 102) rfl rfl rfl) ⟨by decide, by decide⟩ (fun r1 s1 H locs hp1 hw => ?_)
  obtain ⟨g1_0, hT1_, hF1⟩ := hp1
  have hJ1 := g1_0
  have hT1 := hT1_
  have hA : KA2 σ1 s1 := fun x k hx9 => hF1.1 x k (fun h9 => by rcases hx9 with rfl | rfl | rfl | rfl | rfl | hx9 <;> first | (simp at h9; done) | omega)
  refine lv_pop hx hb (dkP dF_87 DL_law (i := 103) rfl rfl) rfl ?_
  refine lv_aload_n hx hb (dkP dF_44 DL_law (i := 104) rfl rfl) rfl (lv_at hl 1 rfl) ?_
  refine lv_aload_n hx hb (dkP dF_42 DL_law (i := 105) rfl rfl) rfl (lv_at hl 3 rfl) ?_
  refine lv_iload_n hx hb (dkP dF_29 DL_law (i := 106) rfl rfl) rfl (lv_at hl 0 rfl) ?_
  refine lv_iconst (v := 1) hx hb (dkP dF_4 DL_law (i := 107) rfl rfl) (by decide) ?_
  refine lv_iadd hx hb (dkP dF_96 DL_law (i := 108) rfl rfl) ?_
  refine z_top (y := nI (6 * q + 1)) (by simp only [fa_lit, nI_add]) ?_
  refine va_sld hx hb hX hbl hbA hw.2.2.1 (i := nI (6 * q + 1)) (vp_in_nI (by omega) (by omega)) (dkP dF_46 DL_law (i := 109) rfl rfl) ?_
  refine q_m (As := [.int (xs (nI (6 * q + 1)).toNatClampNeg)]) (rest := []) C0 hRo hw (c_X12_old l G kc ad2 σ2 (xs (nI (6 * q + 1)).toNatClampNeg)  hT2) rfl cv_X12_old lk_L_26 rfl hl.1 rfl ⟨by decide, by decide⟩ (Nat.le_of_ble_eq_true rfl) (dk2 dF_182 DL_law (i := 110) rfl rfl rfl) ⟨by decide, by decide⟩ (fun r2 s2 H locs hp2 hw => ?_)
  obtain ⟨hT2_, hF2⟩ := hp2
  have hJ2 := hJ2.f hF2 (by decide) (by decide)
  have hT2 := hT2_
  have hB : KB2 σ2 s2 := ⟨fun k => congrFun (hF2.1 2 (by decide) (by decide)) k, fun k => congrFun (hF2.1 3 (by decide) (by decide)) k, fun k hk => hF2.2.2.2 rfl k hk⟩
  have hN : RLb s1 s2 := hR.f hA hB
  refine lv_pop hx hb (dkP dF_87 DL_law (i := 111) rfl rfl) rfl ?_
  refine lv_goto (tgt := 1616) hx hb (dkS dF_167 DL_law (i := 112) rfl rfl rfl) (by decide) ?_
  exact kk _ _ _ _ hT1 hJ1 hT2 hJ2 hN hw
set_option maxRecDepth 100000 in
set_option maxHeartbeats 4000000 in
theorem law_3 (l : Launch) (G : va_G) (kc : KC) {p : Program} {e : Env} {s : State} {m : MethodId} {below : List Frame} {meth : Method} {c : Code} {b L : Nat} {xs : Nat → Int32} (C0 : Cx G kc p s m c #[Value.ref b] cL_law 4 RL) (hRo : RO0 kc (fun q : Nat => s.heap.size ≤ q) s s.heap) (hX : va_X b L xs s s.heap) (hbl : b < s.heap.size) (hL : L ≤ 3072) {ad1 ad2 : Nat → Nat} {q : Nat} (hq : 6 * q + 6 ≤ L) {σ1 σ2 : Sg} (hT1 : TC σ1) (hJ1 : JC σ1) (hT2 : TM σ2) (hJ2 : JM σ2) (hR : RLb σ1 σ2) {H : Heap} {locs : List Loc} {ls : Array Slot} (hw : TW G kc (fun q : Nat => s.heap.size ≤ q) s.heap ad1 σ1 ad2 σ2 H locs) (hl : lv_has ls 4 [(3, .int (nI (6 * q))), (2, .ref (ad2 0)), (1, .ref (ad1 0)), (0, .ref b)]) (kk : ∀ (σ1 σ2 : Sg) (H : Heap) (locs : List Loc), TC σ1 → JC σ1 → TM σ2 → JM σ2 → RLb σ1 σ2 → TW G kc (fun q : Nat => s.heap.size ≤ q) s.heap ad1 σ1 ad2 σ2 H locs → W p l e room_1 s m #[Value.ref b] below meth c H locs 836 1863908 (lw_Z below #[Value.ref b] s) (F0 m 1616 ls [])) : W p l e room_1 s m #[Value.ref b] below meth c H locs 836 1863908 (lw_Z below #[Value.ref b] s) (F0 m 333 ls []) := by
  have hx := C0.1
  have hb := C0.2.1
  have hown := C0.2.2.2.1
  have hts := C0.2.2.2.2.1
  have hbA : ¬ (fun q : Nat => s.heap.size ≤ q) b := Nat.not_le.mpr hbl
  refine lv_aload_n hx hb (dkP dF_43 DL_law (i := 113) rfl rfl) rfl (lv_at hl 2 rfl) ?_
  refine lv_aload_n hx hb (dkP dF_42 DL_law (i := 114) rfl rfl) rfl (lv_at hl 3 rfl) ?_
  refine lv_iload_n hx hb (dkP dF_29 DL_law (i := 115) rfl rfl) rfl (lv_at hl 0 rfl) ?_
  refine lv_iconst (v := 1) hx hb (dkP dF_4 DL_law (i := 116) rfl rfl) (by decide) ?_
  refine lv_iadd hx hb (dkP dF_96 DL_law (i := 117) rfl rfl) ?_
  refine z_top (y := nI (6 * q + 1)) (by simp only [fa_lit, nI_add]) ?_
  refine va_sld hx hb hX hbl hbA hw.2.2.1 (i := nI (6 * q + 1)) (vp_in_nI (by omega) (by omega)) (dkP dF_46 DL_law (i := 118) rfl rfl) ?_
  refine q_x (As := [.int (xs (nI (6 * q + 1)).toNatClampNeg)]) (rest := []) C0 hRo hw (c_X11_renew l G kc ad1 σ1 (xs (nI (6 * q + 1)).toNatClampNeg) hJ1 hT1) rfl cv_X11_renew lk_L_27 rfl hl.1 rfl ⟨by decide, by decide⟩ (Nat.le_of_ble_eq_true rfl) (dk2 dF_182 DL_law (i := 119) rfl rfl rfl) ⟨by decide, by decide⟩ (fun r1 s1 H locs hp1 hw => ?_)
  obtain ⟨g1_0, hT1_, hF1⟩ := hp1
  have hJ1 := g1_0
  have hT1 := hT1_
  have hA : KA2 σ1 s1 := fun x k hx9 => hF1.1 x k (fun h9 => by rcases hx9 with rfl | rfl | rfl | rfl | rfl | hx9 <;> first | (simp at h9; done) | omega)
  refine lv_pop hx hb (dkP dF_87 DL_law (i := 120) rfl rfl) rfl ?_
  refine lv_aload_n hx hb (dkP dF_44 DL_law (i := 121) rfl rfl) rfl (lv_at hl 1 rfl) ?_
  refine lv_aload_n hx hb (dkP dF_42 DL_law (i := 122) rfl rfl) rfl (lv_at hl 3 rfl) ?_
  refine lv_iload_n hx hb (dkP dF_29 DL_law (i := 123) rfl rfl) rfl (lv_at hl 0 rfl) ?_
  refine lv_iconst (v := 1) hx hb (dkP dF_4 DL_law (i := 124) rfl rfl) (by decide) ?_
  refine lv_iadd hx hb (dkP dF_96 DL_law (i := 125) rfl rfl) ?_
  refine z_top (y := nI (6 * q + 1)) (by simp only [fa_lit, nI_add]) ?_
  refine va_sld hx hb hX hbl hbA hw.2.2.1 (i := nI (6 * q + 1)) (vp_in_nI (by omega) (by omega)) (dkP dF_46 DL_law (i := 126) rfl rfl) ?_
  refine q_m (As := [.int (xs (nI (6 * q + 1)).toNatClampNeg)]) (rest := []) C0 hRo hw (c_X12_renew l G kc ad2 σ2 (xs (nI (6 * q + 1)).toNatClampNeg)  hT2) rfl cv_X12_renew lk_L_30 rfl hl.1 rfl ⟨by decide, by decide⟩ (Nat.le_of_ble_eq_true rfl) (dk2 dF_182 DL_law (i := 127) rfl rfl rfl) ⟨by decide, by decide⟩ (fun r2 s2 H locs hp2 hw => ?_)
  obtain ⟨hT2_, hF2⟩ := hp2
  have hJ2 := hJ2.f hF2 (by decide) (by decide)
  have hT2 := hT2_
  have hB : KB2 σ2 s2 := ⟨fun k => congrFun (hF2.1 2 (by decide) (by decide)) k, fun k => congrFun (hF2.1 3 (by decide) (by decide)) k, fun k hk => hF2.2.2.2 rfl k hk⟩
  have hN : RLb s1 s2 := hR.f hA hB
  refine lv_pop hx hb (dkP dF_87 DL_law (i := 128) rfl rfl) rfl ?_
  refine lv_goto (tgt := 1616) hx hb (dkS dF_167 DL_law (i := 129) rfl rfl rfl) (by decide) ?_
  exact kk _ _ _ _ hT1 hJ1 hT2 hJ2 hN hw
set_option maxRecDepth 100000 in
set_option maxHeartbeats 4000000 in
theorem law_4 (l : Launch) (G : va_G) (kc : KC) {p : Program} {e : Env} {s : State} {m : MethodId} {below : List Frame} {meth : Method} {c : Code} {b L : Nat} {xs : Nat → Int32} (C0 : Cx G kc p s m c #[Value.ref b] cL_law 4 RL) (hRo : RO0 kc (fun q : Nat => s.heap.size ≤ q) s s.heap) (hX : va_X b L xs s s.heap) (hbl : b < s.heap.size) (hL : L ≤ 3072) {ad1 ad2 : Nat → Nat} {q : Nat} (hq : 6 * q + 6 ≤ L) {σ1 σ2 : Sg} (hT1 : TC σ1) (hJ1 : JC σ1) (hT2 : TM σ2) (hJ2 : JM σ2) (hR : RLb σ1 σ2) {H : Heap} {locs : List Loc} {ls : Array Slot} (hw : TW G kc (fun q : Nat => s.heap.size ≤ q) s.heap ad1 σ1 ad2 σ2 H locs) (hl : lv_has ls 4 [(3, .int (nI (6 * q))), (2, .ref (ad2 0)), (1, .ref (ad1 0)), (0, .ref b)]) (kk : ∀ (σ1 σ2 : Sg) (H : Heap) (locs : List Loc), TC σ1 → JC σ1 → TM σ2 → JM σ2 → RLb σ1 σ2 → TW G kc (fun q : Nat => s.heap.size ≤ q) s.heap ad1 σ1 ad2 σ2 H locs → W p l e room_1 s m #[Value.ref b] below meth c H locs 836 1863908 (lw_Z below #[Value.ref b] s) (F0 m 1616 ls [])) : W p l e room_1 s m #[Value.ref b] below meth c H locs 836 1863908 (lw_Z below #[Value.ref b] s) (F0 m 356 ls []) := by
  have hx := C0.1
  have hb := C0.2.1
  have hown := C0.2.2.2.1
  have hts := C0.2.2.2.2.1
  have hbA : ¬ (fun q : Nat => s.heap.size ≤ q) b := Nat.not_le.mpr hbl
  refine lv_aload_n hx hb (dkP dF_43 DL_law (i := 130) rfl rfl) rfl (lv_at hl 2 rfl) ?_
  refine lv_aload_n hx hb (dkP dF_42 DL_law (i := 131) rfl rfl) rfl (lv_at hl 3 rfl) ?_
  refine lv_iload_n hx hb (dkP dF_29 DL_law (i := 132) rfl rfl) rfl (lv_at hl 0 rfl) ?_
  refine lv_iconst (v := 1) hx hb (dkP dF_4 DL_law (i := 133) rfl rfl) (by decide) ?_
  refine lv_iadd hx hb (dkP dF_96 DL_law (i := 134) rfl rfl) ?_
  refine z_top (y := nI (6 * q + 1)) (by simp only [fa_lit, nI_add]) ?_
  refine va_sld hx hb hX hbl hbA hw.2.2.1 (i := nI (6 * q + 1)) (vp_in_nI (by omega) (by omega)) (dkP dF_46 DL_law (i := 135) rfl rfl) ?_
  refine q_x (As := [.int (xs (nI (6 * q + 1)).toNatClampNeg)]) (rest := []) C0 hRo hw (c_X11_fault l G kc ad1 σ1 (xs (nI (6 * q + 1)).toNatClampNeg) hJ1 hT1) rfl cv_X11_fault lk_L_31 rfl hl.1 rfl ⟨by decide, by decide⟩ (Nat.le_of_ble_eq_true rfl) (dk2 dF_182 DL_law (i := 136) rfl rfl rfl) ⟨by decide, by decide⟩ (fun r1 s1 H locs hp1 hw => ?_)
  obtain ⟨g1_0, es1⟩ := hp1
  rw [es1] at hw
  have hA : KA2 σ1 s1 := fun x k _ => by rw [es1]
  refine lv_pop hx hb (dkP dF_87 DL_law (i := 137) rfl rfl) rfl ?_
  refine lv_aload_n hx hb (dkP dF_44 DL_law (i := 138) rfl rfl) rfl (lv_at hl 1 rfl) ?_
  refine lv_aload_n hx hb (dkP dF_42 DL_law (i := 139) rfl rfl) rfl (lv_at hl 3 rfl) ?_
  refine lv_iload_n hx hb (dkP dF_29 DL_law (i := 140) rfl rfl) rfl (lv_at hl 0 rfl) ?_
  refine lv_iconst (v := 1) hx hb (dkP dF_4 DL_law (i := 141) rfl rfl) (by decide) ?_
  refine lv_iadd hx hb (dkP dF_96 DL_law (i := 142) rfl rfl) ?_
  refine z_top (y := nI (6 * q + 1)) (by simp only [fa_lit, nI_add]) ?_
  refine va_sld hx hb hX hbl hbA hw.2.2.1 (i := nI (6 * q + 1)) (vp_in_nI (by omega) (by omega)) (dkP dF_46 DL_law (i := 143) rfl rfl) ?_
  refine q_m (As := [.int (xs (nI (6 * q + 1)).toNatClampNeg)]) (rest := []) C0 hRo hw (c_X12_fault l G kc ad2 σ2 (xs (nI (6 * q + 1)).toNatClampNeg)  hT2) rfl cv_X12_fault lk_L_34 rfl hl.1 rfl ⟨by decide, by decide⟩ (Nat.le_of_ble_eq_true rfl) (dk2 dF_182 DL_law (i := 144) rfl rfl rfl) ⟨by decide, by decide⟩ (fun r2 s2 H locs hp2 hw => ?_)
  have es2 := hp2
  rw [es2] at hw
  have hB : KB2 σ2 s2 := ⟨fun k => by rw [es2], fun k => by rw [es2], fun k _ => by rw [es2]⟩
  have hN : RLb s1 s2 := hR.f hA hB
  rw [es1] at hN
  rw [es2] at hN
  refine lv_pop hx hb (dkP dF_87 DL_law (i := 145) rfl rfl) rfl ?_
  refine lv_goto (tgt := 1616) hx hb (dkS dF_167 DL_law (i := 146) rfl rfl rfl) (by decide) ?_
  exact kk _ _ _ _ hT1 hJ1 hT2 hJ2 hN hw
set_option maxRecDepth 100000 in
set_option maxHeartbeats 4000000 in
theorem law_5 (l : Launch) (G : va_G) (kc : KC) {p : Program} {e : Env} {s : State} {m : MethodId} {below : List Frame} {meth : Method} {c : Code} {b L : Nat} {xs : Nat → Int32} (C0 : Cx G kc p s m c #[Value.ref b] cL_law 4 RL) (hRo : RO0 kc (fun q : Nat => s.heap.size ≤ q) s s.heap) (hX : va_X b L xs s s.heap) (hbl : b < s.heap.size) (hL : L ≤ 3072) {ad1 ad2 : Nat → Nat} {q : Nat} (hq : 6 * q + 6 ≤ L) {σ1 σ2 : Sg} (hT1 : TC σ1) (hJ1 : JC σ1) (hT2 : TM σ2) (hJ2 : JM σ2) (hR : RLb σ1 σ2) {H : Heap} {locs : List Loc} {ls : Array Slot} (hw : TW G kc (fun q : Nat => s.heap.size ≤ q) s.heap ad1 σ1 ad2 σ2 H locs) (hl : lv_has ls 4 [(3, .int (nI (6 * q))), (2, .ref (ad2 0)), (1, .ref (ad1 0)), (0, .ref b)]) (kk : ∀ (σ1 σ2 : Sg) (H : Heap) (locs : List Loc), TC σ1 → JC σ1 → TM σ2 → JM σ2 → RLb σ1 σ2 → TW G kc (fun q : Nat => s.heap.size ≤ q) s.heap ad1 σ1 ad2 σ2 H locs → W p l e room_1 s m #[Value.ref b] below meth c H locs 836 1863908 (lw_Z below #[Value.ref b] s) (F0 m 1616 ls [])) : W p l e room_1 s m #[Value.ref b] below meth c H locs 836 1863908 (lw_Z below #[Value.ref b] s) (F0 m 379 ls []) := by
  have hx := C0.1
  have hb := C0.2.1
  have hown := C0.2.2.2.1
  have hts := C0.2.2.2.2.1
  have hbA : ¬ (fun q : Nat => s.heap.size ≤ q) b := Nat.not_le.mpr hbl
  refine lv_aload_n hx hb (dkP dF_43 DL_law (i := 147) rfl rfl) rfl (lv_at hl 2 rfl) ?_
  refine lv_aload_n hx hb (dkP dF_42 DL_law (i := 148) rfl rfl) rfl (lv_at hl 3 rfl) ?_
  refine lv_iload_n hx hb (dkP dF_29 DL_law (i := 149) rfl rfl) rfl (lv_at hl 0 rfl) ?_
  refine lv_iconst (v := 1) hx hb (dkP dF_4 DL_law (i := 150) rfl rfl) (by decide) ?_
  refine lv_iadd hx hb (dkP dF_96 DL_law (i := 151) rfl rfl) ?_
  refine z_top (y := nI (6 * q + 1)) (by simp only [fa_lit, nI_add]) ?_
  refine va_sld hx hb hX hbl hbA hw.2.2.1 (i := nI (6 * q + 1)) (vp_in_nI (by omega) (by omega)) (dkP dF_46 DL_law (i := 152) rfl rfl) ?_
  refine lv_aload_n hx hb (dkP dF_42 DL_law (i := 153) rfl rfl) rfl (lv_at hl 3 rfl) ?_
  refine lv_iload_n hx hb (dkP dF_29 DL_law (i := 154) rfl rfl) rfl (lv_at hl 0 rfl) ?_
  refine lv_iconst (v := 2) hx hb (dkP dF_5 DL_law (i := 155) rfl rfl) (by decide) ?_
  refine lv_iadd hx hb (dkP dF_96 DL_law (i := 156) rfl rfl) ?_
  refine z_top (y := nI (6 * q + 2)) (by simp only [fa_lit, nI_add]) ?_
  refine va_sld hx hb hX hbl hbA hw.2.2.1 (i := nI (6 * q + 2)) (vp_in_nI (by omega) (by omega)) (dkP dF_46 DL_law (i := 157) rfl rfl) ?_
  refine lv_aload_n hx hb (dkP dF_42 DL_law (i := 158) rfl rfl) rfl (lv_at hl 3 rfl) ?_
  refine lv_iload_n hx hb (dkP dF_29 DL_law (i := 159) rfl rfl) rfl (lv_at hl 0 rfl) ?_
  refine lv_iconst (v := 3) hx hb (dkP dF_6 DL_law (i := 160) rfl rfl) (by decide) ?_
  refine lv_iadd hx hb (dkP dF_96 DL_law (i := 161) rfl rfl) ?_
  refine z_top (y := nI (6 * q + 3)) (by simp only [fa_lit, nI_add]) ?_
  refine va_sld hx hb hX hbl hbA hw.2.2.1 (i := nI (6 * q + 3)) (vp_in_nI (by omega) (by omega)) (dkP dF_46 DL_law (i := 162) rfl rfl) ?_
  refine lv_aload_n hx hb (dkP dF_42 DL_law (i := 163) rfl rfl) rfl (lv_at hl 3 rfl) ?_
  refine lv_iload_n hx hb (dkP dF_29 DL_law (i := 164) rfl rfl) rfl (lv_at hl 0 rfl) ?_
  refine lv_iconst (v := 4) hx hb (dkP dF_7 DL_law (i := 165) rfl rfl) (by decide) ?_
  refine lv_iadd hx hb (dkP dF_96 DL_law (i := 166) rfl rfl) ?_
  refine z_top (y := nI (6 * q + 4)) (by simp only [fa_lit, nI_add]) ?_
  refine va_sld hx hb hX hbl hbA hw.2.2.1 (i := nI (6 * q + 4)) (vp_in_nI (by omega) (by omega)) (dkP dF_46 DL_law (i := 167) rfl rfl) ?_
  refine q_x (As := [.int (xs (nI (6 * q + 1)).toNatClampNeg), .int (xs (nI (6 * q + 2)).toNatClampNeg), .int (xs (nI (6 * q + 3)).toNatClampNeg), .int (xs (nI (6 * q + 4)).toNatClampNeg)]) (rest := []) C0 hRo hw (c_X11_span l G kc ad1 σ1 (xs (nI (6 * q + 1)).toNatClampNeg) (xs (nI (6 * q + 2)).toNatClampNeg) (xs (nI (6 * q + 3)).toNatClampNeg) (xs (nI (6 * q + 4)).toNatClampNeg) hJ1 hT1) rfl cv_X11_span lk_L_35 rfl hl.1 rfl ⟨by decide, by decide⟩ (Nat.le_of_ble_eq_true rfl) (dk2 dF_182 DL_law (i := 168) rfl rfl rfl) ⟨by decide, by decide⟩ (fun r1 s1 H locs hp1 hw => ?_)
  obtain ⟨g1_0, hT1_, hF1⟩ := hp1
  have hJ1 := g1_0
  have hT1 := hT1_
  have hA : KA2 σ1 s1 := fun x k hx9 => hF1.1 x k (fun h9 => by rcases hx9 with rfl | rfl | rfl | rfl | rfl | hx9 <;> first | (simp at h9; done) | omega)
  refine lv_pop hx hb (dkP dF_87 DL_law (i := 169) rfl rfl) rfl ?_
  refine lv_aload_n hx hb (dkP dF_44 DL_law (i := 170) rfl rfl) rfl (lv_at hl 1 rfl) ?_
  refine lv_aload_n hx hb (dkP dF_42 DL_law (i := 171) rfl rfl) rfl (lv_at hl 3 rfl) ?_
  refine lv_iload_n hx hb (dkP dF_29 DL_law (i := 172) rfl rfl) rfl (lv_at hl 0 rfl) ?_
  refine lv_iconst (v := 1) hx hb (dkP dF_4 DL_law (i := 173) rfl rfl) (by decide) ?_
  refine lv_iadd hx hb (dkP dF_96 DL_law (i := 174) rfl rfl) ?_
  refine z_top (y := nI (6 * q + 1)) (by simp only [fa_lit, nI_add]) ?_
  refine va_sld hx hb hX hbl hbA hw.2.2.1 (i := nI (6 * q + 1)) (vp_in_nI (by omega) (by omega)) (dkP dF_46 DL_law (i := 175) rfl rfl) ?_
  refine lv_aload_n hx hb (dkP dF_42 DL_law (i := 176) rfl rfl) rfl (lv_at hl 3 rfl) ?_
  refine lv_iload_n hx hb (dkP dF_29 DL_law (i := 177) rfl rfl) rfl (lv_at hl 0 rfl) ?_
  refine lv_iconst (v := 2) hx hb (dkP dF_5 DL_law (i := 178) rfl rfl) (by decide) ?_
  refine lv_iadd hx hb (dkP dF_96 DL_law (i := 179) rfl rfl) ?_
  refine z_top (y := nI (6 * q + 2)) (by simp only [fa_lit, nI_add]) ?_
  refine va_sld hx hb hX hbl hbA hw.2.2.1 (i := nI (6 * q + 2)) (vp_in_nI (by omega) (by omega)) (dkP dF_46 DL_law (i := 180) rfl rfl) ?_
  refine lv_aload_n hx hb (dkP dF_42 DL_law (i := 181) rfl rfl) rfl (lv_at hl 3 rfl) ?_
  refine lv_iload_n hx hb (dkP dF_29 DL_law (i := 182) rfl rfl) rfl (lv_at hl 0 rfl) ?_
  refine lv_iconst (v := 3) hx hb (dkP dF_6 DL_law (i := 183) rfl rfl) (by decide) ?_
  refine lv_iadd hx hb (dkP dF_96 DL_law (i := 184) rfl rfl) ?_
  refine z_top (y := nI (6 * q + 3)) (by simp only [fa_lit, nI_add]) ?_
  refine va_sld hx hb hX hbl hbA hw.2.2.1 (i := nI (6 * q + 3)) (vp_in_nI (by omega) (by omega)) (dkP dF_46 DL_law (i := 185) rfl rfl) ?_
  refine lv_aload_n hx hb (dkP dF_42 DL_law (i := 186) rfl rfl) rfl (lv_at hl 3 rfl) ?_
  refine lv_iload_n hx hb (dkP dF_29 DL_law (i := 187) rfl rfl) rfl (lv_at hl 0 rfl) ?_
  refine lv_iconst (v := 4) hx hb (dkP dF_7 DL_law (i := 188) rfl rfl) (by decide) ?_
  refine lv_iadd hx hb (dkP dF_96 DL_law (i := 189) rfl rfl) ?_
  refine z_top (y := nI (6 * q + 4)) (by simp only [fa_lit, nI_add]) ?_
  refine va_sld hx hb hX hbl hbA hw.2.2.1 (i := nI (6 * q + 4)) (vp_in_nI (by omega) (by omega)) (dkP dF_46 DL_law (i := 190) rfl rfl) ?_
  refine q_m (As := [.int (xs (nI (6 * q + 1)).toNatClampNeg), .int (xs (nI (6 * q + 2)).toNatClampNeg), .int (xs (nI (6 * q + 3)).toNatClampNeg), .int (xs (nI (6 * q + 4)).toNatClampNeg)]) (rest := []) C0 hRo hw (c_X12_span l G kc ad2 σ2 (xs (nI (6 * q + 1)).toNatClampNeg) (xs (nI (6 * q + 2)).toNatClampNeg) (xs (nI (6 * q + 3)).toNatClampNeg) (xs (nI (6 * q + 4)).toNatClampNeg)  hT2) rfl cv_X12_span lk_L_39 rfl hl.1 rfl ⟨by decide, by decide⟩ (Nat.le_of_ble_eq_true rfl) (dk2 dF_182 DL_law (i := 191) rfl rfl rfl) ⟨by decide, by decide⟩ (fun r2 s2 H locs hp2 hw => ?_)
  obtain ⟨hT2_, hF2⟩ := hp2
  have hJ2 := hJ2.f hF2 (by decide) (by decide)
  have hT2 := hT2_
  have hB : KB2 σ2 s2 := ⟨fun k => congrFun (hF2.1 2 (by decide) (by decide)) k, fun k => congrFun (hF2.1 3 (by decide) (by decide)) k, fun k hk => hF2.2.2.2 rfl k hk⟩
  have hN : RLb s1 s2 := hR.f hA hB
  refine lv_pop hx hb (dkP dF_87 DL_law (i := 192) rfl rfl) rfl ?_
  refine lv_goto (tgt := 1616) hx hb (dkS dF_167 DL_law (i := 193) rfl rfl rfl) (by decide) ?_
  exact kk _ _ _ _ hT1 hJ1 hT2 hJ2 hN hw
set_option maxRecDepth 100000 in
set_option maxHeartbeats 4000000 in
theorem law_6 (l : Launch) (G : va_G) (kc : KC) {p : Program} {e : Env} {s : State} {m : MethodId} {below : List Frame} {meth : Method} {c : Code} {b L : Nat} {xs : Nat → Int32} (C0 : Cx G kc p s m c #[Value.ref b] cL_law 4 RL) (hRo : RO0 kc (fun q : Nat => s.heap.size ≤ q) s s.heap) (hX : va_X b L xs s s.heap) (hbl : b < s.heap.size) (hL : L ≤ 3072) {ad1 ad2 : Nat → Nat} {q : Nat} (hq : 6 * q + 6 ≤ L) {σ1 σ2 : Sg} (hT1 : TC σ1) (hJ1 : JC σ1) (hT2 : TM σ2) (hJ2 : JM σ2) (hR : RLb σ1 σ2) {H : Heap} {locs : List Loc} {ls : Array Slot} (hw : TW G kc (fun q : Nat => s.heap.size ≤ q) s.heap ad1 σ1 ad2 σ2 H locs) (hl : lv_has ls 4 [(3, .int (nI (6 * q))), (2, .ref (ad2 0)), (1, .ref (ad1 0)), (0, .ref b)]) (kk : ∀ (σ1 σ2 : Sg) (H : Heap) (locs : List Loc), TC σ1 → JC σ1 → TM σ2 → JM σ2 → RLb σ1 σ2 → TW G kc (fun q : Nat => s.heap.size ≤ q) s.heap ad1 σ1 ad2 σ2 H locs → W p l e room_1 s m #[Value.ref b] below meth c H locs 836 1863908 (lw_Z below #[Value.ref b] s) (F0 m 1616 ls [])) : W p l e room_1 s m #[Value.ref b] below meth c H locs 836 1863908 (lw_Z below #[Value.ref b] s) (F0 m 432 ls []) := by
  have hx := C0.1
  have hb := C0.2.1
  have hown := C0.2.2.2.1
  have hts := C0.2.2.2.2.1
  have hbA : ¬ (fun q : Nat => s.heap.size ≤ q) b := Nat.not_le.mpr hbl
  refine lv_aload_n hx hb (dkP dF_43 DL_law (i := 194) rfl rfl) rfl (lv_at hl 2 rfl) ?_
  refine lv_aload_n hx hb (dkP dF_42 DL_law (i := 195) rfl rfl) rfl (lv_at hl 3 rfl) ?_
  refine lv_iload_n hx hb (dkP dF_29 DL_law (i := 196) rfl rfl) rfl (lv_at hl 0 rfl) ?_
  refine lv_iconst (v := 1) hx hb (dkP dF_4 DL_law (i := 197) rfl rfl) (by decide) ?_
  refine lv_iadd hx hb (dkP dF_96 DL_law (i := 198) rfl rfl) ?_
  refine z_top (y := nI (6 * q + 1)) (by simp only [fa_lit, nI_add]) ?_
  refine va_sld hx hb hX hbl hbA hw.2.2.1 (i := nI (6 * q + 1)) (vp_in_nI (by omega) (by omega)) (dkP dF_46 DL_law (i := 199) rfl rfl) ?_
  refine lv_aload_n hx hb (dkP dF_42 DL_law (i := 200) rfl rfl) rfl (lv_at hl 3 rfl) ?_
  refine lv_iload_n hx hb (dkP dF_29 DL_law (i := 201) rfl rfl) rfl (lv_at hl 0 rfl) ?_
  refine lv_iconst (v := 2) hx hb (dkP dF_5 DL_law (i := 202) rfl rfl) (by decide) ?_
  refine lv_iadd hx hb (dkP dF_96 DL_law (i := 203) rfl rfl) ?_
  refine z_top (y := nI (6 * q + 2)) (by simp only [fa_lit, nI_add]) ?_
  refine va_sld hx hb hX hbl hbA hw.2.2.1 (i := nI (6 * q + 2)) (vp_in_nI (by omega) (by omega)) (dkP dF_46 DL_law (i := 204) rfl rfl) ?_
  refine q_x (As := [.int (xs (nI (6 * q + 1)).toNatClampNeg), .int (xs (nI (6 * q + 2)).toNatClampNeg)]) (rest := []) C0 hRo hw (c_X11_run l G kc ad1 σ1 (xs (nI (6 * q + 1)).toNatClampNeg) (xs (nI (6 * q + 2)).toNatClampNeg) hJ1 hT1) rfl cv_X11_run lk_L_40 rfl hl.1 rfl ⟨by decide, by decide⟩ (Nat.le_of_ble_eq_true rfl) (dk2 dF_182 DL_law (i := 205) rfl rfl rfl) ⟨by decide, by decide⟩ (fun r1 s1 H locs hp1 hw => ?_)
  obtain ⟨g1_0, hT1_, hF1⟩ := hp1
  have hJ1 := g1_0
  have hT1 := hT1_
  have hA : KA2 σ1 s1 := fun x k hx9 => hF1.1 x k (fun h9 => by rcases hx9 with rfl | rfl | rfl | rfl | rfl | hx9 <;> first | (simp at h9; done) | omega)
  refine lv_pop hx hb (dkP dF_87 DL_law (i := 206) rfl rfl) rfl ?_
  refine lv_aload_n hx hb (dkP dF_44 DL_law (i := 207) rfl rfl) rfl (lv_at hl 1 rfl) ?_
  refine lv_aload_n hx hb (dkP dF_42 DL_law (i := 208) rfl rfl) rfl (lv_at hl 3 rfl) ?_
  refine lv_iload_n hx hb (dkP dF_29 DL_law (i := 209) rfl rfl) rfl (lv_at hl 0 rfl) ?_
  refine lv_iconst (v := 1) hx hb (dkP dF_4 DL_law (i := 210) rfl rfl) (by decide) ?_
  refine lv_iadd hx hb (dkP dF_96 DL_law (i := 211) rfl rfl) ?_
  refine z_top (y := nI (6 * q + 1)) (by simp only [fa_lit, nI_add]) ?_
  refine va_sld hx hb hX hbl hbA hw.2.2.1 (i := nI (6 * q + 1)) (vp_in_nI (by omega) (by omega)) (dkP dF_46 DL_law (i := 212) rfl rfl) ?_
  refine lv_aload_n hx hb (dkP dF_42 DL_law (i := 213) rfl rfl) rfl (lv_at hl 3 rfl) ?_
  refine lv_iload_n hx hb (dkP dF_29 DL_law (i := 214) rfl rfl) rfl (lv_at hl 0 rfl) ?_
  refine lv_iconst (v := 2) hx hb (dkP dF_5 DL_law (i := 215) rfl rfl) (by decide) ?_
  refine lv_iadd hx hb (dkP dF_96 DL_law (i := 216) rfl rfl) ?_
  refine z_top (y := nI (6 * q + 2)) (by simp only [fa_lit, nI_add]) ?_
  refine va_sld hx hb hX hbl hbA hw.2.2.1 (i := nI (6 * q + 2)) (vp_in_nI (by omega) (by omega)) (dkP dF_46 DL_law (i := 217) rfl rfl) ?_
  refine q_m (As := [.int (xs (nI (6 * q + 1)).toNatClampNeg), .int (xs (nI (6 * q + 2)).toNatClampNeg)]) (rest := []) C0 hRo hw (c_X12_run l G kc ad2 σ2 (xs (nI (6 * q + 1)).toNatClampNeg) (xs (nI (6 * q + 2)).toNatClampNeg)  hT2) rfl cv_X12_run lk_L_44 rfl hl.1 rfl ⟨by decide, by decide⟩ (Nat.le_of_ble_eq_true rfl) (dk2 dF_182 DL_law (i := 218) rfl rfl rfl) ⟨by decide, by decide⟩ (fun r2 s2 H locs hp2 hw => ?_)
  obtain ⟨hT2_, hF2⟩ := hp2
  have hJ2 := hJ2.f hF2 (by decide) (by decide)
  have hT2 := hT2_
  have hB : KB2 σ2 s2 := ⟨fun k => congrFun (hF2.1 2 (by decide) (by decide)) k, fun k => congrFun (hF2.1 3 (by decide) (by decide)) k, fun k hk => hF2.2.2.2 rfl k hk⟩
  have hN : RLb s1 s2 := hR.f hA hB
  refine lv_pop hx hb (dkP dF_87 DL_law (i := 219) rfl rfl) rfl ?_
  refine lv_goto (tgt := 1616) hx hb (dkS dF_167 DL_law (i := 220) rfl rfl rfl) (by decide) ?_
  exact kk _ _ _ _ hT1 hJ1 hT2 hJ2 hN hw
set_option maxRecDepth 100000 in
set_option maxHeartbeats 4000000 in
theorem law_7 (l : Launch) (G : va_G) (kc : KC) {p : Program} {e : Env} {s : State} {m : MethodId} {below : List Frame} {meth : Method} {c : Code} {b L : Nat} {xs : Nat → Int32} (C0 : Cx G kc p s m c #[Value.ref b] cL_law 4 RL) (hRo : RO0 kc (fun q : Nat => s.heap.size ≤ q) s s.heap) (hX : va_X b L xs s s.heap) (hbl : b < s.heap.size) (hL : L ≤ 3072) {ad1 ad2 : Nat → Nat} {q : Nat} (hq : 6 * q + 6 ≤ L) {σ1 σ2 : Sg} (hT1 : TC σ1) (hJ1 : JC σ1) (hT2 : TM σ2) (hJ2 : JM σ2) (hR : RLb σ1 σ2) {H : Heap} {locs : List Loc} {ls : Array Slot} (hw : TW G kc (fun q : Nat => s.heap.size ≤ q) s.heap ad1 σ1 ad2 σ2 H locs) (hl : lv_has ls 4 [(3, .int (nI (6 * q))), (2, .ref (ad2 0)), (1, .ref (ad1 0)), (0, .ref b)]) (kk : ∀ (σ1 σ2 : Sg) (H : Heap) (locs : List Loc), TC σ1 → JC σ1 → TM σ2 → JM σ2 → RLb σ1 σ2 → TW G kc (fun q : Nat => s.heap.size ≤ q) s.heap ad1 σ1 ad2 σ2 H locs → W p l e room_1 s m #[Value.ref b] below meth c H locs 836 1863908 (lw_Z below #[Value.ref b] s) (F0 m 1616 ls [])) : W p l e room_1 s m #[Value.ref b] below meth c H locs 836 1863908 (lw_Z below #[Value.ref b] s) (F0 m 465 ls []) := by
  have hx := C0.1
  have hb := C0.2.1
  have hown := C0.2.2.2.1
  have hts := C0.2.2.2.2.1
  have hbA : ¬ (fun q : Nat => s.heap.size ≤ q) b := Nat.not_le.mpr hbl
  refine lv_aload_n hx hb (dkP dF_43 DL_law (i := 221) rfl rfl) rfl (lv_at hl 2 rfl) ?_
  refine lv_aload_n hx hb (dkP dF_42 DL_law (i := 222) rfl rfl) rfl (lv_at hl 3 rfl) ?_
  refine lv_iload_n hx hb (dkP dF_29 DL_law (i := 223) rfl rfl) rfl (lv_at hl 0 rfl) ?_
  refine lv_iconst (v := 1) hx hb (dkP dF_4 DL_law (i := 224) rfl rfl) (by decide) ?_
  refine lv_iadd hx hb (dkP dF_96 DL_law (i := 225) rfl rfl) ?_
  refine z_top (y := nI (6 * q + 1)) (by simp only [fa_lit, nI_add]) ?_
  refine va_sld hx hb hX hbl hbA hw.2.2.1 (i := nI (6 * q + 1)) (vp_in_nI (by omega) (by omega)) (dkP dF_46 DL_law (i := 226) rfl rfl) ?_
  refine lv_aload_n hx hb (dkP dF_42 DL_law (i := 227) rfl rfl) rfl (lv_at hl 3 rfl) ?_
  refine lv_iload_n hx hb (dkP dF_29 DL_law (i := 228) rfl rfl) rfl (lv_at hl 0 rfl) ?_
  refine lv_iconst (v := 2) hx hb (dkP dF_5 DL_law (i := 229) rfl rfl) (by decide) ?_
  refine lv_iadd hx hb (dkP dF_96 DL_law (i := 230) rfl rfl) ?_
  refine z_top (y := nI (6 * q + 2)) (by simp only [fa_lit, nI_add]) ?_
  refine va_sld hx hb hX hbl hbA hw.2.2.1 (i := nI (6 * q + 2)) (vp_in_nI (by omega) (by omega)) (dkP dF_46 DL_law (i := 231) rfl rfl) ?_
  refine q_x (As := [.int (xs (nI (6 * q + 1)).toNatClampNeg), .int (xs (nI (6 * q + 2)).toNatClampNeg)]) (rest := []) C0 hRo hw (c_X11_runNew l G kc ad1 σ1 (xs (nI (6 * q + 1)).toNatClampNeg) (xs (nI (6 * q + 2)).toNatClampNeg) hJ1 hT1) rfl cv_X11_runNew lk_L_45 rfl hl.1 rfl ⟨by decide, by decide⟩ (Nat.le_of_ble_eq_true rfl) (dk2 dF_182 DL_law (i := 232) rfl rfl rfl) ⟨by decide, by decide⟩ (fun r1 s1 H locs hp1 hw => ?_)
  obtain ⟨g1_0, hT1_, hF1⟩ := hp1
  have hJ1 := g1_0
  have hT1 := hT1_
  have hA : KA2 σ1 s1 := fun x k hx9 => hF1.1 x k (fun h9 => by rcases hx9 with rfl | rfl | rfl | rfl | rfl | hx9 <;> first | (simp at h9; done) | omega)
  refine lv_pop hx hb (dkP dF_87 DL_law (i := 233) rfl rfl) rfl ?_
  refine lv_aload_n hx hb (dkP dF_44 DL_law (i := 234) rfl rfl) rfl (lv_at hl 1 rfl) ?_
  refine lv_aload_n hx hb (dkP dF_42 DL_law (i := 235) rfl rfl) rfl (lv_at hl 3 rfl) ?_
  refine lv_iload_n hx hb (dkP dF_29 DL_law (i := 236) rfl rfl) rfl (lv_at hl 0 rfl) ?_
  refine lv_iconst (v := 1) hx hb (dkP dF_4 DL_law (i := 237) rfl rfl) (by decide) ?_
  refine lv_iadd hx hb (dkP dF_96 DL_law (i := 238) rfl rfl) ?_
  refine z_top (y := nI (6 * q + 1)) (by simp only [fa_lit, nI_add]) ?_
  refine va_sld hx hb hX hbl hbA hw.2.2.1 (i := nI (6 * q + 1)) (vp_in_nI (by omega) (by omega)) (dkP dF_46 DL_law (i := 239) rfl rfl) ?_
  refine lv_aload_n hx hb (dkP dF_42 DL_law (i := 240) rfl rfl) rfl (lv_at hl 3 rfl) ?_
  refine lv_iload_n hx hb (dkP dF_29 DL_law (i := 241) rfl rfl) rfl (lv_at hl 0 rfl) ?_
  refine lv_iconst (v := 2) hx hb (dkP dF_5 DL_law (i := 242) rfl rfl) (by decide) ?_
  refine lv_iadd hx hb (dkP dF_96 DL_law (i := 243) rfl rfl) ?_
  refine z_top (y := nI (6 * q + 2)) (by simp only [fa_lit, nI_add]) ?_
  refine va_sld hx hb hX hbl hbA hw.2.2.1 (i := nI (6 * q + 2)) (vp_in_nI (by omega) (by omega)) (dkP dF_46 DL_law (i := 244) rfl rfl) ?_
  refine q_m (As := [.int (xs (nI (6 * q + 1)).toNatClampNeg), .int (xs (nI (6 * q + 2)).toNatClampNeg)]) (rest := []) C0 hRo hw (c_X12_runNew l G kc ad2 σ2 (xs (nI (6 * q + 1)).toNatClampNeg) (xs (nI (6 * q + 2)).toNatClampNeg)  hT2) rfl cv_X12_runNew lk_L_48 rfl hl.1 rfl ⟨by decide, by decide⟩ (Nat.le_of_ble_eq_true rfl) (dk2 dF_182 DL_law (i := 245) rfl rfl rfl) ⟨by decide, by decide⟩ (fun r2 s2 H locs hp2 hw => ?_)
  obtain ⟨hT2_, hF2⟩ := hp2
  have hJ2 := hJ2.f hF2 (by decide) (by decide)
  have hT2 := hT2_
  have hB : KB2 σ2 s2 := ⟨fun k => congrFun (hF2.1 2 (by decide) (by decide)) k, fun k => congrFun (hF2.1 3 (by decide) (by decide)) k, fun k hk => hF2.2.2.2 rfl k hk⟩
  have hN : RLb s1 s2 := hR.f hA hB
  refine lv_pop hx hb (dkP dF_87 DL_law (i := 246) rfl rfl) rfl ?_
  refine lv_goto (tgt := 1616) hx hb (dkS dF_167 DL_law (i := 247) rfl rfl rfl) (by decide) ?_
  exact kk _ _ _ _ hT1 hJ1 hT2 hJ2 hN hw
set_option maxRecDepth 100000 in
set_option maxHeartbeats 4000000 in
theorem law_8 (l : Launch) (G : va_G) (kc : KC) {p : Program} {e : Env} {s : State} {m : MethodId} {below : List Frame} {meth : Method} {c : Code} {b L : Nat} {xs : Nat → Int32} (C0 : Cx G kc p s m c #[Value.ref b] cL_law 4 RL) (hRo : RO0 kc (fun q : Nat => s.heap.size ≤ q) s s.heap) (hX : va_X b L xs s s.heap) (hbl : b < s.heap.size) (hL : L ≤ 3072) {ad1 ad2 : Nat → Nat} {q : Nat} (hq : 6 * q + 6 ≤ L) {σ1 σ2 : Sg} (hT1 : TC σ1) (hJ1 : JC σ1) (hT2 : TM σ2) (hJ2 : JM σ2) (hR : RLb σ1 σ2) {H : Heap} {locs : List Loc} {ls : Array Slot} (hw : TW G kc (fun q : Nat => s.heap.size ≤ q) s.heap ad1 σ1 ad2 σ2 H locs) (hl : lv_has ls 4 [(3, .int (nI (6 * q))), (2, .ref (ad2 0)), (1, .ref (ad1 0)), (0, .ref b)]) (kk : ∀ (σ1 σ2 : Sg) (H : Heap) (locs : List Loc), TC σ1 → JC σ1 → TM σ2 → JM σ2 → RLb σ1 σ2 → TW G kc (fun q : Nat => s.heap.size ≤ q) s.heap ad1 σ1 ad2 σ2 H locs → W p l e room_1 s m #[Value.ref b] below meth c H locs 836 1863908 (lw_Z below #[Value.ref b] s) (F0 m 1616 ls [])) : W p l e room_1 s m #[Value.ref b] below meth c H locs 836 1863908 (lw_Z below #[Value.ref b] s) (F0 m 498 ls []) := by
  have hx := C0.1
  have hb := C0.2.1
  have hown := C0.2.2.2.1
  have hts := C0.2.2.2.2.1
  have hbA : ¬ (fun q : Nat => s.heap.size ≤ q) b := Nat.not_le.mpr hbl
  refine lv_aload_n hx hb (dkP dF_43 DL_law (i := 248) rfl rfl) rfl (lv_at hl 2 rfl) ?_
  refine lv_aload_n hx hb (dkP dF_42 DL_law (i := 249) rfl rfl) rfl (lv_at hl 3 rfl) ?_
  refine lv_iload_n hx hb (dkP dF_29 DL_law (i := 250) rfl rfl) rfl (lv_at hl 0 rfl) ?_
  refine lv_iconst (v := 1) hx hb (dkP dF_4 DL_law (i := 251) rfl rfl) (by decide) ?_
  refine lv_iadd hx hb (dkP dF_96 DL_law (i := 252) rfl rfl) ?_
  refine z_top (y := nI (6 * q + 1)) (by simp only [fa_lit, nI_add]) ?_
  refine va_sld hx hb hX hbl hbA hw.2.2.1 (i := nI (6 * q + 1)) (vp_in_nI (by omega) (by omega)) (dkP dF_46 DL_law (i := 253) rfl rfl) ?_
  refine q_x (As := [.int (xs (nI (6 * q + 1)).toNatClampNeg)]) (rest := []) C0 hRo hw (c_X11_field l G kc ad1 σ1 (xs (nI (6 * q + 1)).toNatClampNeg) hJ1 hT1) rfl cv_X11_field lk_L_49 rfl hl.1 rfl ⟨by decide, by decide⟩ (Nat.le_of_ble_eq_true rfl) (dk2 dF_182 DL_law (i := 254) rfl rfl rfl) ⟨by decide, by decide⟩ (fun r1 s1 H locs hp1 hw => ?_)
  obtain ⟨g1_0, es1⟩ := hp1
  rw [es1] at hw
  have hA : KA2 σ1 s1 := fun x k _ => by rw [es1]
  refine lv_pop hx hb (dkP dF_87 DL_law (i := 255) rfl rfl) rfl ?_
  refine lv_aload_n hx hb (dkP dF_44 DL_law (i := 256) rfl rfl) rfl (lv_at hl 1 rfl) ?_
  refine lv_aload_n hx hb (dkP dF_42 DL_law (i := 257) rfl rfl) rfl (lv_at hl 3 rfl) ?_
  refine lv_iload_n hx hb (dkP dF_29 DL_law (i := 258) rfl rfl) rfl (lv_at hl 0 rfl) ?_
  refine lv_iconst (v := 1) hx hb (dkP dF_4 DL_law (i := 259) rfl rfl) (by decide) ?_
  refine lv_iadd hx hb (dkP dF_96 DL_law (i := 260) rfl rfl) ?_
  refine z_top (y := nI (6 * q + 1)) (by simp only [fa_lit, nI_add]) ?_
  refine va_sld hx hb hX hbl hbA hw.2.2.1 (i := nI (6 * q + 1)) (vp_in_nI (by omega) (by omega)) (dkP dF_46 DL_law (i := 261) rfl rfl) ?_
  refine q_m (As := [.int (xs (nI (6 * q + 1)).toNatClampNeg)]) (rest := []) C0 hRo hw (c_X12_field l G kc ad2 σ2 (xs (nI (6 * q + 1)).toNatClampNeg)  hT2) rfl cv_X12_field lk_L_52 rfl hl.1 rfl ⟨by decide, by decide⟩ (Nat.le_of_ble_eq_true rfl) (dk2 dF_182 DL_law (i := 262) rfl rfl rfl) ⟨by decide, by decide⟩ (fun r2 s2 H locs hp2 hw => ?_)
  have es2 := hp2
  rw [es2] at hw
  have hB : KB2 σ2 s2 := ⟨fun k => by rw [es2], fun k => by rw [es2], fun k _ => by rw [es2]⟩
  have hN : RLb s1 s2 := hR.f hA hB
  rw [es1] at hN
  rw [es2] at hN
  refine lv_pop hx hb (dkP dF_87 DL_law (i := 263) rfl rfl) rfl ?_
  refine lv_goto (tgt := 1616) hx hb (dkS dF_167 DL_law (i := 264) rfl rfl rfl) (by decide) ?_
  exact kk _ _ _ _ hT1 hJ1 hT2 hJ2 hN hw
set_option maxRecDepth 100000 in
set_option maxHeartbeats 4000000 in
theorem law_9 (l : Launch) (G : va_G) (kc : KC) {p : Program} {e : Env} {s : State} {m : MethodId} {below : List Frame} {meth : Method} {c : Code} {b L : Nat} {xs : Nat → Int32} (C0 : Cx G kc p s m c #[Value.ref b] cL_law 4 RL) (hRo : RO0 kc (fun q : Nat => s.heap.size ≤ q) s s.heap) (hX : va_X b L xs s s.heap) (hbl : b < s.heap.size) (hL : L ≤ 3072) {ad1 ad2 : Nat → Nat} {q : Nat} (hq : 6 * q + 6 ≤ L) {σ1 σ2 : Sg} (hT1 : TC σ1) (hJ1 : JC σ1) (hT2 : TM σ2) (hJ2 : JM σ2) (hR : RLb σ1 σ2) {H : Heap} {locs : List Loc} {ls : Array Slot} (hw : TW G kc (fun q : Nat => s.heap.size ≤ q) s.heap ad1 σ1 ad2 σ2 H locs) (hl : lv_has ls 4 [(3, .int (nI (6 * q))), (2, .ref (ad2 0)), (1, .ref (ad1 0)), (0, .ref b)]) (kk : ∀ (σ1 σ2 : Sg) (H : Heap) (locs : List Loc), TC σ1 → JC σ1 → TM σ2 → JM σ2 → RLb σ1 σ2 → TW G kc (fun q : Nat => s.heap.size ≤ q) s.heap ad1 σ1 ad2 σ2 H locs → W p l e room_1 s m #[Value.ref b] below meth c H locs 836 1863908 (lw_Z below #[Value.ref b] s) (F0 m 1616 ls [])) : W p l e room_1 s m #[Value.ref b] below meth c H locs 836 1863908 (lw_Z below #[Value.ref b] s) (F0 m 521 ls []) := by
  have hx := C0.1
  have hb := C0.2.1
  have hown := C0.2.2.2.1
  have hts := C0.2.2.2.2.1
  have hbA : ¬ (fun q : Nat => s.heap.size ≤ q) b := Nat.not_le.mpr hbl
  refine lv_aload_n hx hb (dkP dF_43 DL_law (i := 265) rfl rfl) rfl (lv_at hl 2 rfl) ?_
  refine q_x (As := []) (rest := []) C0 hRo hw (c_X11_did l G kc ad1 σ1  hJ1 hT1) rfl cv_X11_did lk_L_53 rfl hl.1 rfl ⟨by decide, by decide⟩ (Nat.le_of_ble_eq_true rfl) (dk2 dF_182 DL_law (i := 266) rfl rfl rfl) ⟨by decide, by decide⟩ (fun r1 s1 H locs hp1 hw => ?_)
  obtain ⟨g1_0, es1⟩ := hp1
  rw [es1] at hw
  have hA : KA2 σ1 s1 := fun x k _ => by rw [es1]
  refine lv_pop hx hb (dkP dF_87 DL_law (i := 267) rfl rfl) rfl ?_
  refine lv_aload_n hx hb (dkP dF_44 DL_law (i := 268) rfl rfl) rfl (lv_at hl 1 rfl) ?_
  refine q_m (As := []) (rest := []) C0 hRo hw (c_X12_did l G kc ad2 σ2   hT2) rfl cv_X12_did lk_L_57 rfl hl.1 rfl ⟨by decide, by decide⟩ (Nat.le_of_ble_eq_true rfl) (dk2 dF_182 DL_law (i := 269) rfl rfl rfl) ⟨by decide, by decide⟩ (fun r2 s2 H locs hp2 hw => ?_)
  have es2 := hp2
  rw [es2] at hw
  have hB : KB2 σ2 s2 := ⟨fun k => by rw [es2], fun k => by rw [es2], fun k _ => by rw [es2]⟩
  have hN : RLb s1 s2 := hR.f hA hB
  rw [es1] at hN
  rw [es2] at hN
  refine lv_pop hx hb (dkP dF_87 DL_law (i := 270) rfl rfl) rfl ?_
  refine lv_goto (tgt := 1616) hx hb (dkS dF_167 DL_law (i := 271) rfl rfl rfl) (by decide) ?_
  exact kk _ _ _ _ hT1 hJ1 hT2 hJ2 hN hw
set_option maxRecDepth 100000 in
set_option maxHeartbeats 4000000 in
theorem law_10 (l : Launch) (G : va_G) (kc : KC) {p : Program} {e : Env} {s : State} {m : MethodId} {below : List Frame} {meth : Method} {c : Code} {b L : Nat} {xs : Nat → Int32} (C0 : Cx G kc p s m c #[Value.ref b] cL_law 4 RL) (hRo : RO0 kc (fun q : Nat => s.heap.size ≤ q) s s.heap) (hX : va_X b L xs s s.heap) (hbl : b < s.heap.size) (hL : L ≤ 3072) {ad1 ad2 : Nat → Nat} {q : Nat} (hq : 6 * q + 6 ≤ L) {σ1 σ2 : Sg} (hT1 : TC σ1) (hJ1 : JC σ1) (hT2 : TM σ2) (hJ2 : JM σ2) (hR : RLb σ1 σ2) {H : Heap} {locs : List Loc} {ls : Array Slot} (hw : TW G kc (fun q : Nat => s.heap.size ≤ q) s.heap ad1 σ1 ad2 σ2 H locs) (hl : lv_has ls 4 [(3, .int (nI (6 * q))), (2, .ref (ad2 0)), (1, .ref (ad1 0)), (0, .ref b)]) (kk : ∀ (σ1 σ2 : Sg) (H : Heap) (locs : List Loc), TC σ1 → JC σ1 → TM σ2 → JM σ2 → RLb σ1 σ2 → TW G kc (fun q : Nat => s.heap.size ≤ q) s.heap ad1 σ1 ad2 σ2 H locs → W p l e room_1 s m #[Value.ref b] below meth c H locs 836 1863908 (lw_Z below #[Value.ref b] s) (F0 m 1616 ls [])) : W p l e room_1 s m #[Value.ref b] below meth c H locs 836 1863908 (lw_Z below #[Value.ref b] s) (F0 m 534 ls []) := by
  have hx := C0.1
  have hb := C0.2.1
  have hown := C0.2.2.2.1
  have hts := C0.2.2.2.2.1
  have hbA : ¬ (fun q : Nat => s.heap.size ≤ q) b := Nat.not_le.mpr hbl
  refine lv_aload_n hx hb (dkP dF_43 DL_law (i := 272) rfl rfl) rfl (lv_at hl 2 rfl) ?_
  refine lv_aload_n hx hb (dkP dF_42 DL_law (i := 273) rfl rfl) rfl (lv_at hl 3 rfl) ?_
  refine lv_iload_n hx hb (dkP dF_29 DL_law (i := 274) rfl rfl) rfl (lv_at hl 0 rfl) ?_
  refine lv_iconst (v := 1) hx hb (dkP dF_4 DL_law (i := 275) rfl rfl) (by decide) ?_
  refine lv_iadd hx hb (dkP dF_96 DL_law (i := 276) rfl rfl) ?_
  refine z_top (y := nI (6 * q + 1)) (by simp only [fa_lit, nI_add]) ?_
  refine va_sld hx hb hX hbl hbA hw.2.2.1 (i := nI (6 * q + 1)) (vp_in_nI (by omega) (by omega)) (dkP dF_46 DL_law (i := 277) rfl rfl) ?_
  refine q_x (As := [.int (xs (nI (6 * q + 1)).toNatClampNeg)]) (rest := []) C0 hRo hw (c_X11_ways l G kc ad1 σ1 (xs (nI (6 * q + 1)).toNatClampNeg) hJ1 hT1) rfl cv_X11_ways lk_L_58 rfl hl.1 rfl ⟨by decide, by decide⟩ (Nat.le_of_ble_eq_true rfl) (dk2 dF_182 DL_law (i := 278) rfl rfl rfl) ⟨by decide, by decide⟩ (fun r1 s1 H locs hp1 hw => ?_)
  obtain ⟨g1_0, hT1_, hF1⟩ := hp1
  have hJ1 := g1_0
  have hT1 := hT1_
  have hA : KA2 σ1 s1 := fun x k hx9 => hF1.1 x k (fun h9 => by rcases hx9 with rfl | rfl | rfl | rfl | rfl | hx9 <;> first | (simp at h9; done) | omega)
  refine lv_pop hx hb (dkP dF_87 DL_law (i := 279) rfl rfl) rfl ?_
  refine lv_aload_n hx hb (dkP dF_44 DL_law (i := 280) rfl rfl) rfl (lv_at hl 1 rfl) ?_
  refine lv_aload_n hx hb (dkP dF_42 DL_law (i := 281) rfl rfl) rfl (lv_at hl 3 rfl) ?_
  refine lv_iload_n hx hb (dkP dF_29 DL_law (i := 282) rfl rfl) rfl (lv_at hl 0 rfl) ?_
  refine lv_iconst (v := 1) hx hb (dkP dF_4 DL_law (i := 283) rfl rfl) (by decide) ?_
  refine lv_iadd hx hb (dkP dF_96 DL_law (i := 284) rfl rfl) ?_
  refine z_top (y := nI (6 * q + 1)) (by simp only [fa_lit, nI_add]) ?_
  refine va_sld hx hb hX hbl hbA hw.2.2.1 (i := nI (6 * q + 1)) (vp_in_nI (by omega) (by omega)) (dkP dF_46 DL_law (i := 285) rfl rfl) ?_
  refine q_m (As := [.int (xs (nI (6 * q + 1)).toNatClampNeg)]) (rest := []) C0 hRo hw (c_X12_ways l G kc ad2 σ2 (xs (nI (6 * q + 1)).toNatClampNeg)  hT2) rfl cv_X12_ways lk_L_61 rfl hl.1 rfl ⟨by decide, by decide⟩ (Nat.le_of_ble_eq_true rfl) (dk2 dF_182 DL_law (i := 286) rfl rfl rfl) ⟨by decide, by decide⟩ (fun r2 s2 H locs hp2 hw => ?_)
  obtain ⟨hT2_, hF2⟩ := hp2
  have hJ2 := hJ2.f hF2 (by decide) (by decide)
  have hT2 := hT2_
  have hB : KB2 σ2 s2 := ⟨fun k => congrFun (hF2.1 2 (by decide) (by decide)) k, fun k => congrFun (hF2.1 3 (by decide) (by decide)) k, fun k hk => hF2.2.2.2 rfl k hk⟩
  have hN : RLb s1 s2 := hR.f hA hB
  refine lv_pop hx hb (dkP dF_87 DL_law (i := 287) rfl rfl) rfl ?_
  refine lv_goto (tgt := 1616) hx hb (dkS dF_167 DL_law (i := 288) rfl rfl rfl) (by decide) ?_
  exact kk _ _ _ _ hT1 hJ1 hT2 hJ2 hN hw
set_option maxRecDepth 100000 in
set_option maxHeartbeats 4000000 in
theorem law_11 (l : Launch) (G : va_G) (kc : KC) {p : Program} {e : Env} {s : State} {m : MethodId} {below : List Frame} {meth : Method} {c : Code} {b L : Nat} {xs : Nat → Int32} (C0 : Cx G kc p s m c #[Value.ref b] cL_law 4 RL) (hRo : RO0 kc (fun q : Nat => s.heap.size ≤ q) s s.heap) (hX : va_X b L xs s s.heap) (hbl : b < s.heap.size) (hL : L ≤ 3072) {ad1 ad2 : Nat → Nat} {q : Nat} (hq : 6 * q + 6 ≤ L) {σ1 σ2 : Sg} (hT1 : TC σ1) (hJ1 : JC σ1) (hT2 : TM σ2) (hJ2 : JM σ2) (hR : RLb σ1 σ2) {H : Heap} {locs : List Loc} {ls : Array Slot} (hw : TW G kc (fun q : Nat => s.heap.size ≤ q) s.heap ad1 σ1 ad2 σ2 H locs) (hl : lv_has ls 4 [(3, .int (nI (6 * q))), (2, .ref (ad2 0)), (1, .ref (ad1 0)), (0, .ref b)]) (kk : ∀ (σ1 σ2 : Sg) (H : Heap) (locs : List Loc), TC σ1 → JC σ1 → TM σ2 → JM σ2 → RLb σ1 σ2 → TW G kc (fun q : Nat => s.heap.size ≤ q) s.heap ad1 σ1 ad2 σ2 H locs → W p l e room_1 s m #[Value.ref b] below meth c H locs 836 1863908 (lw_Z below #[Value.ref b] s) (F0 m 1616 ls [])) : W p l e room_1 s m #[Value.ref b] below meth c H locs 836 1863908 (lw_Z below #[Value.ref b] s) (F0 m 557 ls []) := by
  have hx := C0.1
  have hb := C0.2.1
  have hown := C0.2.2.2.1
  have hts := C0.2.2.2.2.1
  have hbA : ¬ (fun q : Nat => s.heap.size ≤ q) b := Nat.not_le.mpr hbl
  refine lv_aload_n hx hb (dkP dF_43 DL_law (i := 289) rfl rfl) rfl (lv_at hl 2 rfl) ?_
  refine lv_aload_n hx hb (dkP dF_42 DL_law (i := 290) rfl rfl) rfl (lv_at hl 3 rfl) ?_
  refine lv_iload_n hx hb (dkP dF_29 DL_law (i := 291) rfl rfl) rfl (lv_at hl 0 rfl) ?_
  refine lv_iconst (v := 1) hx hb (dkP dF_4 DL_law (i := 292) rfl rfl) (by decide) ?_
  refine lv_iadd hx hb (dkP dF_96 DL_law (i := 293) rfl rfl) ?_
  refine z_top (y := nI (6 * q + 1)) (by simp only [fa_lit, nI_add]) ?_
  refine va_sld hx hb hX hbl hbA hw.2.2.1 (i := nI (6 * q + 1)) (vp_in_nI (by omega) (by omega)) (dkP dF_46 DL_law (i := 294) rfl rfl) ?_
  refine lv_aload_n hx hb (dkP dF_42 DL_law (i := 295) rfl rfl) rfl (lv_at hl 3 rfl) ?_
  refine lv_iload_n hx hb (dkP dF_29 DL_law (i := 296) rfl rfl) rfl (lv_at hl 0 rfl) ?_
  refine lv_iconst (v := 2) hx hb (dkP dF_5 DL_law (i := 297) rfl rfl) (by decide) ?_
  refine lv_iadd hx hb (dkP dF_96 DL_law (i := 298) rfl rfl) ?_
  refine z_top (y := nI (6 * q + 2)) (by simp only [fa_lit, nI_add]) ?_
  refine va_sld hx hb hX hbl hbA hw.2.2.1 (i := nI (6 * q + 2)) (vp_in_nI (by omega) (by omega)) (dkP dF_46 DL_law (i := 299) rfl rfl) ?_
  refine lv_aload_n hx hb (dkP dF_42 DL_law (i := 300) rfl rfl) rfl (lv_at hl 3 rfl) ?_
  refine lv_iload_n hx hb (dkP dF_29 DL_law (i := 301) rfl rfl) rfl (lv_at hl 0 rfl) ?_
  refine lv_iconst (v := 3) hx hb (dkP dF_6 DL_law (i := 302) rfl rfl) (by decide) ?_
  refine lv_iadd hx hb (dkP dF_96 DL_law (i := 303) rfl rfl) ?_
  refine z_top (y := nI (6 * q + 3)) (by simp only [fa_lit, nI_add]) ?_
  refine va_sld hx hb hX hbl hbA hw.2.2.1 (i := nI (6 * q + 3)) (vp_in_nI (by omega) (by omega)) (dkP dF_46 DL_law (i := 304) rfl rfl) ?_
  refine q_x (As := [.int (xs (nI (6 * q + 1)).toNatClampNeg), .int (xs (nI (6 * q + 2)).toNatClampNeg), .int (xs (nI (6 * q + 3)).toNatClampNeg)]) (rest := []) C0 hRo hw (c_X11_way l G kc ad1 σ1 (xs (nI (6 * q + 1)).toNatClampNeg) (xs (nI (6 * q + 2)).toNatClampNeg) (xs (nI (6 * q + 3)).toNatClampNeg) hJ1 hT1) rfl cv_X11_way lk_L_62 rfl hl.1 rfl ⟨by decide, by decide⟩ (Nat.le_of_ble_eq_true rfl) (dk2 dF_182 DL_law (i := 305) rfl rfl rfl) ⟨by decide, by decide⟩ (fun r1 s1 H locs hp1 hw => ?_)
  obtain ⟨g1_0, es1⟩ := hp1
  rw [es1] at hw
  have hA : KA2 σ1 s1 := fun x k _ => by rw [es1]
  refine lv_pop hx hb (dkP dF_87 DL_law (i := 306) rfl rfl) rfl ?_
  refine lv_aload_n hx hb (dkP dF_44 DL_law (i := 307) rfl rfl) rfl (lv_at hl 1 rfl) ?_
  refine lv_aload_n hx hb (dkP dF_42 DL_law (i := 308) rfl rfl) rfl (lv_at hl 3 rfl) ?_
  refine lv_iload_n hx hb (dkP dF_29 DL_law (i := 309) rfl rfl) rfl (lv_at hl 0 rfl) ?_
  refine lv_iconst (v := 1) hx hb (dkP dF_4 DL_law (i := 310) rfl rfl) (by decide) ?_
  refine lv_iadd hx hb (dkP dF_96 DL_law (i := 311) rfl rfl) ?_
  refine z_top (y := nI (6 * q + 1)) (by simp only [fa_lit, nI_add]) ?_
  refine va_sld hx hb hX hbl hbA hw.2.2.1 (i := nI (6 * q + 1)) (vp_in_nI (by omega) (by omega)) (dkP dF_46 DL_law (i := 312) rfl rfl) ?_
  refine lv_aload_n hx hb (dkP dF_42 DL_law (i := 313) rfl rfl) rfl (lv_at hl 3 rfl) ?_
  refine lv_iload_n hx hb (dkP dF_29 DL_law (i := 314) rfl rfl) rfl (lv_at hl 0 rfl) ?_
  refine lv_iconst (v := 2) hx hb (dkP dF_5 DL_law (i := 315) rfl rfl) (by decide) ?_
  refine lv_iadd hx hb (dkP dF_96 DL_law (i := 316) rfl rfl) ?_
  refine z_top (y := nI (6 * q + 2)) (by simp only [fa_lit, nI_add]) ?_
  refine va_sld hx hb hX hbl hbA hw.2.2.1 (i := nI (6 * q + 2)) (vp_in_nI (by omega) (by omega)) (dkP dF_46 DL_law (i := 317) rfl rfl) ?_
  refine lv_aload_n hx hb (dkP dF_42 DL_law (i := 318) rfl rfl) rfl (lv_at hl 3 rfl) ?_
  refine lv_iload_n hx hb (dkP dF_29 DL_law (i := 319) rfl rfl) rfl (lv_at hl 0 rfl) ?_
  refine lv_iconst (v := 3) hx hb (dkP dF_6 DL_law (i := 320) rfl rfl) (by decide) ?_
  refine lv_iadd hx hb (dkP dF_96 DL_law (i := 321) rfl rfl) ?_
  refine z_top (y := nI (6 * q + 3)) (by simp only [fa_lit, nI_add]) ?_
  refine va_sld hx hb hX hbl hbA hw.2.2.1 (i := nI (6 * q + 3)) (vp_in_nI (by omega) (by omega)) (dkP dF_46 DL_law (i := 322) rfl rfl) ?_
  refine q_m (As := [.int (xs (nI (6 * q + 1)).toNatClampNeg), .int (xs (nI (6 * q + 2)).toNatClampNeg), .int (xs (nI (6 * q + 3)).toNatClampNeg)]) (rest := []) C0 hRo hw (c_X12_way l G kc ad2 σ2 (xs (nI (6 * q + 1)).toNatClampNeg) (xs (nI (6 * q + 2)).toNatClampNeg) (xs (nI (6 * q + 3)).toNatClampNeg)  hT2) rfl cv_X12_way lk_L_66 rfl hl.1 rfl ⟨by decide, by decide⟩ (Nat.le_of_ble_eq_true rfl) (dk2 dF_182 DL_law (i := 323) rfl rfl rfl) ⟨by decide, by decide⟩ (fun r2 s2 H locs hp2 hw => ?_)
  have es2 := hp2
  rw [es2] at hw
  have hB : KB2 σ2 s2 := ⟨fun k => by rw [es2], fun k => by rw [es2], fun k _ => by rw [es2]⟩
  have hN : RLb s1 s2 := hR.f hA hB
  rw [es1] at hN
  rw [es2] at hN
  refine lv_pop hx hb (dkP dF_87 DL_law (i := 324) rfl rfl) rfl ?_
  refine lv_goto (tgt := 1616) hx hb (dkS dF_167 DL_law (i := 325) rfl rfl rfl) (by decide) ?_
  exact kk _ _ _ _ hT1 hJ1 hT2 hJ2 hN hw
set_option maxRecDepth 100000 in
set_option maxHeartbeats 4000000 in
theorem law_12 (l : Launch) (G : va_G) (kc : KC) {p : Program} {e : Env} {s : State} {m : MethodId} {below : List Frame} {meth : Method} {c : Code} {b L : Nat} {xs : Nat → Int32} (C0 : Cx G kc p s m c #[Value.ref b] cL_law 4 RL) (hRo : RO0 kc (fun q : Nat => s.heap.size ≤ q) s s.heap) (hX : va_X b L xs s s.heap) (hbl : b < s.heap.size) (hL : L ≤ 3072) {ad1 ad2 : Nat → Nat} {q : Nat} (hq : 6 * q + 6 ≤ L) {σ1 σ2 : Sg} (hT1 : TC σ1) (hJ1 : JC σ1) (hT2 : TM σ2) (hJ2 : JM σ2) (hR : RLb σ1 σ2) {H : Heap} {locs : List Loc} {ls : Array Slot} (hw : TW G kc (fun q : Nat => s.heap.size ≤ q) s.heap ad1 σ1 ad2 σ2 H locs) (hl : lv_has ls 4 [(3, .int (nI (6 * q))), (2, .ref (ad2 0)), (1, .ref (ad1 0)), (0, .ref b)]) (kk : ∀ (σ1 σ2 : Sg) (H : Heap) (locs : List Loc), TC σ1 → JC σ1 → TM σ2 → JM σ2 → RLb σ1 σ2 → TW G kc (fun q : Nat => s.heap.size ≤ q) s.heap ad1 σ1 ad2 σ2 H locs → W p l e room_1 s m #[Value.ref b] below meth c H locs 836 1863908 (lw_Z below #[Value.ref b] s) (F0 m 1616 ls [])) : W p l e room_1 s m #[Value.ref b] below meth c H locs 836 1863908 (lw_Z below #[Value.ref b] s) (F0 m 600 ls []) := by
  have hx := C0.1
  have hb := C0.2.1
  have hown := C0.2.2.2.1
  have hts := C0.2.2.2.2.1
  have hbA : ¬ (fun q : Nat => s.heap.size ≤ q) b := Nat.not_le.mpr hbl
  refine lv_aload_n hx hb (dkP dF_43 DL_law (i := 326) rfl rfl) rfl (lv_at hl 2 rfl) ?_
  refine lv_aload_n hx hb (dkP dF_42 DL_law (i := 327) rfl rfl) rfl (lv_at hl 3 rfl) ?_
  refine lv_iload_n hx hb (dkP dF_29 DL_law (i := 328) rfl rfl) rfl (lv_at hl 0 rfl) ?_
  refine lv_iconst (v := 1) hx hb (dkP dF_4 DL_law (i := 329) rfl rfl) (by decide) ?_
  refine lv_iadd hx hb (dkP dF_96 DL_law (i := 330) rfl rfl) ?_
  refine z_top (y := nI (6 * q + 1)) (by simp only [fa_lit, nI_add]) ?_
  refine va_sld hx hb hX hbl hbA hw.2.2.1 (i := nI (6 * q + 1)) (vp_in_nI (by omega) (by omega)) (dkP dF_46 DL_law (i := 331) rfl rfl) ?_
  refine lv_aload_n hx hb (dkP dF_42 DL_law (i := 332) rfl rfl) rfl (lv_at hl 3 rfl) ?_
  refine lv_iload_n hx hb (dkP dF_29 DL_law (i := 333) rfl rfl) rfl (lv_at hl 0 rfl) ?_
  refine lv_iconst (v := 2) hx hb (dkP dF_5 DL_law (i := 334) rfl rfl) (by decide) ?_
  refine lv_iadd hx hb (dkP dF_96 DL_law (i := 335) rfl rfl) ?_
  refine z_top (y := nI (6 * q + 2)) (by simp only [fa_lit, nI_add]) ?_
  refine va_sld hx hb hX hbl hbA hw.2.2.1 (i := nI (6 * q + 2)) (vp_in_nI (by omega) (by omega)) (dkP dF_46 DL_law (i := 336) rfl rfl) ?_
  refine lv_aload_n hx hb (dkP dF_42 DL_law (i := 337) rfl rfl) rfl (lv_at hl 3 rfl) ?_
  refine lv_iload_n hx hb (dkP dF_29 DL_law (i := 338) rfl rfl) rfl (lv_at hl 0 rfl) ?_
  refine lv_iconst (v := 3) hx hb (dkP dF_6 DL_law (i := 339) rfl rfl) (by decide) ?_
  refine lv_iadd hx hb (dkP dF_96 DL_law (i := 340) rfl rfl) ?_
  refine z_top (y := nI (6 * q + 3)) (by simp only [fa_lit, nI_add]) ?_
  refine va_sld hx hb hX hbl hbA hw.2.2.1 (i := nI (6 * q + 3)) (vp_in_nI (by omega) (by omega)) (dkP dF_46 DL_law (i := 341) rfl rfl) ?_
  refine q_x (As := [.int (xs (nI (6 * q + 1)).toNatClampNeg), .int (xs (nI (6 * q + 2)).toNatClampNeg), .int (xs (nI (6 * q + 3)).toNatClampNeg)]) (rest := []) C0 hRo hw (c_X11_rule l G kc ad1 σ1 (xs (nI (6 * q + 1)).toNatClampNeg) (xs (nI (6 * q + 2)).toNatClampNeg) (xs (nI (6 * q + 3)).toNatClampNeg) hJ1 hT1) rfl cv_X11_rule lk_L_67 rfl hl.1 rfl ⟨by decide, by decide⟩ (Nat.le_of_ble_eq_true rfl) (dk2 dF_182 DL_law (i := 342) rfl rfl rfl) ⟨by decide, by decide⟩ (fun r1 s1 H locs hp1 hw => ?_)
  obtain ⟨g1_0, es1⟩ := hp1
  rw [es1] at hw
  have hA : KA2 σ1 s1 := fun x k _ => by rw [es1]
  refine lv_pop hx hb (dkP dF_87 DL_law (i := 343) rfl rfl) rfl ?_
  refine lv_aload_n hx hb (dkP dF_44 DL_law (i := 344) rfl rfl) rfl (lv_at hl 1 rfl) ?_
  refine lv_aload_n hx hb (dkP dF_42 DL_law (i := 345) rfl rfl) rfl (lv_at hl 3 rfl) ?_
  refine lv_iload_n hx hb (dkP dF_29 DL_law (i := 346) rfl rfl) rfl (lv_at hl 0 rfl) ?_
  refine lv_iconst (v := 1) hx hb (dkP dF_4 DL_law (i := 347) rfl rfl) (by decide) ?_
  refine lv_iadd hx hb (dkP dF_96 DL_law (i := 348) rfl rfl) ?_
  refine z_top (y := nI (6 * q + 1)) (by simp only [fa_lit, nI_add]) ?_
  refine va_sld hx hb hX hbl hbA hw.2.2.1 (i := nI (6 * q + 1)) (vp_in_nI (by omega) (by omega)) (dkP dF_46 DL_law (i := 349) rfl rfl) ?_
  refine lv_aload_n hx hb (dkP dF_42 DL_law (i := 350) rfl rfl) rfl (lv_at hl 3 rfl) ?_
  refine lv_iload_n hx hb (dkP dF_29 DL_law (i := 351) rfl rfl) rfl (lv_at hl 0 rfl) ?_
  refine lv_iconst (v := 2) hx hb (dkP dF_5 DL_law (i := 352) rfl rfl) (by decide) ?_
  refine lv_iadd hx hb (dkP dF_96 DL_law (i := 353) rfl rfl) ?_
  refine z_top (y := nI (6 * q + 2)) (by simp only [fa_lit, nI_add]) ?_
  refine va_sld hx hb hX hbl hbA hw.2.2.1 (i := nI (6 * q + 2)) (vp_in_nI (by omega) (by omega)) (dkP dF_46 DL_law (i := 354) rfl rfl) ?_
  refine lv_aload_n hx hb (dkP dF_42 DL_law (i := 355) rfl rfl) rfl (lv_at hl 3 rfl) ?_
  refine lv_iload_n hx hb (dkP dF_29 DL_law (i := 356) rfl rfl) rfl (lv_at hl 0 rfl) ?_
  refine lv_iconst (v := 3) hx hb (dkP dF_6 DL_law (i := 357) rfl rfl) (by decide) ?_
  refine lv_iadd hx hb (dkP dF_96 DL_law (i := 358) rfl rfl) ?_
  refine z_top (y := nI (6 * q + 3)) (by simp only [fa_lit, nI_add]) ?_
  refine va_sld hx hb hX hbl hbA hw.2.2.1 (i := nI (6 * q + 3)) (vp_in_nI (by omega) (by omega)) (dkP dF_46 DL_law (i := 359) rfl rfl) ?_
  refine q_m (As := [.int (xs (nI (6 * q + 1)).toNatClampNeg), .int (xs (nI (6 * q + 2)).toNatClampNeg), .int (xs (nI (6 * q + 3)).toNatClampNeg)]) (rest := []) C0 hRo hw (c_X12_rule l G kc ad2 σ2 (xs (nI (6 * q + 1)).toNatClampNeg) (xs (nI (6 * q + 2)).toNatClampNeg) (xs (nI (6 * q + 3)).toNatClampNeg)  hT2) rfl cv_X12_rule lk_L_70 rfl hl.1 rfl ⟨by decide, by decide⟩ (Nat.le_of_ble_eq_true rfl) (dk2 dF_182 DL_law (i := 360) rfl rfl rfl) ⟨by decide, by decide⟩ (fun r2 s2 H locs hp2 hw => ?_)
  have es2 := hp2
  rw [es2] at hw
  have hB : KB2 σ2 s2 := ⟨fun k => by rw [es2], fun k => by rw [es2], fun k _ => by rw [es2]⟩
  have hN : RLb s1 s2 := hR.f hA hB
  rw [es1] at hN
  rw [es2] at hN
  refine lv_pop hx hb (dkP dF_87 DL_law (i := 361) rfl rfl) rfl ?_
  refine lv_goto (tgt := 1616) hx hb (dkS dF_167 DL_law (i := 362) rfl rfl rfl) (by decide) ?_
  exact kk _ _ _ _ hT1 hJ1 hT2 hJ2 hN hw
set_option maxRecDepth 100000 in
set_option maxHeartbeats 4000000 in
theorem law_13 (l : Launch) (G : va_G) (kc : KC) {p : Program} {e : Env} {s : State} {m : MethodId} {below : List Frame} {meth : Method} {c : Code} {b L : Nat} {xs : Nat → Int32} (C0 : Cx G kc p s m c #[Value.ref b] cL_law 4 RL) (hRo : RO0 kc (fun q : Nat => s.heap.size ≤ q) s s.heap) (hX : va_X b L xs s s.heap) (hbl : b < s.heap.size) (hL : L ≤ 3072) {ad1 ad2 : Nat → Nat} {q : Nat} (hq : 6 * q + 6 ≤ L) {σ1 σ2 : Sg} (hT1 : TC σ1) (hJ1 : JC σ1) (hT2 : TM σ2) (hJ2 : JM σ2) (hR : RLb σ1 σ2) {H : Heap} {locs : List Loc} {ls : Array Slot} (hw : TW G kc (fun q : Nat => s.heap.size ≤ q) s.heap ad1 σ1 ad2 σ2 H locs) (hl : lv_has ls 4 [(3, .int (nI (6 * q))), (2, .ref (ad2 0)), (1, .ref (ad1 0)), (0, .ref b)]) (kk : ∀ (σ1 σ2 : Sg) (H : Heap) (locs : List Loc), TC σ1 → JC σ1 → TM σ2 → JM σ2 → RLb σ1 σ2 → TW G kc (fun q : Nat => s.heap.size ≤ q) s.heap ad1 σ1 ad2 σ2 H locs → W p l e room_1 s m #[Value.ref b] below meth c H locs 836 1863908 (lw_Z below #[Value.ref b] s) (F0 m 1616 ls [])) : W p l e room_1 s m #[Value.ref b] below meth c H locs 836 1863908 (lw_Z below #[Value.ref b] s) (F0 m 643 ls []) := by
  have hx := C0.1
  have hb := C0.2.1
  have hown := C0.2.2.2.1
  have hts := C0.2.2.2.2.1
  have hbA : ¬ (fun q : Nat => s.heap.size ≤ q) b := Nat.not_le.mpr hbl
  refine lv_aload_n hx hb (dkP dF_43 DL_law (i := 363) rfl rfl) rfl (lv_at hl 2 rfl) ?_
  refine q_x (As := []) (rest := []) C0 hRo hw (c_X11_dead l G kc ad1 σ1  hJ1 hT1) rfl cv_X11_dead lk_L_71 rfl hl.1 rfl ⟨by decide, by decide⟩ (Nat.le_of_ble_eq_true rfl) (dk2 dF_182 DL_law (i := 364) rfl rfl rfl) ⟨by decide, by decide⟩ (fun r1 s1 H locs hp1 hw => ?_)
  obtain ⟨g1_0, es1⟩ := hp1
  rw [es1] at hw
  have hA : KA2 σ1 s1 := fun x k _ => by rw [es1]
  refine lv_pop hx hb (dkP dF_87 DL_law (i := 365) rfl rfl) rfl ?_
  refine lv_aload_n hx hb (dkP dF_44 DL_law (i := 366) rfl rfl) rfl (lv_at hl 1 rfl) ?_
  refine q_m (As := []) (rest := []) C0 hRo hw (c_X12_dead l G kc ad2 σ2   hT2) rfl cv_X12_dead lk_L_74 rfl hl.1 rfl ⟨by decide, by decide⟩ (Nat.le_of_ble_eq_true rfl) (dk2 dF_182 DL_law (i := 367) rfl rfl rfl) ⟨by decide, by decide⟩ (fun r2 s2 H locs hp2 hw => ?_)
  have es2 := hp2
  rw [es2] at hw
  have hB : KB2 σ2 s2 := ⟨fun k => by rw [es2], fun k => by rw [es2], fun k _ => by rw [es2]⟩
  have hN : RLb s1 s2 := hR.f hA hB
  rw [es1] at hN
  rw [es2] at hN
  refine lv_pop hx hb (dkP dF_87 DL_law (i := 368) rfl rfl) rfl ?_
  refine lv_goto (tgt := 1616) hx hb (dkS dF_167 DL_law (i := 369) rfl rfl rfl) (by decide) ?_
  exact kk _ _ _ _ hT1 hJ1 hT2 hJ2 hN hw
set_option maxRecDepth 100000 in
set_option maxHeartbeats 4000000 in
theorem law_14 (l : Launch) (G : va_G) (kc : KC) {p : Program} {e : Env} {s : State} {m : MethodId} {below : List Frame} {meth : Method} {c : Code} {b L : Nat} {xs : Nat → Int32} (C0 : Cx G kc p s m c #[Value.ref b] cL_law 4 RL) (hRo : RO0 kc (fun q : Nat => s.heap.size ≤ q) s s.heap) (hX : va_X b L xs s s.heap) (hbl : b < s.heap.size) (hL : L ≤ 3072) {ad1 ad2 : Nat → Nat} {q : Nat} (hq : 6 * q + 6 ≤ L) {σ1 σ2 : Sg} (hT1 : TC σ1) (hJ1 : JC σ1) (hT2 : TM σ2) (hJ2 : JM σ2) (hR : RLb σ1 σ2) {H : Heap} {locs : List Loc} {ls : Array Slot} (hw : TW G kc (fun q : Nat => s.heap.size ≤ q) s.heap ad1 σ1 ad2 σ2 H locs) (hl : lv_has ls 4 [(3, .int (nI (6 * q))), (2, .ref (ad2 0)), (1, .ref (ad1 0)), (0, .ref b)]) (kk : ∀ (σ1 σ2 : Sg) (H : Heap) (locs : List Loc), TC σ1 → JC σ1 → TM σ2 → JM σ2 → RLb σ1 σ2 → TW G kc (fun q : Nat => s.heap.size ≤ q) s.heap ad1 σ1 ad2 σ2 H locs → W p l e room_1 s m #[Value.ref b] below meth c H locs 836 1863908 (lw_Z below #[Value.ref b] s) (F0 m 1616 ls [])) : W p l e room_1 s m #[Value.ref b] below meth c H locs 836 1863908 (lw_Z below #[Value.ref b] s) (F0 m 656 ls []) := by
  have hx := C0.1
  have hb := C0.2.1
  have hown := C0.2.2.2.1
  have hts := C0.2.2.2.2.1
  have hbA : ¬ (fun q : Nat => s.heap.size ≤ q) b := Nat.not_le.mpr hbl
  refine lv_aload_n hx hb (dkP dF_43 DL_law (i := 370) rfl rfl) rfl (lv_at hl 2 rfl) ?_
  refine q_x (As := []) (rest := []) C0 hRo hw (c_X11_kinds l G kc ad1 σ1  hJ1 hT1) rfl cv_X11_kinds lk_L_75 rfl hl.1 rfl ⟨by decide, by decide⟩ (Nat.le_of_ble_eq_true rfl) (dk2 dF_182 DL_law (i := 371) rfl rfl rfl) ⟨by decide, by decide⟩ (fun r1 s1 H locs hp1 hw => ?_)
  obtain ⟨g1_0, es1⟩ := hp1
  rw [es1] at hw
  have hA : KA2 σ1 s1 := fun x k _ => by rw [es1]
  refine lv_pop hx hb (dkP dF_87 DL_law (i := 372) rfl rfl) rfl ?_
  refine lv_aload_n hx hb (dkP dF_44 DL_law (i := 373) rfl rfl) rfl (lv_at hl 1 rfl) ?_
  refine q_m (As := []) (rest := []) C0 hRo hw (c_X12_kinds l G kc ad2 σ2   hT2) rfl cv_X12_kinds lk_L_78 rfl hl.1 rfl ⟨by decide, by decide⟩ (Nat.le_of_ble_eq_true rfl) (dk2 dF_182 DL_law (i := 374) rfl rfl rfl) ⟨by decide, by decide⟩ (fun r2 s2 H locs hp2 hw => ?_)
  have es2 := hp2
  rw [es2] at hw
  have hB : KB2 σ2 s2 := ⟨fun k => by rw [es2], fun k => by rw [es2], fun k _ => by rw [es2]⟩
  have hN : RLb s1 s2 := hR.f hA hB
  rw [es1] at hN
  rw [es2] at hN
  refine lv_pop hx hb (dkP dF_87 DL_law (i := 375) rfl rfl) rfl ?_
  refine lv_goto (tgt := 1616) hx hb (dkS dF_167 DL_law (i := 376) rfl rfl rfl) (by decide) ?_
  exact kk _ _ _ _ hT1 hJ1 hT2 hJ2 hN hw
set_option maxRecDepth 100000 in
set_option maxHeartbeats 4000000 in
theorem law_15 (l : Launch) (G : va_G) (kc : KC) {p : Program} {e : Env} {s : State} {m : MethodId} {below : List Frame} {meth : Method} {c : Code} {b L : Nat} {xs : Nat → Int32} (C0 : Cx G kc p s m c #[Value.ref b] cL_law 4 RL) (hRo : RO0 kc (fun q : Nat => s.heap.size ≤ q) s s.heap) (hX : va_X b L xs s s.heap) (hbl : b < s.heap.size) (hL : L ≤ 3072) {ad1 ad2 : Nat → Nat} {q : Nat} (hq : 6 * q + 6 ≤ L) {σ1 σ2 : Sg} (hT1 : TC σ1) (hJ1 : JC σ1) (hT2 : TM σ2) (hJ2 : JM σ2) (hR : RLb σ1 σ2) {H : Heap} {locs : List Loc} {ls : Array Slot} (hw : TW G kc (fun q : Nat => s.heap.size ≤ q) s.heap ad1 σ1 ad2 σ2 H locs) (hl : lv_has ls 4 [(3, .int (nI (6 * q))), (2, .ref (ad2 0)), (1, .ref (ad1 0)), (0, .ref b)]) (kk : ∀ (σ1 σ2 : Sg) (H : Heap) (locs : List Loc), TC σ1 → JC σ1 → TM σ2 → JM σ2 → RLb σ1 σ2 → TW G kc (fun q : Nat => s.heap.size ≤ q) s.heap ad1 σ1 ad2 σ2 H locs → W p l e room_1 s m #[Value.ref b] below meth c H locs 836 1863908 (lw_Z below #[Value.ref b] s) (F0 m 1616 ls [])) : W p l e room_1 s m #[Value.ref b] below meth c H locs 836 1863908 (lw_Z below #[Value.ref b] s) (F0 m 669 ls []) := by
  have hx := C0.1
  have hb := C0.2.1
  have hown := C0.2.2.2.1
  have hts := C0.2.2.2.2.1
  have hbA : ¬ (fun q : Nat => s.heap.size ≤ q) b := Nat.not_le.mpr hbl
  refine lv_aload_n hx hb (dkP dF_43 DL_law (i := 377) rfl rfl) rfl (lv_at hl 2 rfl) ?_
  refine lv_aload_n hx hb (dkP dF_42 DL_law (i := 378) rfl rfl) rfl (lv_at hl 3 rfl) ?_
  refine lv_iload_n hx hb (dkP dF_29 DL_law (i := 379) rfl rfl) rfl (lv_at hl 0 rfl) ?_
  refine lv_iconst (v := 1) hx hb (dkP dF_4 DL_law (i := 380) rfl rfl) (by decide) ?_
  refine lv_iadd hx hb (dkP dF_96 DL_law (i := 381) rfl rfl) ?_
  refine z_top (y := nI (6 * q + 1)) (by simp only [fa_lit, nI_add]) ?_
  refine va_sld hx hb hX hbl hbA hw.2.2.1 (i := nI (6 * q + 1)) (vp_in_nI (by omega) (by omega)) (dkP dF_46 DL_law (i := 382) rfl rfl) ?_
  refine q_x (As := [.int (xs (nI (6 * q + 1)).toNatClampNeg)]) (rest := []) C0 hRo hw (c_X11_make l G kc ad1 σ1 (xs (nI (6 * q + 1)).toNatClampNeg) hJ1 hT1) rfl cv_X11_make lk_L_79 rfl hl.1 rfl ⟨by decide, by decide⟩ (Nat.le_of_ble_eq_true rfl) (dk2 dF_182 DL_law (i := 383) rfl rfl rfl) ⟨by decide, by decide⟩ (fun r1 s1 H locs hp1 hw => ?_)
  obtain ⟨g1_0, hT1_, hF1⟩ := hp1
  have hJ1 := g1_0
  have hT1 := hT1_
  have hA : KA2 σ1 s1 := fun x k hx9 => hF1.1 x k (fun h9 => by rcases hx9 with rfl | rfl | rfl | rfl | rfl | hx9 <;> first | (simp at h9; done) | omega)
  refine lv_pop hx hb (dkP dF_87 DL_law (i := 384) rfl rfl) rfl ?_
  refine lv_aload_n hx hb (dkP dF_44 DL_law (i := 385) rfl rfl) rfl (lv_at hl 1 rfl) ?_
  refine lv_aload_n hx hb (dkP dF_42 DL_law (i := 386) rfl rfl) rfl (lv_at hl 3 rfl) ?_
  refine lv_iload_n hx hb (dkP dF_29 DL_law (i := 387) rfl rfl) rfl (lv_at hl 0 rfl) ?_
  refine lv_iconst (v := 1) hx hb (dkP dF_4 DL_law (i := 388) rfl rfl) (by decide) ?_
  refine lv_iadd hx hb (dkP dF_96 DL_law (i := 389) rfl rfl) ?_
  refine z_top (y := nI (6 * q + 1)) (by simp only [fa_lit, nI_add]) ?_
  refine va_sld hx hb hX hbl hbA hw.2.2.1 (i := nI (6 * q + 1)) (vp_in_nI (by omega) (by omega)) (dkP dF_46 DL_law (i := 390) rfl rfl) ?_
  refine q_m (As := [.int (xs (nI (6 * q + 1)).toNatClampNeg)]) (rest := []) C0 hRo hw (c_X12_make l G kc ad2 σ2 (xs (nI (6 * q + 1)).toNatClampNeg)  hT2) rfl cv_X12_make lk_L_82 rfl hl.1 rfl ⟨by decide, by decide⟩ (Nat.le_of_ble_eq_true rfl) (dk2 dF_182 DL_law (i := 391) rfl rfl rfl) ⟨by decide, by decide⟩ (fun r2 s2 H locs hp2 hw => ?_)
  obtain ⟨hT2_, hF2⟩ := hp2
  have hJ2 := hJ2.f hF2 (by decide) (by decide)
  have hT2 := hT2_
  have hB : KB2 σ2 s2 := ⟨fun k => congrFun (hF2.1 2 (by decide) (by decide)) k, fun k => congrFun (hF2.1 3 (by decide) (by decide)) k, fun k hk => hF2.2.2.2 rfl k hk⟩
  have hN : RLb s1 s2 := hR.f hA hB
  refine lv_pop hx hb (dkP dF_87 DL_law (i := 392) rfl rfl) rfl ?_
  refine lv_goto (tgt := 1616) hx hb (dkS dF_167 DL_law (i := 393) rfl rfl rfl) (by decide) ?_
  exact kk _ _ _ _ hT1 hJ1 hT2 hJ2 hN hw
set_option maxRecDepth 100000 in
set_option maxHeartbeats 4000000 in
theorem law_16 (l : Launch) (G : va_G) (kc : KC) {p : Program} {e : Env} {s : State} {m : MethodId} {below : List Frame} {meth : Method} {c : Code} {b L : Nat} {xs : Nat → Int32} (C0 : Cx G kc p s m c #[Value.ref b] cL_law 4 RL) (hRo : RO0 kc (fun q : Nat => s.heap.size ≤ q) s s.heap) (hX : va_X b L xs s s.heap) (hbl : b < s.heap.size) (hL : L ≤ 3072) {ad1 ad2 : Nat → Nat} {q : Nat} (hq : 6 * q + 6 ≤ L) {σ1 σ2 : Sg} (hT1 : TC σ1) (hJ1 : JC σ1) (hT2 : TM σ2) (hJ2 : JM σ2) (hR : RLb σ1 σ2) {H : Heap} {locs : List Loc} {ls : Array Slot} (hw : TW G kc (fun q : Nat => s.heap.size ≤ q) s.heap ad1 σ1 ad2 σ2 H locs) (hl : lv_has ls 4 [(3, .int (nI (6 * q))), (2, .ref (ad2 0)), (1, .ref (ad1 0)), (0, .ref b)]) (kk : ∀ (σ1 σ2 : Sg) (H : Heap) (locs : List Loc), TC σ1 → JC σ1 → TM σ2 → JM σ2 → RLb σ1 σ2 → TW G kc (fun q : Nat => s.heap.size ≤ q) s.heap ad1 σ1 ad2 σ2 H locs → W p l e room_1 s m #[Value.ref b] below meth c H locs 836 1863908 (lw_Z below #[Value.ref b] s) (F0 m 1616 ls [])) : W p l e room_1 s m #[Value.ref b] below meth c H locs 836 1863908 (lw_Z below #[Value.ref b] s) (F0 m 692 ls []) := by
  have hx := C0.1
  have hb := C0.2.1
  have hown := C0.2.2.2.1
  have hts := C0.2.2.2.2.1
  have hbA : ¬ (fun q : Nat => s.heap.size ≤ q) b := Nat.not_le.mpr hbl
  refine lv_aload_n hx hb (dkP dF_43 DL_law (i := 394) rfl rfl) rfl (lv_at hl 2 rfl) ?_
  refine lv_aload_n hx hb (dkP dF_42 DL_law (i := 395) rfl rfl) rfl (lv_at hl 3 rfl) ?_
  refine lv_iload_n hx hb (dkP dF_29 DL_law (i := 396) rfl rfl) rfl (lv_at hl 0 rfl) ?_
  refine lv_iconst (v := 1) hx hb (dkP dF_4 DL_law (i := 397) rfl rfl) (by decide) ?_
  refine lv_iadd hx hb (dkP dF_96 DL_law (i := 398) rfl rfl) ?_
  refine z_top (y := nI (6 * q + 1)) (by simp only [fa_lit, nI_add]) ?_
  refine va_sld hx hb hX hbl hbA hw.2.2.1 (i := nI (6 * q + 1)) (vp_in_nI (by omega) (by omega)) (dkP dF_46 DL_law (i := 399) rfl rfl) ?_
  refine lv_aload_n hx hb (dkP dF_42 DL_law (i := 400) rfl rfl) rfl (lv_at hl 3 rfl) ?_
  refine lv_iload_n hx hb (dkP dF_29 DL_law (i := 401) rfl rfl) rfl (lv_at hl 0 rfl) ?_
  refine lv_iconst (v := 2) hx hb (dkP dF_5 DL_law (i := 402) rfl rfl) (by decide) ?_
  refine lv_iadd hx hb (dkP dF_96 DL_law (i := 403) rfl rfl) ?_
  refine z_top (y := nI (6 * q + 2)) (by simp only [fa_lit, nI_add]) ?_
  refine va_sld hx hb hX hbl hbA hw.2.2.1 (i := nI (6 * q + 2)) (vp_in_nI (by omega) (by omega)) (dkP dF_46 DL_law (i := 404) rfl rfl) ?_
  refine lv_aload_n hx hb (dkP dF_42 DL_law (i := 405) rfl rfl) rfl (lv_at hl 3 rfl) ?_
  refine lv_iload_n hx hb (dkP dF_29 DL_law (i := 406) rfl rfl) rfl (lv_at hl 0 rfl) ?_
  refine lv_iconst (v := 3) hx hb (dkP dF_6 DL_law (i := 407) rfl rfl) (by decide) ?_
  refine lv_iadd hx hb (dkP dF_96 DL_law (i := 408) rfl rfl) ?_
  refine z_top (y := nI (6 * q + 3)) (by simp only [fa_lit, nI_add]) ?_
  refine va_sld hx hb hX hbl hbA hw.2.2.1 (i := nI (6 * q + 3)) (vp_in_nI (by omega) (by omega)) (dkP dF_46 DL_law (i := 409) rfl rfl) ?_
  refine lv_aload_n hx hb (dkP dF_42 DL_law (i := 410) rfl rfl) rfl (lv_at hl 3 rfl) ?_
  refine lv_iload_n hx hb (dkP dF_29 DL_law (i := 411) rfl rfl) rfl (lv_at hl 0 rfl) ?_
  refine lv_iconst (v := 4) hx hb (dkP dF_7 DL_law (i := 412) rfl rfl) (by decide) ?_
  refine lv_iadd hx hb (dkP dF_96 DL_law (i := 413) rfl rfl) ?_
  refine z_top (y := nI (6 * q + 4)) (by simp only [fa_lit, nI_add]) ?_
  refine va_sld hx hb hX hbl hbA hw.2.2.1 (i := nI (6 * q + 4)) (vp_in_nI (by omega) (by omega)) (dkP dF_46 DL_law (i := 414) rfl rfl) ?_
  refine q_x (As := [.int (xs (nI (6 * q + 1)).toNatClampNeg), .int (xs (nI (6 * q + 2)).toNatClampNeg), .int (xs (nI (6 * q + 3)).toNatClampNeg), .int (xs (nI (6 * q + 4)).toNatClampNeg)]) (rest := []) C0 hRo hw (c_X11_wish l G kc ad1 σ1 (xs (nI (6 * q + 1)).toNatClampNeg) (xs (nI (6 * q + 2)).toNatClampNeg) (xs (nI (6 * q + 3)).toNatClampNeg) (xs (nI (6 * q + 4)).toNatClampNeg) hJ1 hT1) rfl cv_X11_wish lk_L_83 rfl hl.1 rfl ⟨by decide, by decide⟩ (Nat.le_of_ble_eq_true rfl) (dk2 dF_182 DL_law (i := 415) rfl rfl rfl) ⟨by decide, by decide⟩ (fun r1 s1 H locs hp1 hw => ?_)
  obtain ⟨g1_0, hT1_, hF1⟩ := hp1
  have hJ1 := g1_0
  have hT1 := hT1_
  have hA : KA2 σ1 s1 := fun x k hx9 => hF1.1 x k (fun h9 => by rcases hx9 with rfl | rfl | rfl | rfl | rfl | hx9 <;> first | (simp at h9; done) | omega)
  refine lv_pop hx hb (dkP dF_87 DL_law (i := 416) rfl rfl) rfl ?_
  refine lv_aload_n hx hb (dkP dF_44 DL_law (i := 417) rfl rfl) rfl (lv_at hl 1 rfl) ?_
  refine lv_aload_n hx hb (dkP dF_42 DL_law (i := 418) rfl rfl) rfl (lv_at hl 3 rfl) ?_
  refine lv_iload_n hx hb (dkP dF_29 DL_law (i := 419) rfl rfl) rfl (lv_at hl 0 rfl) ?_
  refine lv_iconst (v := 1) hx hb (dkP dF_4 DL_law (i := 420) rfl rfl) (by decide) ?_
  refine lv_iadd hx hb (dkP dF_96 DL_law (i := 421) rfl rfl) ?_
  refine z_top (y := nI (6 * q + 1)) (by simp only [fa_lit, nI_add]) ?_
  refine va_sld hx hb hX hbl hbA hw.2.2.1 (i := nI (6 * q + 1)) (vp_in_nI (by omega) (by omega)) (dkP dF_46 DL_law (i := 422) rfl rfl) ?_
  refine lv_aload_n hx hb (dkP dF_42 DL_law (i := 423) rfl rfl) rfl (lv_at hl 3 rfl) ?_
  refine lv_iload_n hx hb (dkP dF_29 DL_law (i := 424) rfl rfl) rfl (lv_at hl 0 rfl) ?_
  refine lv_iconst (v := 2) hx hb (dkP dF_5 DL_law (i := 425) rfl rfl) (by decide) ?_
  refine lv_iadd hx hb (dkP dF_96 DL_law (i := 426) rfl rfl) ?_
  refine z_top (y := nI (6 * q + 2)) (by simp only [fa_lit, nI_add]) ?_
  refine va_sld hx hb hX hbl hbA hw.2.2.1 (i := nI (6 * q + 2)) (vp_in_nI (by omega) (by omega)) (dkP dF_46 DL_law (i := 427) rfl rfl) ?_
  refine lv_aload_n hx hb (dkP dF_42 DL_law (i := 428) rfl rfl) rfl (lv_at hl 3 rfl) ?_
  refine lv_iload_n hx hb (dkP dF_29 DL_law (i := 429) rfl rfl) rfl (lv_at hl 0 rfl) ?_
  refine lv_iconst (v := 3) hx hb (dkP dF_6 DL_law (i := 430) rfl rfl) (by decide) ?_
  refine lv_iadd hx hb (dkP dF_96 DL_law (i := 431) rfl rfl) ?_
  refine z_top (y := nI (6 * q + 3)) (by simp only [fa_lit, nI_add]) ?_
  refine va_sld hx hb hX hbl hbA hw.2.2.1 (i := nI (6 * q + 3)) (vp_in_nI (by omega) (by omega)) (dkP dF_46 DL_law (i := 432) rfl rfl) ?_
  refine lv_aload_n hx hb (dkP dF_42 DL_law (i := 433) rfl rfl) rfl (lv_at hl 3 rfl) ?_
  refine lv_iload_n hx hb (dkP dF_29 DL_law (i := 434) rfl rfl) rfl (lv_at hl 0 rfl) ?_
  refine lv_iconst (v := 4) hx hb (dkP dF_7 DL_law (i := 435) rfl rfl) (by decide) ?_
  refine lv_iadd hx hb (dkP dF_96 DL_law (i := 436) rfl rfl) ?_
  refine z_top (y := nI (6 * q + 4)) (by simp only [fa_lit, nI_add]) ?_
  refine va_sld hx hb hX hbl hbA hw.2.2.1 (i := nI (6 * q + 4)) (vp_in_nI (by omega) (by omega)) (dkP dF_46 DL_law (i := 437) rfl rfl) ?_
  refine q_m (As := [.int (xs (nI (6 * q + 1)).toNatClampNeg), .int (xs (nI (6 * q + 2)).toNatClampNeg), .int (xs (nI (6 * q + 3)).toNatClampNeg), .int (xs (nI (6 * q + 4)).toNatClampNeg)]) (rest := []) C0 hRo hw (c_X12_wish l G kc ad2 σ2 (xs (nI (6 * q + 1)).toNatClampNeg) (xs (nI (6 * q + 2)).toNatClampNeg) (xs (nI (6 * q + 3)).toNatClampNeg) (xs (nI (6 * q + 4)).toNatClampNeg)  hT2) rfl cv_X12_wish lk_L_86 rfl hl.1 rfl ⟨by decide, by decide⟩ (Nat.le_of_ble_eq_true rfl) (dk2 dF_182 DL_law (i := 438) rfl rfl rfl) ⟨by decide, by decide⟩ (fun r2 s2 H locs hp2 hw => ?_)
  obtain ⟨hT2_, hF2⟩ := hp2
  have hJ2 := hJ2.f hF2 (by decide) (by decide)
  have hT2 := hT2_
  have hB : KB2 σ2 s2 := ⟨fun k => congrFun (hF2.1 2 (by decide) (by decide)) k, fun k => congrFun (hF2.1 3 (by decide) (by decide)) k, fun k hk => hF2.2.2.2 rfl k hk⟩
  have hN : RLb s1 s2 := hR.f hA hB
  refine lv_pop hx hb (dkP dF_87 DL_law (i := 439) rfl rfl) rfl ?_
  refine lv_goto (tgt := 1616) hx hb (dkS dF_167 DL_law (i := 440) rfl rfl rfl) (by decide) ?_
  exact kk _ _ _ _ hT1 hJ1 hT2 hJ2 hN hw
set_option maxRecDepth 100000 in
set_option maxHeartbeats 4000000 in
theorem law_17 (l : Launch) (G : va_G) (kc : KC) {p : Program} {e : Env} {s : State} {m : MethodId} {below : List Frame} {meth : Method} {c : Code} {b L : Nat} {xs : Nat → Int32} (C0 : Cx G kc p s m c #[Value.ref b] cL_law 4 RL) (hRo : RO0 kc (fun q : Nat => s.heap.size ≤ q) s s.heap) (hX : va_X b L xs s s.heap) (hbl : b < s.heap.size) (hL : L ≤ 3072) {ad1 ad2 : Nat → Nat} {q : Nat} (hq : 6 * q + 6 ≤ L) {σ1 σ2 : Sg} (hT1 : TC σ1) (hJ1 : JC σ1) (hT2 : TM σ2) (hJ2 : JM σ2) (hR : RLb σ1 σ2) {H : Heap} {locs : List Loc} {ls : Array Slot} (hw : TW G kc (fun q : Nat => s.heap.size ≤ q) s.heap ad1 σ1 ad2 σ2 H locs) (hl : lv_has ls 4 [(3, .int (nI (6 * q))), (2, .ref (ad2 0)), (1, .ref (ad1 0)), (0, .ref b)]) (kk : ∀ (σ1 σ2 : Sg) (H : Heap) (locs : List Loc), TC σ1 → JC σ1 → TM σ2 → JM σ2 → RLb σ1 σ2 → TW G kc (fun q : Nat => s.heap.size ≤ q) s.heap ad1 σ1 ad2 σ2 H locs → W p l e room_1 s m #[Value.ref b] below meth c H locs 836 1863908 (lw_Z below #[Value.ref b] s) (F0 m 1616 ls [])) : W p l e room_1 s m #[Value.ref b] below meth c H locs 836 1863908 (lw_Z below #[Value.ref b] s) (F0 m 745 ls []) := by
  have hx := C0.1
  have hb := C0.2.1
  have hown := C0.2.2.2.1
  have hts := C0.2.2.2.2.1
  have hbA : ¬ (fun q : Nat => s.heap.size ≤ q) b := Nat.not_le.mpr hbl
  refine lv_aload_n hx hb (dkP dF_43 DL_law (i := 441) rfl rfl) rfl (lv_at hl 2 rfl) ?_
  refine lv_aload_n hx hb (dkP dF_42 DL_law (i := 442) rfl rfl) rfl (lv_at hl 3 rfl) ?_
  refine lv_iload_n hx hb (dkP dF_29 DL_law (i := 443) rfl rfl) rfl (lv_at hl 0 rfl) ?_
  refine lv_iconst (v := 1) hx hb (dkP dF_4 DL_law (i := 444) rfl rfl) (by decide) ?_
  refine lv_iadd hx hb (dkP dF_96 DL_law (i := 445) rfl rfl) ?_
  refine z_top (y := nI (6 * q + 1)) (by simp only [fa_lit, nI_add]) ?_
  refine va_sld hx hb hX hbl hbA hw.2.2.1 (i := nI (6 * q + 1)) (vp_in_nI (by omega) (by omega)) (dkP dF_46 DL_law (i := 446) rfl rfl) ?_
  refine lv_aload_n hx hb (dkP dF_42 DL_law (i := 447) rfl rfl) rfl (lv_at hl 3 rfl) ?_
  refine lv_iload_n hx hb (dkP dF_29 DL_law (i := 448) rfl rfl) rfl (lv_at hl 0 rfl) ?_
  refine lv_iconst (v := 2) hx hb (dkP dF_5 DL_law (i := 449) rfl rfl) (by decide) ?_
  refine lv_iadd hx hb (dkP dF_96 DL_law (i := 450) rfl rfl) ?_
  refine z_top (y := nI (6 * q + 2)) (by simp only [fa_lit, nI_add]) ?_
  refine va_sld hx hb hX hbl hbA hw.2.2.1 (i := nI (6 * q + 2)) (vp_in_nI (by omega) (by omega)) (dkP dF_46 DL_law (i := 451) rfl rfl) ?_
  refine lv_aload_n hx hb (dkP dF_42 DL_law (i := 452) rfl rfl) rfl (lv_at hl 3 rfl) ?_
  refine lv_iload_n hx hb (dkP dF_29 DL_law (i := 453) rfl rfl) rfl (lv_at hl 0 rfl) ?_
  refine lv_iconst (v := 3) hx hb (dkP dF_6 DL_law (i := 454) rfl rfl) (by decide) ?_
  refine lv_iadd hx hb (dkP dF_96 DL_law (i := 455) rfl rfl) ?_
  refine z_top (y := nI (6 * q + 3)) (by simp only [fa_lit, nI_add]) ?_
  refine va_sld hx hb hX hbl hbA hw.2.2.1 (i := nI (6 * q + 3)) (vp_in_nI (by omega) (by omega)) (dkP dF_46 DL_law (i := 456) rfl rfl) ?_
  refine lv_aload_n hx hb (dkP dF_42 DL_law (i := 457) rfl rfl) rfl (lv_at hl 3 rfl) ?_
  refine lv_iload_n hx hb (dkP dF_29 DL_law (i := 458) rfl rfl) rfl (lv_at hl 0 rfl) ?_
  refine lv_iconst (v := 4) hx hb (dkP dF_7 DL_law (i := 459) rfl rfl) (by decide) ?_
  refine lv_iadd hx hb (dkP dF_96 DL_law (i := 460) rfl rfl) ?_
  refine z_top (y := nI (6 * q + 4)) (by simp only [fa_lit, nI_add]) ?_
  refine va_sld hx hb hX hbl hbA hw.2.2.1 (i := nI (6 * q + 4)) (vp_in_nI (by omega) (by omega)) (dkP dF_46 DL_law (i := 461) rfl rfl) ?_
  refine lv_aload_n hx hb (dkP dF_42 DL_law (i := 462) rfl rfl) rfl (lv_at hl 3 rfl) ?_
  refine lv_iload_n hx hb (dkP dF_29 DL_law (i := 463) rfl rfl) rfl (lv_at hl 0 rfl) ?_
  refine lv_iconst (v := 5) hx hb (dkP dF_8 DL_law (i := 464) rfl rfl) (by decide) ?_
  refine lv_iadd hx hb (dkP dF_96 DL_law (i := 465) rfl rfl) ?_
  refine z_top (y := nI (6 * q + 5)) (by simp only [fa_lit, nI_add]) ?_
  refine va_sld hx hb hX hbl hbA hw.2.2.1 (i := nI (6 * q + 5)) (vp_in_nI (by omega) (by omega)) (dkP dF_46 DL_law (i := 466) rfl rfl) ?_
  refine q_x (As := [.int (xs (nI (6 * q + 1)).toNatClampNeg), .int (xs (nI (6 * q + 2)).toNatClampNeg), .int (xs (nI (6 * q + 3)).toNatClampNeg), .int (xs (nI (6 * q + 4)).toNatClampNeg), .int (xs (nI (6 * q + 5)).toNatClampNeg)]) (rest := []) C0 hRo hw (c_X11_casing l G kc ad1 σ1 (xs (nI (6 * q + 1)).toNatClampNeg) (xs (nI (6 * q + 2)).toNatClampNeg) (xs (nI (6 * q + 3)).toNatClampNeg) (xs (nI (6 * q + 4)).toNatClampNeg) (xs (nI (6 * q + 5)).toNatClampNeg) hJ1 hT1) rfl cv_X11_casing lk_L_87 rfl hl.1 rfl ⟨by decide, by decide⟩ (Nat.le_of_ble_eq_true rfl) (dk2 dF_182 DL_law (i := 467) rfl rfl rfl) ⟨by decide, by decide⟩ (fun r1 s1 H locs hp1 hw => ?_)
  obtain ⟨g1_0, es1⟩ := hp1
  rw [es1] at hw
  have hA : KA2 σ1 s1 := fun x k _ => by rw [es1]
  refine lv_pop hx hb (dkP dF_87 DL_law (i := 468) rfl rfl) rfl ?_
  refine lv_aload_n hx hb (dkP dF_44 DL_law (i := 469) rfl rfl) rfl (lv_at hl 1 rfl) ?_
  refine lv_aload_n hx hb (dkP dF_42 DL_law (i := 470) rfl rfl) rfl (lv_at hl 3 rfl) ?_
  refine lv_iload_n hx hb (dkP dF_29 DL_law (i := 471) rfl rfl) rfl (lv_at hl 0 rfl) ?_
  refine lv_iconst (v := 1) hx hb (dkP dF_4 DL_law (i := 472) rfl rfl) (by decide) ?_
  refine lv_iadd hx hb (dkP dF_96 DL_law (i := 473) rfl rfl) ?_
  refine z_top (y := nI (6 * q + 1)) (by simp only [fa_lit, nI_add]) ?_
  refine va_sld hx hb hX hbl hbA hw.2.2.1 (i := nI (6 * q + 1)) (vp_in_nI (by omega) (by omega)) (dkP dF_46 DL_law (i := 474) rfl rfl) ?_
  refine lv_aload_n hx hb (dkP dF_42 DL_law (i := 475) rfl rfl) rfl (lv_at hl 3 rfl) ?_
  refine lv_iload_n hx hb (dkP dF_29 DL_law (i := 476) rfl rfl) rfl (lv_at hl 0 rfl) ?_
  refine lv_iconst (v := 2) hx hb (dkP dF_5 DL_law (i := 477) rfl rfl) (by decide) ?_
  refine lv_iadd hx hb (dkP dF_96 DL_law (i := 478) rfl rfl) ?_
  refine z_top (y := nI (6 * q + 2)) (by simp only [fa_lit, nI_add]) ?_
  refine va_sld hx hb hX hbl hbA hw.2.2.1 (i := nI (6 * q + 2)) (vp_in_nI (by omega) (by omega)) (dkP dF_46 DL_law (i := 479) rfl rfl) ?_
  refine lv_aload_n hx hb (dkP dF_42 DL_law (i := 480) rfl rfl) rfl (lv_at hl 3 rfl) ?_
  refine lv_iload_n hx hb (dkP dF_29 DL_law (i := 481) rfl rfl) rfl (lv_at hl 0 rfl) ?_
  refine lv_iconst (v := 3) hx hb (dkP dF_6 DL_law (i := 482) rfl rfl) (by decide) ?_
  refine lv_iadd hx hb (dkP dF_96 DL_law (i := 483) rfl rfl) ?_
  refine z_top (y := nI (6 * q + 3)) (by simp only [fa_lit, nI_add]) ?_
  refine va_sld hx hb hX hbl hbA hw.2.2.1 (i := nI (6 * q + 3)) (vp_in_nI (by omega) (by omega)) (dkP dF_46 DL_law (i := 484) rfl rfl) ?_
  refine lv_aload_n hx hb (dkP dF_42 DL_law (i := 485) rfl rfl) rfl (lv_at hl 3 rfl) ?_
  refine lv_iload_n hx hb (dkP dF_29 DL_law (i := 486) rfl rfl) rfl (lv_at hl 0 rfl) ?_
  refine lv_iconst (v := 4) hx hb (dkP dF_7 DL_law (i := 487) rfl rfl) (by decide) ?_
  refine lv_iadd hx hb (dkP dF_96 DL_law (i := 488) rfl rfl) ?_
  refine z_top (y := nI (6 * q + 4)) (by simp only [fa_lit, nI_add]) ?_
  refine va_sld hx hb hX hbl hbA hw.2.2.1 (i := nI (6 * q + 4)) (vp_in_nI (by omega) (by omega)) (dkP dF_46 DL_law (i := 489) rfl rfl) ?_
  refine lv_aload_n hx hb (dkP dF_42 DL_law (i := 490) rfl rfl) rfl (lv_at hl 3 rfl) ?_
  refine lv_iload_n hx hb (dkP dF_29 DL_law (i := 491) rfl rfl) rfl (lv_at hl 0 rfl) ?_
  refine lv_iconst (v := 5) hx hb (dkP dF_8 DL_law (i := 492) rfl rfl) (by decide) ?_
  refine lv_iadd hx hb (dkP dF_96 DL_law (i := 493) rfl rfl) ?_
  refine z_top (y := nI (6 * q + 5)) (by simp only [fa_lit, nI_add]) ?_
  refine va_sld hx hb hX hbl hbA hw.2.2.1 (i := nI (6 * q + 5)) (vp_in_nI (by omega) (by omega)) (dkP dF_46 DL_law (i := 494) rfl rfl) ?_
  refine q_m (As := [.int (xs (nI (6 * q + 1)).toNatClampNeg), .int (xs (nI (6 * q + 2)).toNatClampNeg), .int (xs (nI (6 * q + 3)).toNatClampNeg), .int (xs (nI (6 * q + 4)).toNatClampNeg), .int (xs (nI (6 * q + 5)).toNatClampNeg)]) (rest := []) C0 hRo hw (c_X12_casing l G kc ad2 σ2 (xs (nI (6 * q + 1)).toNatClampNeg) (xs (nI (6 * q + 2)).toNatClampNeg) (xs (nI (6 * q + 3)).toNatClampNeg) (xs (nI (6 * q + 4)).toNatClampNeg) (xs (nI (6 * q + 5)).toNatClampNeg)  hT2) rfl cv_X12_casing lk_L_90 rfl hl.1 rfl ⟨by decide, by decide⟩ (Nat.le_of_ble_eq_true rfl) (dk2 dF_182 DL_law (i := 495) rfl rfl rfl) ⟨by decide, by decide⟩ (fun r2 s2 H locs hp2 hw => ?_)
  have es2 := hp2
  rw [es2] at hw
  have hB : KB2 σ2 s2 := ⟨fun k => by rw [es2], fun k => by rw [es2], fun k _ => by rw [es2]⟩
  have hN : RLb s1 s2 := hR.f hA hB
  rw [es1] at hN
  rw [es2] at hN
  refine lv_pop hx hb (dkP dF_87 DL_law (i := 496) rfl rfl) rfl ?_
  refine lv_goto (tgt := 1616) hx hb (dkS dF_167 DL_law (i := 497) rfl rfl rfl) (by decide) ?_
  exact kk _ _ _ _ hT1 hJ1 hT2 hJ2 hN hw
set_option maxRecDepth 100000 in
set_option maxHeartbeats 4000000 in
theorem law_18 (l : Launch) (G : va_G) (kc : KC) {p : Program} {e : Env} {s : State} {m : MethodId} {below : List Frame} {meth : Method} {c : Code} {b L : Nat} {xs : Nat → Int32} (C0 : Cx G kc p s m c #[Value.ref b] cL_law 4 RL) (hRo : RO0 kc (fun q : Nat => s.heap.size ≤ q) s s.heap) (hX : va_X b L xs s s.heap) (hbl : b < s.heap.size) (hL : L ≤ 3072) {ad1 ad2 : Nat → Nat} {q : Nat} (hq : 6 * q + 6 ≤ L) {σ1 σ2 : Sg} (hT1 : TC σ1) (hJ1 : JC σ1) (hT2 : TM σ2) (hJ2 : JM σ2) (hR : RLb σ1 σ2) {H : Heap} {locs : List Loc} {ls : Array Slot} (hw : TW G kc (fun q : Nat => s.heap.size ≤ q) s.heap ad1 σ1 ad2 σ2 H locs) (hl : lv_has ls 4 [(3, .int (nI (6 * q))), (2, .ref (ad2 0)), (1, .ref (ad1 0)), (0, .ref b)]) (kk : ∀ (σ1 σ2 : Sg) (H : Heap) (locs : List Loc), TC σ1 → JC σ1 → TM σ2 → JM σ2 → RLb σ1 σ2 → TW G kc (fun q : Nat => s.heap.size ≤ q) s.heap ad1 σ1 ad2 σ2 H locs → W p l e room_1 s m #[Value.ref b] below meth c H locs 836 1863908 (lw_Z below #[Value.ref b] s) (F0 m 1616 ls [])) : W p l e room_1 s m #[Value.ref b] below meth c H locs 836 1863908 (lw_Z below #[Value.ref b] s) (F0 m 808 ls []) := by
  have hx := C0.1
  have hb := C0.2.1
  have hown := C0.2.2.2.1
  have hts := C0.2.2.2.2.1
  have hbA : ¬ (fun q : Nat => s.heap.size ≤ q) b := Nat.not_le.mpr hbl
  refine lv_aload_n hx hb (dkP dF_43 DL_law (i := 498) rfl rfl) rfl (lv_at hl 2 rfl) ?_
  refine lv_aload_n hx hb (dkP dF_42 DL_law (i := 499) rfl rfl) rfl (lv_at hl 3 rfl) ?_
  refine lv_iload_n hx hb (dkP dF_29 DL_law (i := 500) rfl rfl) rfl (lv_at hl 0 rfl) ?_
  refine lv_iconst (v := 1) hx hb (dkP dF_4 DL_law (i := 501) rfl rfl) (by decide) ?_
  refine lv_iadd hx hb (dkP dF_96 DL_law (i := 502) rfl rfl) ?_
  refine z_top (y := nI (6 * q + 1)) (by simp only [fa_lit, nI_add]) ?_
  refine va_sld hx hb hX hbl hbA hw.2.2.1 (i := nI (6 * q + 1)) (vp_in_nI (by omega) (by omega)) (dkP dF_46 DL_law (i := 503) rfl rfl) ?_
  refine q_x (As := [.int (xs (nI (6 * q + 1)).toNatClampNeg)]) (rest := []) C0 hRo hw (c_X11_unlike l G kc ad1 σ1 (xs (nI (6 * q + 1)).toNatClampNeg) hJ1 hT1) rfl cv_X11_unlike lk_L_91 rfl hl.1 rfl ⟨by decide, by decide⟩ (Nat.le_of_ble_eq_true rfl) (dk2 dF_182 DL_law (i := 504) rfl rfl rfl) ⟨by decide, by decide⟩ (fun r1 s1 H locs hp1 hw => ?_)
  obtain ⟨g1_0, hT1_, hF1⟩ := hp1
  have hJ1 := g1_0
  have hT1 := hT1_
  have hA : KA2 σ1 s1 := fun x k hx9 => hF1.1 x k (fun h9 => by rcases hx9 with rfl | rfl | rfl | rfl | rfl | hx9 <;> first | (simp at h9; done) | omega)
  refine lv_pop hx hb (dkP dF_87 DL_law (i := 505) rfl rfl) rfl ?_
  refine lv_aload_n hx hb (dkP dF_44 DL_law (i := 506) rfl rfl) rfl (lv_at hl 1 rfl) ?_
  refine lv_aload_n hx hb (dkP dF_42 DL_law (i := 507) rfl rfl) rfl (lv_at hl 3 rfl) ?_
  refine lv_iload_n hx hb (dkP dF_29 DL_law (i := 508) rfl rfl) rfl (lv_at hl 0 rfl) ?_
  refine lv_iconst (v := 1) hx hb (dkP dF_4 DL_law (i := 509) rfl rfl) (by decide) ?_
  refine lv_iadd hx hb (dkP dF_96 DL_law (i := 510) rfl rfl) ?_
  refine z_top (y := nI (6 * q + 1)) (by simp only [fa_lit, nI_add]) ?_
  refine va_sld hx hb hX hbl hbA hw.2.2.1 (i := nI (6 * q + 1)) (vp_in_nI (by omega) (by omega)) (dkP dF_46 DL_law (i := 511) rfl rfl) ?_
  refine q_m (As := [.int (xs (nI (6 * q + 1)).toNatClampNeg)]) (rest := []) C0 hRo hw (c_X12_unlike l G kc ad2 σ2 (xs (nI (6 * q + 1)).toNatClampNeg)  hT2) rfl cv_X12_unlike lk_L_94 rfl hl.1 rfl ⟨by decide, by decide⟩ (Nat.le_of_ble_eq_true rfl) (dk2 dF_182 DL_law (i := 512) rfl rfl rfl) ⟨by decide, by decide⟩ (fun r2 s2 H locs hp2 hw => ?_)
  obtain ⟨hT2_, hF2⟩ := hp2
  have hJ2 := hJ2.f hF2 (by decide) (by decide)
  have hT2 := hT2_
  have hB : KB2 σ2 s2 := ⟨fun k => congrFun (hF2.1 2 (by decide) (by decide)) k, fun k => congrFun (hF2.1 3 (by decide) (by decide)) k, fun k hk => hF2.2.2.2 rfl k hk⟩
  have hN : RLb s1 s2 := hR.f hA hB
  refine lv_pop hx hb (dkP dF_87 DL_law (i := 513) rfl rfl) rfl ?_
  refine lv_goto (tgt := 1616) hx hb (dkS dF_167 DL_law (i := 514) rfl rfl rfl) (by decide) ?_
  exact kk _ _ _ _ hT1 hJ1 hT2 hJ2 hN hw
set_option maxRecDepth 100000 in
set_option maxHeartbeats 4000000 in
theorem law_19 (l : Launch) (G : va_G) (kc : KC) {p : Program} {e : Env} {s : State} {m : MethodId} {below : List Frame} {meth : Method} {c : Code} {b L : Nat} {xs : Nat → Int32} (C0 : Cx G kc p s m c #[Value.ref b] cL_law 4 RL) (hRo : RO0 kc (fun q : Nat => s.heap.size ≤ q) s s.heap) (hX : va_X b L xs s s.heap) (hbl : b < s.heap.size) (hL : L ≤ 3072) {ad1 ad2 : Nat → Nat} {q : Nat} (hq : 6 * q + 6 ≤ L) {σ1 σ2 : Sg} (hT1 : TC σ1) (hJ1 : JC σ1) (hT2 : TM σ2) (hJ2 : JM σ2) (hR : RLb σ1 σ2) {H : Heap} {locs : List Loc} {ls : Array Slot} (hw : TW G kc (fun q : Nat => s.heap.size ≤ q) s.heap ad1 σ1 ad2 σ2 H locs) (hl : lv_has ls 4 [(3, .int (nI (6 * q))), (2, .ref (ad2 0)), (1, .ref (ad1 0)), (0, .ref b)]) (kk : ∀ (σ1 σ2 : Sg) (H : Heap) (locs : List Loc), TC σ1 → JC σ1 → TM σ2 → JM σ2 → RLb σ1 σ2 → TW G kc (fun q : Nat => s.heap.size ≤ q) s.heap ad1 σ1 ad2 σ2 H locs → W p l e room_1 s m #[Value.ref b] below meth c H locs 836 1863908 (lw_Z below #[Value.ref b] s) (F0 m 1616 ls [])) : W p l e room_1 s m #[Value.ref b] below meth c H locs 836 1863908 (lw_Z below #[Value.ref b] s) (F0 m 831 ls []) := by
  have hx := C0.1
  have hb := C0.2.1
  have hown := C0.2.2.2.1
  have hts := C0.2.2.2.2.1
  have hbA : ¬ (fun q : Nat => s.heap.size ≤ q) b := Nat.not_le.mpr hbl
  refine lv_aload_n hx hb (dkP dF_43 DL_law (i := 515) rfl rfl) rfl (lv_at hl 2 rfl) ?_
  refine lv_aload_n hx hb (dkP dF_42 DL_law (i := 516) rfl rfl) rfl (lv_at hl 3 rfl) ?_
  refine lv_iload_n hx hb (dkP dF_29 DL_law (i := 517) rfl rfl) rfl (lv_at hl 0 rfl) ?_
  refine lv_iconst (v := 1) hx hb (dkP dF_4 DL_law (i := 518) rfl rfl) (by decide) ?_
  refine lv_iadd hx hb (dkP dF_96 DL_law (i := 519) rfl rfl) ?_
  refine z_top (y := nI (6 * q + 1)) (by simp only [fa_lit, nI_add]) ?_
  refine va_sld hx hb hX hbl hbA hw.2.2.1 (i := nI (6 * q + 1)) (vp_in_nI (by omega) (by omega)) (dkP dF_46 DL_law (i := 520) rfl rfl) ?_
  refine lv_aload_n hx hb (dkP dF_42 DL_law (i := 521) rfl rfl) rfl (lv_at hl 3 rfl) ?_
  refine lv_iload_n hx hb (dkP dF_29 DL_law (i := 522) rfl rfl) rfl (lv_at hl 0 rfl) ?_
  refine lv_iconst (v := 2) hx hb (dkP dF_5 DL_law (i := 523) rfl rfl) (by decide) ?_
  refine lv_iadd hx hb (dkP dF_96 DL_law (i := 524) rfl rfl) ?_
  refine z_top (y := nI (6 * q + 2)) (by simp only [fa_lit, nI_add]) ?_
  refine va_sld hx hb hX hbl hbA hw.2.2.1 (i := nI (6 * q + 2)) (vp_in_nI (by omega) (by omega)) (dkP dF_46 DL_law (i := 525) rfl rfl) ?_
  refine q_x (As := [.int (xs (nI (6 * q + 1)).toNatClampNeg), .int (xs (nI (6 * q + 2)).toNatClampNeg)]) (rest := []) C0 hRo hw (c_X11_parts l G kc ad1 σ1 (xs (nI (6 * q + 1)).toNatClampNeg) (xs (nI (6 * q + 2)).toNatClampNeg) hJ1 hT1) rfl cv_X11_parts lk_L_95 rfl hl.1 rfl ⟨by decide, by decide⟩ (Nat.le_of_ble_eq_true rfl) (dk2 dF_182 DL_law (i := 526) rfl rfl rfl) ⟨by decide, by decide⟩ (fun r1 s1 H locs hp1 hw => ?_)
  obtain ⟨g1_0, hT1_, hF1⟩ := hp1
  have hJ1 := g1_0
  have hT1 := hT1_
  have hA : KA2 σ1 s1 := fun x k hx9 => hF1.1 x k (fun h9 => by rcases hx9 with rfl | rfl | rfl | rfl | rfl | hx9 <;> first | (simp at h9; done) | omega)
  refine lv_pop hx hb (dkP dF_87 DL_law (i := 527) rfl rfl) rfl ?_
  refine lv_aload_n hx hb (dkP dF_44 DL_law (i := 528) rfl rfl) rfl (lv_at hl 1 rfl) ?_
  refine lv_aload_n hx hb (dkP dF_42 DL_law (i := 529) rfl rfl) rfl (lv_at hl 3 rfl) ?_
  refine lv_iload_n hx hb (dkP dF_29 DL_law (i := 530) rfl rfl) rfl (lv_at hl 0 rfl) ?_
  refine lv_iconst (v := 1) hx hb (dkP dF_4 DL_law (i := 531) rfl rfl) (by decide) ?_
  refine lv_iadd hx hb (dkP dF_96 DL_law (i := 532) rfl rfl) ?_
  refine z_top (y := nI (6 * q + 1)) (by simp only [fa_lit, nI_add]) ?_
  refine va_sld hx hb hX hbl hbA hw.2.2.1 (i := nI (6 * q + 1)) (vp_in_nI (by omega) (by omega)) (dkP dF_46 DL_law (i := 533) rfl rfl) ?_
  refine lv_aload_n hx hb (dkP dF_42 DL_law (i := 534) rfl rfl) rfl (lv_at hl 3 rfl) ?_
  refine lv_iload_n hx hb (dkP dF_29 DL_law (i := 535) rfl rfl) rfl (lv_at hl 0 rfl) ?_
  refine lv_iconst (v := 2) hx hb (dkP dF_5 DL_law (i := 536) rfl rfl) (by decide) ?_
  refine lv_iadd hx hb (dkP dF_96 DL_law (i := 537) rfl rfl) ?_
  refine z_top (y := nI (6 * q + 2)) (by simp only [fa_lit, nI_add]) ?_
  refine va_sld hx hb hX hbl hbA hw.2.2.1 (i := nI (6 * q + 2)) (vp_in_nI (by omega) (by omega)) (dkP dF_46 DL_law (i := 538) rfl rfl) ?_
  refine q_m (As := [.int (xs (nI (6 * q + 1)).toNatClampNeg), .int (xs (nI (6 * q + 2)).toNatClampNeg)]) (rest := []) C0 hRo hw (c_X12_parts l G kc ad2 σ2 (xs (nI (6 * q + 1)).toNatClampNeg) (xs (nI (6 * q + 2)).toNatClampNeg)  hT2) rfl cv_X12_parts lk_L_98 rfl hl.1 rfl ⟨by decide, by decide⟩ (Nat.le_of_ble_eq_true rfl) (dk2 dF_182 DL_law (i := 539) rfl rfl rfl) ⟨by decide, by decide⟩ (fun r2 s2 H locs hp2 hw => ?_)
  obtain ⟨hT2_, hF2⟩ := hp2
  have hJ2 := hJ2.f hF2 (by decide) (by decide)
  have hT2 := hT2_
  have hB : KB2 σ2 s2 := ⟨fun k => congrFun (hF2.1 2 (by decide) (by decide)) k, fun k => congrFun (hF2.1 3 (by decide) (by decide)) k, fun k hk => hF2.2.2.2 rfl k hk⟩
  have hN : RLb s1 s2 := hR.f hA hB
  refine lv_pop hx hb (dkP dF_87 DL_law (i := 540) rfl rfl) rfl ?_
  refine lv_goto (tgt := 1616) hx hb (dkS dF_167 DL_law (i := 541) rfl rfl rfl) (by decide) ?_
  exact kk _ _ _ _ hT1 hJ1 hT2 hJ2 hN hw
set_option maxRecDepth 100000 in
set_option maxHeartbeats 4000000 in
theorem law_20 (l : Launch) (G : va_G) (kc : KC) {p : Program} {e : Env} {s : State} {m : MethodId} {below : List Frame} {meth : Method} {c : Code} {b L : Nat} {xs : Nat → Int32} (C0 : Cx G kc p s m c #[Value.ref b] cL_law 4 RL) (hRo : RO0 kc (fun q : Nat => s.heap.size ≤ q) s s.heap) (hX : va_X b L xs s s.heap) (hbl : b < s.heap.size) (hL : L ≤ 3072) {ad1 ad2 : Nat → Nat} {q : Nat} (hq : 6 * q + 6 ≤ L) {σ1 σ2 : Sg} (hT1 : TC σ1) (hJ1 : JC σ1) (hT2 : TM σ2) (hJ2 : JM σ2) (hR : RLb σ1 σ2) {H : Heap} {locs : List Loc} {ls : Array Slot} (hw : TW G kc (fun q : Nat => s.heap.size ≤ q) s.heap ad1 σ1 ad2 σ2 H locs) (hl : lv_has ls 4 [(3, .int (nI (6 * q))), (2, .ref (ad2 0)), (1, .ref (ad1 0)), (0, .ref b)]) (kk : ∀ (σ1 σ2 : Sg) (H : Heap) (locs : List Loc), TC σ1 → JC σ1 → TM σ2 → JM σ2 → RLb σ1 σ2 → TW G kc (fun q : Nat => s.heap.size ≤ q) s.heap ad1 σ1 ad2 σ2 H locs → W p l e room_1 s m #[Value.ref b] below meth c H locs 836 1863908 (lw_Z below #[Value.ref b] s) (F0 m 1616 ls [])) : W p l e room_1 s m #[Value.ref b] below meth c H locs 836 1863908 (lw_Z below #[Value.ref b] s) (F0 m 864 ls []) := by
  have hx := C0.1
  have hb := C0.2.1
  have hown := C0.2.2.2.1
  have hts := C0.2.2.2.2.1
  have hbA : ¬ (fun q : Nat => s.heap.size ≤ q) b := Nat.not_le.mpr hbl
  refine lv_aload_n hx hb (dkP dF_43 DL_law (i := 542) rfl rfl) rfl (lv_at hl 2 rfl) ?_
  refine lv_aload_n hx hb (dkP dF_42 DL_law (i := 543) rfl rfl) rfl (lv_at hl 3 rfl) ?_
  refine lv_iload_n hx hb (dkP dF_29 DL_law (i := 544) rfl rfl) rfl (lv_at hl 0 rfl) ?_
  refine lv_iconst (v := 1) hx hb (dkP dF_4 DL_law (i := 545) rfl rfl) (by decide) ?_
  refine lv_iadd hx hb (dkP dF_96 DL_law (i := 546) rfl rfl) ?_
  refine z_top (y := nI (6 * q + 1)) (by simp only [fa_lit, nI_add]) ?_
  refine va_sld hx hb hX hbl hbA hw.2.2.1 (i := nI (6 * q + 1)) (vp_in_nI (by omega) (by omega)) (dkP dF_46 DL_law (i := 547) rfl rfl) ?_
  refine lv_aload_n hx hb (dkP dF_42 DL_law (i := 548) rfl rfl) rfl (lv_at hl 3 rfl) ?_
  refine lv_iload_n hx hb (dkP dF_29 DL_law (i := 549) rfl rfl) rfl (lv_at hl 0 rfl) ?_
  refine lv_iconst (v := 2) hx hb (dkP dF_5 DL_law (i := 550) rfl rfl) (by decide) ?_
  refine lv_iadd hx hb (dkP dF_96 DL_law (i := 551) rfl rfl) ?_
  refine z_top (y := nI (6 * q + 2)) (by simp only [fa_lit, nI_add]) ?_
  refine va_sld hx hb hX hbl hbA hw.2.2.1 (i := nI (6 * q + 2)) (vp_in_nI (by omega) (by omega)) (dkP dF_46 DL_law (i := 552) rfl rfl) ?_
  refine q_x (As := [.int (xs (nI (6 * q + 1)).toNatClampNeg), .int (xs (nI (6 * q + 2)).toNatClampNeg)]) (rest := []) C0 hRo hw (c_X11_where l G kc ad1 σ1 (xs (nI (6 * q + 1)).toNatClampNeg) (xs (nI (6 * q + 2)).toNatClampNeg) hJ1 hT1) rfl cv_X11_where lk_L_99 rfl hl.1 rfl ⟨by decide, by decide⟩ (Nat.le_of_ble_eq_true rfl) (dk2 dF_182 DL_law (i := 553) rfl rfl rfl) ⟨by decide, by decide⟩ (fun r1 s1 H locs hp1 hw => ?_)
  obtain ⟨g1_0, hT1_, hF1⟩ := hp1
  have hJ1 := g1_0
  have hT1 := hT1_
  have hA : KA2 σ1 s1 := fun x k hx9 => hF1.1 x k (fun h9 => by rcases hx9 with rfl | rfl | rfl | rfl | rfl | hx9 <;> first | (simp at h9; done) | omega)
  refine lv_pop hx hb (dkP dF_87 DL_law (i := 554) rfl rfl) rfl ?_
  refine lv_aload_n hx hb (dkP dF_44 DL_law (i := 555) rfl rfl) rfl (lv_at hl 1 rfl) ?_
  refine lv_aload_n hx hb (dkP dF_42 DL_law (i := 556) rfl rfl) rfl (lv_at hl 3 rfl) ?_
  refine lv_iload_n hx hb (dkP dF_29 DL_law (i := 557) rfl rfl) rfl (lv_at hl 0 rfl) ?_
  refine lv_iconst (v := 1) hx hb (dkP dF_4 DL_law (i := 558) rfl rfl) (by decide) ?_
  refine lv_iadd hx hb (dkP dF_96 DL_law (i := 559) rfl rfl) ?_
  refine z_top (y := nI (6 * q + 1)) (by simp only [fa_lit, nI_add]) ?_
  refine va_sld hx hb hX hbl hbA hw.2.2.1 (i := nI (6 * q + 1)) (vp_in_nI (by omega) (by omega)) (dkP dF_46 DL_law (i := 560) rfl rfl) ?_
  refine lv_aload_n hx hb (dkP dF_42 DL_law (i := 561) rfl rfl) rfl (lv_at hl 3 rfl) ?_
  refine lv_iload_n hx hb (dkP dF_29 DL_law (i := 562) rfl rfl) rfl (lv_at hl 0 rfl) ?_
  refine lv_iconst (v := 2) hx hb (dkP dF_5 DL_law (i := 563) rfl rfl) (by decide) ?_
  refine lv_iadd hx hb (dkP dF_96 DL_law (i := 564) rfl rfl) ?_
  refine z_top (y := nI (6 * q + 2)) (by simp only [fa_lit, nI_add]) ?_
  refine va_sld hx hb hX hbl hbA hw.2.2.1 (i := nI (6 * q + 2)) (vp_in_nI (by omega) (by omega)) (dkP dF_46 DL_law (i := 565) rfl rfl) ?_
  refine q_m (As := [.int (xs (nI (6 * q + 1)).toNatClampNeg), .int (xs (nI (6 * q + 2)).toNatClampNeg)]) (rest := []) C0 hRo hw (c_X12_where l G kc ad2 σ2 (xs (nI (6 * q + 1)).toNatClampNeg) (xs (nI (6 * q + 2)).toNatClampNeg)  hT2) rfl cv_X12_where lk_L_102 rfl hl.1 rfl ⟨by decide, by decide⟩ (Nat.le_of_ble_eq_true rfl) (dk2 dF_182 DL_law (i := 566) rfl rfl rfl) ⟨by decide, by decide⟩ (fun r2 s2 H locs hp2 hw => ?_)
  obtain ⟨hT2_, hF2⟩ := hp2
  have hJ2 := hJ2.f hF2 (by decide) (by decide)
  have hT2 := hT2_
  have hB : KB2 σ2 s2 := ⟨fun k => congrFun (hF2.1 2 (by decide) (by decide)) k, fun k => congrFun (hF2.1 3 (by decide) (by decide)) k, fun k hk => hF2.2.2.2 rfl k hk⟩
  have hN : RLb s1 s2 := hR.f hA hB
  refine lv_pop hx hb (dkP dF_87 DL_law (i := 567) rfl rfl) rfl ?_
  refine lv_goto (tgt := 1616) hx hb (dkS dF_167 DL_law (i := 568) rfl rfl rfl) (by decide) ?_
  exact kk _ _ _ _ hT1 hJ1 hT2 hJ2 hN hw
set_option maxRecDepth 100000 in
set_option maxHeartbeats 4000000 in
theorem law_21 (l : Launch) (G : va_G) (kc : KC) {p : Program} {e : Env} {s : State} {m : MethodId} {below : List Frame} {meth : Method} {c : Code} {b L : Nat} {xs : Nat → Int32} (C0 : Cx G kc p s m c #[Value.ref b] cL_law 4 RL) (hRo : RO0 kc (fun q : Nat => s.heap.size ≤ q) s s.heap) (hX : va_X b L xs s s.heap) (hbl : b < s.heap.size) (hL : L ≤ 3072) {ad1 ad2 : Nat → Nat} {q : Nat} (hq : 6 * q + 6 ≤ L) {σ1 σ2 : Sg} (hT1 : TC σ1) (hJ1 : JC σ1) (hT2 : TM σ2) (hJ2 : JM σ2) (hR : RLb σ1 σ2) {H : Heap} {locs : List Loc} {ls : Array Slot} (hw : TW G kc (fun q : Nat => s.heap.size ≤ q) s.heap ad1 σ1 ad2 σ2 H locs) (hl : lv_has ls 4 [(3, .int (nI (6 * q))), (2, .ref (ad2 0)), (1, .ref (ad1 0)), (0, .ref b)]) (kk : ∀ (σ1 σ2 : Sg) (H : Heap) (locs : List Loc), TC σ1 → JC σ1 → TM σ2 → JM σ2 → RLb σ1 σ2 → TW G kc (fun q : Nat => s.heap.size ≤ q) s.heap ad1 σ1 ad2 σ2 H locs → W p l e room_1 s m #[Value.ref b] below meth c H locs 836 1863908 (lw_Z below #[Value.ref b] s) (F0 m 1616 ls [])) : W p l e room_1 s m #[Value.ref b] below meth c H locs 836 1863908 (lw_Z below #[Value.ref b] s) (F0 m 897 ls []) := by
  have hx := C0.1
  have hb := C0.2.1
  have hown := C0.2.2.2.1
  have hts := C0.2.2.2.2.1
  have hbA : ¬ (fun q : Nat => s.heap.size ≤ q) b := Nat.not_le.mpr hbl
  refine lv_aload_n hx hb (dkP dF_43 DL_law (i := 569) rfl rfl) rfl (lv_at hl 2 rfl) ?_
  refine lv_aload_n hx hb (dkP dF_42 DL_law (i := 570) rfl rfl) rfl (lv_at hl 3 rfl) ?_
  refine lv_iload_n hx hb (dkP dF_29 DL_law (i := 571) rfl rfl) rfl (lv_at hl 0 rfl) ?_
  refine lv_iconst (v := 1) hx hb (dkP dF_4 DL_law (i := 572) rfl rfl) (by decide) ?_
  refine lv_iadd hx hb (dkP dF_96 DL_law (i := 573) rfl rfl) ?_
  refine z_top (y := nI (6 * q + 1)) (by simp only [fa_lit, nI_add]) ?_
  refine va_sld hx hb hX hbl hbA hw.2.2.1 (i := nI (6 * q + 1)) (vp_in_nI (by omega) (by omega)) (dkP dF_46 DL_law (i := 574) rfl rfl) ?_
  refine lv_aload_n hx hb (dkP dF_42 DL_law (i := 575) rfl rfl) rfl (lv_at hl 3 rfl) ?_
  refine lv_iload_n hx hb (dkP dF_29 DL_law (i := 576) rfl rfl) rfl (lv_at hl 0 rfl) ?_
  refine lv_iconst (v := 2) hx hb (dkP dF_5 DL_law (i := 577) rfl rfl) (by decide) ?_
  refine lv_iadd hx hb (dkP dF_96 DL_law (i := 578) rfl rfl) ?_
  refine z_top (y := nI (6 * q + 2)) (by simp only [fa_lit, nI_add]) ?_
  refine va_sld hx hb hX hbl hbA hw.2.2.1 (i := nI (6 * q + 2)) (vp_in_nI (by omega) (by omega)) (dkP dF_46 DL_law (i := 579) rfl rfl) ?_
  refine q_x (As := [.int (xs (nI (6 * q + 1)).toNatClampNeg), .int (xs (nI (6 * q + 2)).toNatClampNeg)]) (rest := []) C0 hRo hw (c_X11_night l G kc ad1 σ1 (xs (nI (6 * q + 1)).toNatClampNeg) (xs (nI (6 * q + 2)).toNatClampNeg) hJ1 hT1) rfl cv_X11_night lk_L_103 rfl hl.1 rfl ⟨by decide, by decide⟩ (Nat.le_of_ble_eq_true rfl) (dk2 dF_182 DL_law (i := 580) rfl rfl rfl) ⟨by decide, by decide⟩ (fun r1 s1 H locs hp1 hw => ?_)
  obtain ⟨g1_0, hT1_, hF1⟩ := hp1
  have hJ1 := g1_0
  have hT1 := hT1_
  have hA : KA2 σ1 s1 := fun x k hx9 => hF1.1 x k (fun h9 => by rcases hx9 with rfl | rfl | rfl | rfl | rfl | hx9 <;> first | (simp at h9; done) | omega)
  refine lv_pop hx hb (dkP dF_87 DL_law (i := 581) rfl rfl) rfl ?_
  refine lv_aload_n hx hb (dkP dF_44 DL_law (i := 582) rfl rfl) rfl (lv_at hl 1 rfl) ?_
  refine lv_aload_n hx hb (dkP dF_42 DL_law (i := 583) rfl rfl) rfl (lv_at hl 3 rfl) ?_
  refine lv_iload_n hx hb (dkP dF_29 DL_law (i := 584) rfl rfl) rfl (lv_at hl 0 rfl) ?_
  refine lv_iconst (v := 1) hx hb (dkP dF_4 DL_law (i := 585) rfl rfl) (by decide) ?_
  refine lv_iadd hx hb (dkP dF_96 DL_law (i := 586) rfl rfl) ?_
  refine z_top (y := nI (6 * q + 1)) (by simp only [fa_lit, nI_add]) ?_
  refine va_sld hx hb hX hbl hbA hw.2.2.1 (i := nI (6 * q + 1)) (vp_in_nI (by omega) (by omega)) (dkP dF_46 DL_law (i := 587) rfl rfl) ?_
  refine lv_aload_n hx hb (dkP dF_42 DL_law (i := 588) rfl rfl) rfl (lv_at hl 3 rfl) ?_
  refine lv_iload_n hx hb (dkP dF_29 DL_law (i := 589) rfl rfl) rfl (lv_at hl 0 rfl) ?_
  refine lv_iconst (v := 2) hx hb (dkP dF_5 DL_law (i := 590) rfl rfl) (by decide) ?_
  refine lv_iadd hx hb (dkP dF_96 DL_law (i := 591) rfl rfl) ?_
  refine z_top (y := nI (6 * q + 2)) (by simp only [fa_lit, nI_add]) ?_
  refine va_sld hx hb hX hbl hbA hw.2.2.1 (i := nI (6 * q + 2)) (vp_in_nI (by omega) (by omega)) (dkP dF_46 DL_law (i := 592) rfl rfl) ?_
  refine q_m (As := [.int (xs (nI (6 * q + 1)).toNatClampNeg), .int (xs (nI (6 * q + 2)).toNatClampNeg)]) (rest := []) C0 hRo hw (c_X12_night l G kc ad2 σ2 (xs (nI (6 * q + 1)).toNatClampNeg) (xs (nI (6 * q + 2)).toNatClampNeg)  hT2) rfl cv_X12_night lk_L_106 rfl hl.1 rfl ⟨by decide, by decide⟩ (Nat.le_of_ble_eq_true rfl) (dk2 dF_182 DL_law (i := 593) rfl rfl rfl) ⟨by decide, by decide⟩ (fun r2 s2 H locs hp2 hw => ?_)
  obtain ⟨hT2_, hF2⟩ := hp2
  have hJ2 := hJ2.f hF2 (by decide) (by decide)
  have hT2 := hT2_
  have hB : KB2 σ2 s2 := ⟨fun k => congrFun (hF2.1 2 (by decide) (by decide)) k, fun k => congrFun (hF2.1 3 (by decide) (by decide)) k, fun k hk => hF2.2.2.2 rfl k hk⟩
  have hN : RLb s1 s2 := hR.f hA hB
  refine lv_pop hx hb (dkP dF_87 DL_law (i := 594) rfl rfl) rfl ?_
  refine lv_goto (tgt := 1616) hx hb (dkS dF_167 DL_law (i := 595) rfl rfl rfl) (by decide) ?_
  exact kk _ _ _ _ hT1 hJ1 hT2 hJ2 hN hw
set_option maxRecDepth 100000 in
set_option maxHeartbeats 4000000 in
theorem law_22 (l : Launch) (G : va_G) (kc : KC) {p : Program} {e : Env} {s : State} {m : MethodId} {below : List Frame} {meth : Method} {c : Code} {b L : Nat} {xs : Nat → Int32} (C0 : Cx G kc p s m c #[Value.ref b] cL_law 4 RL) (hRo : RO0 kc (fun q : Nat => s.heap.size ≤ q) s s.heap) (hX : va_X b L xs s s.heap) (hbl : b < s.heap.size) (hL : L ≤ 3072) {ad1 ad2 : Nat → Nat} {q : Nat} (hq : 6 * q + 6 ≤ L) {σ1 σ2 : Sg} (hT1 : TC σ1) (hJ1 : JC σ1) (hT2 : TM σ2) (hJ2 : JM σ2) (hR : RLb σ1 σ2) {H : Heap} {locs : List Loc} {ls : Array Slot} (hw : TW G kc (fun q : Nat => s.heap.size ≤ q) s.heap ad1 σ1 ad2 σ2 H locs) (hl : lv_has ls 4 [(3, .int (nI (6 * q))), (2, .ref (ad2 0)), (1, .ref (ad1 0)), (0, .ref b)]) (kk : ∀ (σ1 σ2 : Sg) (H : Heap) (locs : List Loc), TC σ1 → JC σ1 → TM σ2 → JM σ2 → RLb σ1 σ2 → TW G kc (fun q : Nat => s.heap.size ≤ q) s.heap ad1 σ1 ad2 σ2 H locs → W p l e room_1 s m #[Value.ref b] below meth c H locs 836 1863908 (lw_Z below #[Value.ref b] s) (F0 m 1616 ls [])) : W p l e room_1 s m #[Value.ref b] below meth c H locs 836 1863908 (lw_Z below #[Value.ref b] s) (F0 m 930 ls []) := by
  have hx := C0.1
  have hb := C0.2.1
  have hown := C0.2.2.2.1
  have hts := C0.2.2.2.2.1
  have hbA : ¬ (fun q : Nat => s.heap.size ≤ q) b := Nat.not_le.mpr hbl
  refine lv_aload_n hx hb (dkP dF_43 DL_law (i := 596) rfl rfl) rfl (lv_at hl 2 rfl) ?_
  refine q_x (As := []) (rest := []) C0 hRo hw (c_X11_heaps l G kc ad1 σ1  hJ1 hT1) rfl cv_X11_heaps lk_L_107 rfl hl.1 rfl ⟨by decide, by decide⟩ (Nat.le_of_ble_eq_true rfl) (dk2 dF_182 DL_law (i := 597) rfl rfl rfl) ⟨by decide, by decide⟩ (fun r1 s1 H locs hp1 hw => ?_)
  obtain ⟨g1_0, es1⟩ := hp1
  rw [es1] at hw
  have hA : KA2 σ1 s1 := fun x k _ => by rw [es1]
  refine lv_pop hx hb (dkP dF_87 DL_law (i := 598) rfl rfl) rfl ?_
  refine lv_aload_n hx hb (dkP dF_44 DL_law (i := 599) rfl rfl) rfl (lv_at hl 1 rfl) ?_
  refine q_m (As := []) (rest := []) C0 hRo hw (c_X12_heaps_ l G kc ad2 σ2   hT2) rfl cv_X12_heaps_ lk_L_110 rfl hl.1 rfl ⟨by decide, by decide⟩ (Nat.le_of_ble_eq_true rfl) (dk2 dF_182 DL_law (i := 600) rfl rfl rfl) ⟨by decide, by decide⟩ (fun r2 s2 H locs hp2 hw => ?_)
  have es2 := hp2
  rw [es2] at hw
  have hB : KB2 σ2 s2 := ⟨fun k => by rw [es2], fun k => by rw [es2], fun k _ => by rw [es2]⟩
  have hN : RLb s1 s2 := hR.f hA hB
  rw [es1] at hN
  rw [es2] at hN
  refine lv_pop hx hb (dkP dF_87 DL_law (i := 601) rfl rfl) rfl ?_
  refine lv_goto (tgt := 1616) hx hb (dkS dF_167 DL_law (i := 602) rfl rfl rfl) (by decide) ?_
  exact kk _ _ _ _ hT1 hJ1 hT2 hJ2 hN hw
set_option maxRecDepth 100000 in
set_option maxHeartbeats 4000000 in
theorem law_23 (l : Launch) (G : va_G) (kc : KC) {p : Program} {e : Env} {s : State} {m : MethodId} {below : List Frame} {meth : Method} {c : Code} {b L : Nat} {xs : Nat → Int32} (C0 : Cx G kc p s m c #[Value.ref b] cL_law 4 RL) (hRo : RO0 kc (fun q : Nat => s.heap.size ≤ q) s s.heap) (hX : va_X b L xs s s.heap) (hbl : b < s.heap.size) (hL : L ≤ 3072) {ad1 ad2 : Nat → Nat} {q : Nat} (hq : 6 * q + 6 ≤ L) {σ1 σ2 : Sg} (hT1 : TC σ1) (hJ1 : JC σ1) (hT2 : TM σ2) (hJ2 : JM σ2) (hR : RLb σ1 σ2) {H : Heap} {locs : List Loc} {ls : Array Slot} (hw : TW G kc (fun q : Nat => s.heap.size ≤ q) s.heap ad1 σ1 ad2 σ2 H locs) (hl : lv_has ls 4 [(3, .int (nI (6 * q))), (2, .ref (ad2 0)), (1, .ref (ad1 0)), (0, .ref b)]) (kk : ∀ (σ1 σ2 : Sg) (H : Heap) (locs : List Loc), TC σ1 → JC σ1 → TM σ2 → JM σ2 → RLb σ1 σ2 → TW G kc (fun q : Nat => s.heap.size ≤ q) s.heap ad1 σ1 ad2 σ2 H locs → W p l e room_1 s m #[Value.ref b] below meth c H locs 836 1863908 (lw_Z below #[Value.ref b] s) (F0 m 1616 ls [])) : W p l e room_1 s m #[Value.ref b] below meth c H locs 836 1863908 (lw_Z below #[Value.ref b] s) (F0 m 943 ls []) := by
  have hx := C0.1
  have hb := C0.2.1
  have hown := C0.2.2.2.1
  have hts := C0.2.2.2.2.1
  have hbA : ¬ (fun q : Nat => s.heap.size ≤ q) b := Nat.not_le.mpr hbl
  refine lv_aload_n hx hb (dkP dF_43 DL_law (i := 603) rfl rfl) rfl (lv_at hl 2 rfl) ?_
  refine lv_aload_n hx hb (dkP dF_42 DL_law (i := 604) rfl rfl) rfl (lv_at hl 3 rfl) ?_
  refine lv_iload_n hx hb (dkP dF_29 DL_law (i := 605) rfl rfl) rfl (lv_at hl 0 rfl) ?_
  refine lv_iconst (v := 1) hx hb (dkP dF_4 DL_law (i := 606) rfl rfl) (by decide) ?_
  refine lv_iadd hx hb (dkP dF_96 DL_law (i := 607) rfl rfl) ?_
  refine z_top (y := nI (6 * q + 1)) (by simp only [fa_lit, nI_add]) ?_
  refine va_sld hx hb hX hbl hbA hw.2.2.1 (i := nI (6 * q + 1)) (vp_in_nI (by omega) (by omega)) (dkP dF_46 DL_law (i := 608) rfl rfl) ?_
  refine lv_aload_n hx hb (dkP dF_42 DL_law (i := 609) rfl rfl) rfl (lv_at hl 3 rfl) ?_
  refine lv_iload_n hx hb (dkP dF_29 DL_law (i := 610) rfl rfl) rfl (lv_at hl 0 rfl) ?_
  refine lv_iconst (v := 2) hx hb (dkP dF_5 DL_law (i := 611) rfl rfl) (by decide) ?_
  refine lv_iadd hx hb (dkP dF_96 DL_law (i := 612) rfl rfl) ?_
  refine z_top (y := nI (6 * q + 2)) (by simp only [fa_lit, nI_add]) ?_
  refine va_sld hx hb hX hbl hbA hw.2.2.1 (i := nI (6 * q + 2)) (vp_in_nI (by omega) (by omega)) (dkP dF_46 DL_law (i := 613) rfl rfl) ?_
  refine q_x (As := [.int (xs (nI (6 * q + 1)).toNatClampNeg), .int (xs (nI (6 * q + 2)).toNatClampNeg)]) (rest := []) C0 hRo hw (c_X11_heap l G kc ad1 σ1 (xs (nI (6 * q + 1)).toNatClampNeg) (xs (nI (6 * q + 2)).toNatClampNeg) hJ1 hT1) rfl cv_X11_heap lk_L_111 rfl hl.1 rfl ⟨by decide, by decide⟩ (Nat.le_of_ble_eq_true rfl) (dk2 dF_182 DL_law (i := 614) rfl rfl rfl) ⟨by decide, by decide⟩ (fun r1 s1 H locs hp1 hw => ?_)
  obtain ⟨g1_0, es1⟩ := hp1
  rw [es1] at hw
  have hA : KA2 σ1 s1 := fun x k _ => by rw [es1]
  refine lv_pop hx hb (dkP dF_87 DL_law (i := 615) rfl rfl) rfl ?_
  refine lv_aload_n hx hb (dkP dF_44 DL_law (i := 616) rfl rfl) rfl (lv_at hl 1 rfl) ?_
  refine lv_aload_n hx hb (dkP dF_42 DL_law (i := 617) rfl rfl) rfl (lv_at hl 3 rfl) ?_
  refine lv_iload_n hx hb (dkP dF_29 DL_law (i := 618) rfl rfl) rfl (lv_at hl 0 rfl) ?_
  refine lv_iconst (v := 1) hx hb (dkP dF_4 DL_law (i := 619) rfl rfl) (by decide) ?_
  refine lv_iadd hx hb (dkP dF_96 DL_law (i := 620) rfl rfl) ?_
  refine z_top (y := nI (6 * q + 1)) (by simp only [fa_lit, nI_add]) ?_
  refine va_sld hx hb hX hbl hbA hw.2.2.1 (i := nI (6 * q + 1)) (vp_in_nI (by omega) (by omega)) (dkP dF_46 DL_law (i := 621) rfl rfl) ?_
  refine lv_aload_n hx hb (dkP dF_42 DL_law (i := 622) rfl rfl) rfl (lv_at hl 3 rfl) ?_
  refine lv_iload_n hx hb (dkP dF_29 DL_law (i := 623) rfl rfl) rfl (lv_at hl 0 rfl) ?_
  refine lv_iconst (v := 2) hx hb (dkP dF_5 DL_law (i := 624) rfl rfl) (by decide) ?_
  refine lv_iadd hx hb (dkP dF_96 DL_law (i := 625) rfl rfl) ?_
  refine z_top (y := nI (6 * q + 2)) (by simp only [fa_lit, nI_add]) ?_
  refine va_sld hx hb hX hbl hbA hw.2.2.1 (i := nI (6 * q + 2)) (vp_in_nI (by omega) (by omega)) (dkP dF_46 DL_law (i := 626) rfl rfl) ?_
  refine q_m (As := [.int (xs (nI (6 * q + 1)).toNatClampNeg), .int (xs (nI (6 * q + 2)).toNatClampNeg)]) (rest := []) C0 hRo hw (c_X12_heap l G kc ad2 σ2 (xs (nI (6 * q + 1)).toNatClampNeg) (xs (nI (6 * q + 2)).toNatClampNeg)  hT2) rfl cv_X12_heap lk_L_114 rfl hl.1 rfl ⟨by decide, by decide⟩ (Nat.le_of_ble_eq_true rfl) (dk2 dF_182 DL_law (i := 627) rfl rfl rfl) ⟨by decide, by decide⟩ (fun r2 s2 H locs hp2 hw => ?_)
  have es2 := hp2
  rw [es2] at hw
  have hB : KB2 σ2 s2 := ⟨fun k => by rw [es2], fun k => by rw [es2], fun k _ => by rw [es2]⟩
  have hN : RLb s1 s2 := hR.f hA hB
  rw [es1] at hN
  rw [es2] at hN
  refine lv_pop hx hb (dkP dF_87 DL_law (i := 628) rfl rfl) rfl ?_
  refine lv_goto (tgt := 1616) hx hb (dkS dF_167 DL_law (i := 629) rfl rfl rfl) (by decide) ?_
  exact kk _ _ _ _ hT1 hJ1 hT2 hJ2 hN hw
set_option maxRecDepth 100000 in
set_option maxHeartbeats 4000000 in
theorem law_24 (l : Launch) (G : va_G) (kc : KC) {p : Program} {e : Env} {s : State} {m : MethodId} {below : List Frame} {meth : Method} {c : Code} {b L : Nat} {xs : Nat → Int32} (C0 : Cx G kc p s m c #[Value.ref b] cL_law 4 RL) (hRo : RO0 kc (fun q : Nat => s.heap.size ≤ q) s s.heap) (hX : va_X b L xs s s.heap) (hbl : b < s.heap.size) (hL : L ≤ 3072) {ad1 ad2 : Nat → Nat} {q : Nat} (hq : 6 * q + 6 ≤ L) {σ1 σ2 : Sg} (hT1 : TC σ1) (hJ1 : JC σ1) (hT2 : TM σ2) (hJ2 : JM σ2) (hR : RLb σ1 σ2) {H : Heap} {locs : List Loc} {ls : Array Slot} (hw : TW G kc (fun q : Nat => s.heap.size ≤ q) s.heap ad1 σ1 ad2 σ2 H locs) (hl : lv_has ls 4 [(3, .int (nI (6 * q))), (2, .ref (ad2 0)), (1, .ref (ad1 0)), (0, .ref b)]) (kk : ∀ (σ1 σ2 : Sg) (H : Heap) (locs : List Loc), TC σ1 → JC σ1 → TM σ2 → JM σ2 → RLb σ1 σ2 → TW G kc (fun q : Nat => s.heap.size ≤ q) s.heap ad1 σ1 ad2 σ2 H locs → W p l e room_1 s m #[Value.ref b] below meth c H locs 836 1863908 (lw_Z below #[Value.ref b] s) (F0 m 1616 ls [])) : W p l e room_1 s m #[Value.ref b] below meth c H locs 836 1863908 (lw_Z below #[Value.ref b] s) (F0 m 976 ls []) := by
  have hx := C0.1
  have hb := C0.2.1
  have hown := C0.2.2.2.1
  have hts := C0.2.2.2.2.1
  have hbA : ¬ (fun q : Nat => s.heap.size ≤ q) b := Nat.not_le.mpr hbl
  refine lv_aload_n hx hb (dkP dF_43 DL_law (i := 630) rfl rfl) rfl (lv_at hl 2 rfl) ?_
  refine lv_aload_n hx hb (dkP dF_42 DL_law (i := 631) rfl rfl) rfl (lv_at hl 3 rfl) ?_
  refine lv_iload_n hx hb (dkP dF_29 DL_law (i := 632) rfl rfl) rfl (lv_at hl 0 rfl) ?_
  refine lv_iconst (v := 1) hx hb (dkP dF_4 DL_law (i := 633) rfl rfl) (by decide) ?_
  refine lv_iadd hx hb (dkP dF_96 DL_law (i := 634) rfl rfl) ?_
  refine z_top (y := nI (6 * q + 1)) (by simp only [fa_lit, nI_add]) ?_
  refine va_sld hx hb hX hbl hbA hw.2.2.1 (i := nI (6 * q + 1)) (vp_in_nI (by omega) (by omega)) (dkP dF_46 DL_law (i := 635) rfl rfl) ?_
  refine lv_aload_n hx hb (dkP dF_42 DL_law (i := 636) rfl rfl) rfl (lv_at hl 3 rfl) ?_
  refine lv_iload_n hx hb (dkP dF_29 DL_law (i := 637) rfl rfl) rfl (lv_at hl 0 rfl) ?_
  refine lv_iconst (v := 2) hx hb (dkP dF_5 DL_law (i := 638) rfl rfl) (by decide) ?_
  refine lv_iadd hx hb (dkP dF_96 DL_law (i := 639) rfl rfl) ?_
  refine z_top (y := nI (6 * q + 2)) (by simp only [fa_lit, nI_add]) ?_
  refine va_sld hx hb hX hbl hbA hw.2.2.1 (i := nI (6 * q + 2)) (vp_in_nI (by omega) (by omega)) (dkP dF_46 DL_law (i := 640) rfl rfl) ?_
  refine q_x (As := [.int (xs (nI (6 * q + 1)).toNatClampNeg), .int (xs (nI (6 * q + 2)).toNatClampNeg)]) (rest := []) C0 hRo hw (c_X11_judge l G kc ad1 σ1 (xs (nI (6 * q + 1)).toNatClampNeg) (xs (nI (6 * q + 2)).toNatClampNeg) hJ1 hT1) rfl cv_X11_judge lk_L_115 rfl hl.1 rfl ⟨by decide, by decide⟩ (Nat.le_of_ble_eq_true rfl) (dk2 dF_182 DL_law (i := 641) rfl rfl rfl) ⟨by decide, by decide⟩ (fun r1 s1 H locs hp1 hw => ?_)
  obtain ⟨g1_0, hT1_, hF1⟩ := hp1
  have hJ1 := g1_0
  have hT1 := hT1_
  have hA : KA2 σ1 s1 := fun x k hx9 => hF1.1 x k (fun h9 => by rcases hx9 with rfl | rfl | rfl | rfl | rfl | hx9 <;> first | (simp at h9; done) | omega)
  refine lv_pop hx hb (dkP dF_87 DL_law (i := 642) rfl rfl) rfl ?_
  refine lv_aload_n hx hb (dkP dF_44 DL_law (i := 643) rfl rfl) rfl (lv_at hl 1 rfl) ?_
  refine lv_aload_n hx hb (dkP dF_42 DL_law (i := 644) rfl rfl) rfl (lv_at hl 3 rfl) ?_
  refine lv_iload_n hx hb (dkP dF_29 DL_law (i := 645) rfl rfl) rfl (lv_at hl 0 rfl) ?_
  refine lv_iconst (v := 1) hx hb (dkP dF_4 DL_law (i := 646) rfl rfl) (by decide) ?_
  refine lv_iadd hx hb (dkP dF_96 DL_law (i := 647) rfl rfl) ?_
  refine z_top (y := nI (6 * q + 1)) (by simp only [fa_lit, nI_add]) ?_
  refine va_sld hx hb hX hbl hbA hw.2.2.1 (i := nI (6 * q + 1)) (vp_in_nI (by omega) (by omega)) (dkP dF_46 DL_law (i := 648) rfl rfl) ?_
  refine lv_aload_n hx hb (dkP dF_42 DL_law (i := 649) rfl rfl) rfl (lv_at hl 3 rfl) ?_
  refine lv_iload_n hx hb (dkP dF_29 DL_law (i := 650) rfl rfl) rfl (lv_at hl 0 rfl) ?_
  refine lv_iconst (v := 2) hx hb (dkP dF_5 DL_law (i := 651) rfl rfl) (by decide) ?_
  refine lv_iadd hx hb (dkP dF_96 DL_law (i := 652) rfl rfl) ?_
  refine z_top (y := nI (6 * q + 2)) (by simp only [fa_lit, nI_add]) ?_
  refine va_sld hx hb hX hbl hbA hw.2.2.1 (i := nI (6 * q + 2)) (vp_in_nI (by omega) (by omega)) (dkP dF_46 DL_law (i := 653) rfl rfl) ?_
  refine q_m (As := [.int (xs (nI (6 * q + 1)).toNatClampNeg), .int (xs (nI (6 * q + 2)).toNatClampNeg)]) (rest := []) C0 hRo hw (c_X12_judge l G kc ad2 σ2 (xs (nI (6 * q + 1)).toNatClampNeg) (xs (nI (6 * q + 2)).toNatClampNeg)  hT2) rfl cv_X12_judge lk_L_118 rfl hl.1 rfl ⟨by decide, by decide⟩ (Nat.le_of_ble_eq_true rfl) (dk2 dF_182 DL_law (i := 654) rfl rfl rfl) ⟨by decide, by decide⟩ (fun r2 s2 H locs hp2 hw => ?_)
  obtain ⟨hT2_, hF2⟩ := hp2
  have hJ2 := hJ2.f hF2 (by decide) (by decide)
  have hT2 := hT2_
  have hB : KB2 σ2 s2 := ⟨fun k => congrFun (hF2.1 2 (by decide) (by decide)) k, fun k => congrFun (hF2.1 3 (by decide) (by decide)) k, fun k hk => hF2.2.2.2 rfl k hk⟩
  have hN : RLb s1 s2 := hR.f hA hB
  refine lv_pop hx hb (dkP dF_87 DL_law (i := 655) rfl rfl) rfl ?_
  refine lv_goto (tgt := 1616) hx hb (dkS dF_167 DL_law (i := 656) rfl rfl rfl) (by decide) ?_
  exact kk _ _ _ _ hT1 hJ1 hT2 hJ2 hN hw
set_option maxRecDepth 100000 in
set_option maxHeartbeats 4000000 in
theorem law_25 (l : Launch) (G : va_G) (kc : KC) {p : Program} {e : Env} {s : State} {m : MethodId} {below : List Frame} {meth : Method} {c : Code} {b L : Nat} {xs : Nat → Int32} (C0 : Cx G kc p s m c #[Value.ref b] cL_law 4 RL) (hRo : RO0 kc (fun q : Nat => s.heap.size ≤ q) s s.heap) (hX : va_X b L xs s s.heap) (hbl : b < s.heap.size) (hL : L ≤ 3072) {ad1 ad2 : Nat → Nat} {q : Nat} (hq : 6 * q + 6 ≤ L) {σ1 σ2 : Sg} (hT1 : TC σ1) (hJ1 : JC σ1) (hT2 : TM σ2) (hJ2 : JM σ2) (hR : RLb σ1 σ2) {H : Heap} {locs : List Loc} {ls : Array Slot} (hw : TW G kc (fun q : Nat => s.heap.size ≤ q) s.heap ad1 σ1 ad2 σ2 H locs) (hl : lv_has ls 4 [(3, .int (nI (6 * q))), (2, .ref (ad2 0)), (1, .ref (ad1 0)), (0, .ref b)]) (kk : ∀ (σ1 σ2 : Sg) (H : Heap) (locs : List Loc), TC σ1 → JC σ1 → TM σ2 → JM σ2 → RLb σ1 σ2 → TW G kc (fun q : Nat => s.heap.size ≤ q) s.heap ad1 σ1 ad2 σ2 H locs → W p l e room_1 s m #[Value.ref b] below meth c H locs 836 1863908 (lw_Z below #[Value.ref b] s) (F0 m 1616 ls [])) : W p l e room_1 s m #[Value.ref b] below meth c H locs 836 1863908 (lw_Z below #[Value.ref b] s) (F0 m 1009 ls []) := by
  have hx := C0.1
  have hb := C0.2.1
  have hown := C0.2.2.2.1
  have hts := C0.2.2.2.2.1
  have hbA : ¬ (fun q : Nat => s.heap.size ≤ q) b := Nat.not_le.mpr hbl
  refine lv_aload_n hx hb (dkP dF_43 DL_law (i := 657) rfl rfl) rfl (lv_at hl 2 rfl) ?_
  refine lv_aload_n hx hb (dkP dF_42 DL_law (i := 658) rfl rfl) rfl (lv_at hl 3 rfl) ?_
  refine lv_iload_n hx hb (dkP dF_29 DL_law (i := 659) rfl rfl) rfl (lv_at hl 0 rfl) ?_
  refine lv_iconst (v := 1) hx hb (dkP dF_4 DL_law (i := 660) rfl rfl) (by decide) ?_
  refine lv_iadd hx hb (dkP dF_96 DL_law (i := 661) rfl rfl) ?_
  refine z_top (y := nI (6 * q + 1)) (by simp only [fa_lit, nI_add]) ?_
  refine va_sld hx hb hX hbl hbA hw.2.2.1 (i := nI (6 * q + 1)) (vp_in_nI (by omega) (by omega)) (dkP dF_46 DL_law (i := 662) rfl rfl) ?_
  refine lv_aload_n hx hb (dkP dF_42 DL_law (i := 663) rfl rfl) rfl (lv_at hl 3 rfl) ?_
  refine lv_iload_n hx hb (dkP dF_29 DL_law (i := 664) rfl rfl) rfl (lv_at hl 0 rfl) ?_
  refine lv_iconst (v := 2) hx hb (dkP dF_5 DL_law (i := 665) rfl rfl) (by decide) ?_
  refine lv_iadd hx hb (dkP dF_96 DL_law (i := 666) rfl rfl) ?_
  refine z_top (y := nI (6 * q + 2)) (by simp only [fa_lit, nI_add]) ?_
  refine va_sld hx hb hX hbl hbA hw.2.2.1 (i := nI (6 * q + 2)) (vp_in_nI (by omega) (by omega)) (dkP dF_46 DL_law (i := 667) rfl rfl) ?_
  refine lv_aload_n hx hb (dkP dF_42 DL_law (i := 668) rfl rfl) rfl (lv_at hl 3 rfl) ?_
  refine lv_iload_n hx hb (dkP dF_29 DL_law (i := 669) rfl rfl) rfl (lv_at hl 0 rfl) ?_
  refine lv_iconst (v := 3) hx hb (dkP dF_6 DL_law (i := 670) rfl rfl) (by decide) ?_
  refine lv_iadd hx hb (dkP dF_96 DL_law (i := 671) rfl rfl) ?_
  refine z_top (y := nI (6 * q + 3)) (by simp only [fa_lit, nI_add]) ?_
  refine va_sld hx hb hX hbl hbA hw.2.2.1 (i := nI (6 * q + 3)) (vp_in_nI (by omega) (by omega)) (dkP dF_46 DL_law (i := 672) rfl rfl) ?_
  refine q_x (As := [.int (xs (nI (6 * q + 1)).toNatClampNeg), .int (xs (nI (6 * q + 2)).toNatClampNeg), .int (xs (nI (6 * q + 3)).toNatClampNeg)]) (rest := []) C0 hRo hw (c_X11_calls_w l G kc ad1 σ1 (xs (nI (6 * q + 1)).toNatClampNeg) (xs (nI (6 * q + 2)).toNatClampNeg) (xs (nI (6 * q + 3)).toNatClampNeg) hJ1 hT1) rfl cv_X11_calls lk_L_119 rfl hl.1 rfl ⟨by decide, by decide⟩ (Nat.le_of_ble_eq_true rfl) (dk2 dF_182 DL_law (i := 673) rfl rfl rfl) ⟨by decide, by decide⟩ (fun r1 s1 H locs hp1 hw => ?_)
  obtain ⟨g1_0, g1_1, hT1_, hF1⟩ := hp1
  have hJ1 := g1_1
  have hT1 := hT1_
  refine lv_aload_n hx hb (dkP dF_44 DL_law (i := 674) rfl rfl) rfl (lv_at hl 1 rfl) ?_
  refine lv_aload_n hx hb (dkP dF_42 DL_law (i := 675) rfl rfl) rfl (lv_at hl 3 rfl) ?_
  refine lv_iload_n hx hb (dkP dF_29 DL_law (i := 676) rfl rfl) rfl (lv_at hl 0 rfl) ?_
  refine lv_iconst (v := 1) hx hb (dkP dF_4 DL_law (i := 677) rfl rfl) (by decide) ?_
  refine lv_iadd hx hb (dkP dF_96 DL_law (i := 678) rfl rfl) ?_
  refine z_top (y := nI (6 * q + 1)) (by simp only [fa_lit, nI_add]) ?_
  refine va_sld hx hb hX hbl hbA hw.2.2.1 (i := nI (6 * q + 1)) (vp_in_nI (by omega) (by omega)) (dkP dF_46 DL_law (i := 679) rfl rfl) ?_
  refine lv_aload_n hx hb (dkP dF_42 DL_law (i := 680) rfl rfl) rfl (lv_at hl 3 rfl) ?_
  refine lv_iload_n hx hb (dkP dF_29 DL_law (i := 681) rfl rfl) rfl (lv_at hl 0 rfl) ?_
  refine lv_iconst (v := 2) hx hb (dkP dF_5 DL_law (i := 682) rfl rfl) (by decide) ?_
  refine lv_iadd hx hb (dkP dF_96 DL_law (i := 683) rfl rfl) ?_
  refine z_top (y := nI (6 * q + 2)) (by simp only [fa_lit, nI_add]) ?_
  refine va_sld hx hb hX hbl hbA hw.2.2.1 (i := nI (6 * q + 2)) (vp_in_nI (by omega) (by omega)) (dkP dF_46 DL_law (i := 684) rfl rfl) ?_
  refine lv_aload_n hx hb (dkP dF_42 DL_law (i := 685) rfl rfl) rfl (lv_at hl 3 rfl) ?_
  refine lv_iload_n hx hb (dkP dF_29 DL_law (i := 686) rfl rfl) rfl (lv_at hl 0 rfl) ?_
  refine lv_iconst (v := 3) hx hb (dkP dF_6 DL_law (i := 687) rfl rfl) (by decide) ?_
  refine lv_iadd hx hb (dkP dF_96 DL_law (i := 688) rfl rfl) ?_
  refine z_top (y := nI (6 * q + 3)) (by simp only [fa_lit, nI_add]) ?_
  refine va_sld hx hb hX hbl hbA hw.2.2.1 (i := nI (6 * q + 3)) (vp_in_nI (by omega) (by omega)) (dkP dF_46 DL_law (i := 689) rfl rfl) ?_
  refine q_m (As := [.int (xs (nI (6 * q + 1)).toNatClampNeg), .int (xs (nI (6 * q + 2)).toNatClampNeg), .int (xs (nI (6 * q + 3)).toNatClampNeg)]) (rest := [.int (r1)]) C0 hRo hw (c_X12_calls_w l G kc ad2 σ2 (xs (nI (6 * q + 1)).toNatClampNeg) (xs (nI (6 * q + 2)).toNatClampNeg) (xs (nI (6 * q + 3)).toNatClampNeg)  hT2) rfl cv_X12_calls lk_L_122 rfl hl.1 rfl ⟨by decide, by decide⟩ (Nat.le_of_ble_eq_true rfl) (dk2 dF_182 DL_law (i := 690) rfl rfl rfl) ⟨by decide, by decide⟩ (fun r2 s2 H locs hp2 hw => ?_)
  obtain ⟨g2_0, g2_1, hT2_, hF2⟩ := hp2
  have hJ2 := hJ2.c (fun k h1 h2 => g2_1 k (by omega)) (hF2.1 2 (by decide) (by decide)) (hF2.1 3 (by decide) (by decide))
  have hT2 := hT2_
  have hN : RLb s1 s2 := hR.m (fun x k hx9 => hF1.1 x k (fun h9 => by rcases hx9 with rfl | hx9 <;> first | (simp at h9; done) | omega)) ⟨fun k => congrFun (hF2.1 2 (by decide) (by decide)) k, fun k => congrFun (hF2.1 3 (by decide) (by decide)) k⟩ (SMc.calls hR.2.1 g1_0 g2_0 (fun x k hx9 => hF1.1 x k (fun h9 => by rcases hx9 with rfl | rfl | rfl <;> first | (simp at h9; done) | omega)) g2_1)
  refine lv_icmp_eq (tgt := 1616) hx hb (dkS dF_159 DL_law (i := 691) rfl rfl rfl) (by decide) (fun _ => ?_) (fun hne => absurd (CLQ.both g1_0 g2_0 hR.2.1.1).1 hne)
  exact kk _ _ _ _ hT1 hJ1 hT2 hJ2 hN hw
set_option maxRecDepth 100000 in
set_option maxHeartbeats 4000000 in
theorem law_26 (l : Launch) (G : va_G) (kc : KC) {p : Program} {e : Env} {s : State} {m : MethodId} {below : List Frame} {meth : Method} {c : Code} {b L : Nat} {xs : Nat → Int32} (C0 : Cx G kc p s m c #[Value.ref b] cL_law 4 RL) (hRo : RO0 kc (fun q : Nat => s.heap.size ≤ q) s s.heap) (hX : va_X b L xs s s.heap) (hbl : b < s.heap.size) (hL : L ≤ 3072) {ad1 ad2 : Nat → Nat} {q : Nat} (hq : 6 * q + 6 ≤ L) {σ1 σ2 : Sg} (hT1 : TC σ1) (hJ1 : JC σ1) (hT2 : TM σ2) (hJ2 : JM σ2) (hR : RLb σ1 σ2) {H : Heap} {locs : List Loc} {ls : Array Slot} (hw : TW G kc (fun q : Nat => s.heap.size ≤ q) s.heap ad1 σ1 ad2 σ2 H locs) (hl : lv_has ls 4 [(3, .int (nI (6 * q))), (2, .ref (ad2 0)), (1, .ref (ad1 0)), (0, .ref b)]) (kk : ∀ (σ1 σ2 : Sg) (H : Heap) (locs : List Loc), TC σ1 → JC σ1 → TM σ2 → JM σ2 → RLb σ1 σ2 → TW G kc (fun q : Nat => s.heap.size ≤ q) s.heap ad1 σ1 ad2 σ2 H locs → W p l e room_1 s m #[Value.ref b] below meth c H locs 836 1863908 (lw_Z below #[Value.ref b] s) (F0 m 1616 ls [])) : W p l e room_1 s m #[Value.ref b] below meth c H locs 836 1863908 (lw_Z below #[Value.ref b] s) (F0 m 1052 ls []) := by
  have hx := C0.1
  have hb := C0.2.1
  have hown := C0.2.2.2.1
  have hts := C0.2.2.2.2.1
  have hbA : ¬ (fun q : Nat => s.heap.size ≤ q) b := Nat.not_le.mpr hbl
  refine lv_aload_n hx hb (dkP dF_43 DL_law (i := 694) rfl rfl) rfl (lv_at hl 2 rfl) ?_
  refine lv_aload_n hx hb (dkP dF_42 DL_law (i := 695) rfl rfl) rfl (lv_at hl 3 rfl) ?_
  refine lv_iload_n hx hb (dkP dF_29 DL_law (i := 696) rfl rfl) rfl (lv_at hl 0 rfl) ?_
  refine lv_iconst (v := 1) hx hb (dkP dF_4 DL_law (i := 697) rfl rfl) (by decide) ?_
  refine lv_iadd hx hb (dkP dF_96 DL_law (i := 698) rfl rfl) ?_
  refine z_top (y := nI (6 * q + 1)) (by simp only [fa_lit, nI_add]) ?_
  refine va_sld hx hb hX hbl hbA hw.2.2.1 (i := nI (6 * q + 1)) (vp_in_nI (by omega) (by omega)) (dkP dF_46 DL_law (i := 699) rfl rfl) ?_
  refine lv_aload_n hx hb (dkP dF_42 DL_law (i := 700) rfl rfl) rfl (lv_at hl 3 rfl) ?_
  refine lv_iload_n hx hb (dkP dF_29 DL_law (i := 701) rfl rfl) rfl (lv_at hl 0 rfl) ?_
  refine lv_iconst (v := 2) hx hb (dkP dF_5 DL_law (i := 702) rfl rfl) (by decide) ?_
  refine lv_iadd hx hb (dkP dF_96 DL_law (i := 703) rfl rfl) ?_
  refine z_top (y := nI (6 * q + 2)) (by simp only [fa_lit, nI_add]) ?_
  refine va_sld hx hb hX hbl hbA hw.2.2.1 (i := nI (6 * q + 2)) (vp_in_nI (by omega) (by omega)) (dkP dF_46 DL_law (i := 704) rfl rfl) ?_
  refine q_x (As := [.int (xs (nI (6 * q + 1)).toNatClampNeg), .int (xs (nI (6 * q + 2)).toNatClampNeg)]) (rest := []) C0 hRo hw (c_X11_needs_w l G kc ad1 σ1 (xs (nI (6 * q + 1)).toNatClampNeg) (xs (nI (6 * q + 2)).toNatClampNeg) hJ1 hT1) rfl cv_X11_needs lk_L_123 rfl hl.1 rfl ⟨by decide, by decide⟩ (Nat.le_of_ble_eq_true rfl) (dk2 dF_182 DL_law (i := 705) rfl rfl rfl) ⟨by decide, by decide⟩ (fun r1 s1 H locs hp1 hw => ?_)
  obtain ⟨g1_0, g1_1, hT1_, hF1⟩ := hp1
  have hJ1 := g1_1
  have hT1 := hT1_
  refine lv_pop hx hb (dkP dF_87 DL_law (i := 706) rfl rfl) rfl ?_
  refine lv_aload_n hx hb (dkP dF_44 DL_law (i := 707) rfl rfl) rfl (lv_at hl 1 rfl) ?_
  refine lv_aload_n hx hb (dkP dF_42 DL_law (i := 708) rfl rfl) rfl (lv_at hl 3 rfl) ?_
  refine lv_iload_n hx hb (dkP dF_29 DL_law (i := 709) rfl rfl) rfl (lv_at hl 0 rfl) ?_
  refine lv_iconst (v := 1) hx hb (dkP dF_4 DL_law (i := 710) rfl rfl) (by decide) ?_
  refine lv_iadd hx hb (dkP dF_96 DL_law (i := 711) rfl rfl) ?_
  refine z_top (y := nI (6 * q + 1)) (by simp only [fa_lit, nI_add]) ?_
  refine va_sld hx hb hX hbl hbA hw.2.2.1 (i := nI (6 * q + 1)) (vp_in_nI (by omega) (by omega)) (dkP dF_46 DL_law (i := 712) rfl rfl) ?_
  refine lv_aload_n hx hb (dkP dF_42 DL_law (i := 713) rfl rfl) rfl (lv_at hl 3 rfl) ?_
  refine lv_iload_n hx hb (dkP dF_29 DL_law (i := 714) rfl rfl) rfl (lv_at hl 0 rfl) ?_
  refine lv_iconst (v := 2) hx hb (dkP dF_5 DL_law (i := 715) rfl rfl) (by decide) ?_
  refine lv_iadd hx hb (dkP dF_96 DL_law (i := 716) rfl rfl) ?_
  refine z_top (y := nI (6 * q + 2)) (by simp only [fa_lit, nI_add]) ?_
  refine va_sld hx hb hX hbl hbA hw.2.2.1 (i := nI (6 * q + 2)) (vp_in_nI (by omega) (by omega)) (dkP dF_46 DL_law (i := 717) rfl rfl) ?_
  refine q_m (As := [.int (xs (nI (6 * q + 1)).toNatClampNeg), .int (xs (nI (6 * q + 2)).toNatClampNeg)]) (rest := []) C0 hRo hw (c_X12_needs__w l G kc ad2 σ2 (xs (nI (6 * q + 1)).toNatClampNeg) (xs (nI (6 * q + 2)).toNatClampNeg) hJ2 hT2) rfl cv_X12_needs_ lk_L_126 rfl hl.1 rfl ⟨by decide, by decide⟩ (Nat.le_of_ble_eq_true rfl) (dk2 dF_182 DL_law (i := 718) rfl rfl rfl) ⟨by decide, by decide⟩ (fun r2 s2 H locs hp2 hw => ?_)
  obtain ⟨g2_0, g2_1, hT2_, hF2⟩ := hp2
  have hJ2 := g2_0
  have hT2 := hT2_
  have hN : RLb s1 s2 := hR.m (fun x k hx9 => hF1.1 x k (fun h9 => by rcases hx9 with rfl | hx9 <;> first | (simp at h9; done) | omega)) ⟨fun k => congrFun (hF2.1 2 (by decide) (by decide)) k, fun k => congrFun (hF2.1 3 (by decide) (by decide)) k⟩ (SMc.needs hR.2.1 g1_0 g2_1 (fun x k hx9 => hF1.1 x k (fun h9 => by rcases hx9 with rfl | rfl | rfl <;> first | (simp at h9; done) | omega)))
  refine lv_pop hx hb (dkP dF_87 DL_law (i := 719) rfl rfl) rfl ?_
  refine lv_goto (tgt := 1616) hx hb (dkS dF_167 DL_law (i := 720) rfl rfl rfl) (by decide) ?_
  exact kk _ _ _ _ hT1 hJ1 hT2 hJ2 hN hw
set_option maxRecDepth 100000 in
set_option maxHeartbeats 4000000 in
theorem law_27 (l : Launch) (G : va_G) (kc : KC) {p : Program} {e : Env} {s : State} {m : MethodId} {below : List Frame} {meth : Method} {c : Code} {b L : Nat} {xs : Nat → Int32} (C0 : Cx G kc p s m c #[Value.ref b] cL_law 4 RL) (hRo : RO0 kc (fun q : Nat => s.heap.size ≤ q) s s.heap) (hX : va_X b L xs s s.heap) (hbl : b < s.heap.size) (hL : L ≤ 3072) {ad1 ad2 : Nat → Nat} {q : Nat} (hq : 6 * q + 6 ≤ L) {σ1 σ2 : Sg} (hT1 : TC σ1) (hJ1 : JC σ1) (hT2 : TM σ2) (hJ2 : JM σ2) (hR : RLb σ1 σ2) {H : Heap} {locs : List Loc} {ls : Array Slot} (hw : TW G kc (fun q : Nat => s.heap.size ≤ q) s.heap ad1 σ1 ad2 σ2 H locs) (hl : lv_has ls 4 [(3, .int (nI (6 * q))), (2, .ref (ad2 0)), (1, .ref (ad1 0)), (0, .ref b)]) (kk : ∀ (σ1 σ2 : Sg) (H : Heap) (locs : List Loc), TC σ1 → JC σ1 → TM σ2 → JM σ2 → RLb σ1 σ2 → TW G kc (fun q : Nat => s.heap.size ≤ q) s.heap ad1 σ1 ad2 σ2 H locs → W p l e room_1 s m #[Value.ref b] below meth c H locs 836 1863908 (lw_Z below #[Value.ref b] s) (F0 m 1616 ls [])) : W p l e room_1 s m #[Value.ref b] below meth c H locs 836 1863908 (lw_Z below #[Value.ref b] s) (F0 m 1085 ls []) := by
  have hx := C0.1
  have hb := C0.2.1
  have hown := C0.2.2.2.1
  have hts := C0.2.2.2.2.1
  have hbA : ¬ (fun q : Nat => s.heap.size ≤ q) b := Nat.not_le.mpr hbl
  refine lv_aload_n hx hb (dkP dF_43 DL_law (i := 721) rfl rfl) rfl (lv_at hl 2 rfl) ?_
  refine lv_aload_n hx hb (dkP dF_42 DL_law (i := 722) rfl rfl) rfl (lv_at hl 3 rfl) ?_
  refine lv_iload_n hx hb (dkP dF_29 DL_law (i := 723) rfl rfl) rfl (lv_at hl 0 rfl) ?_
  refine lv_iconst (v := 1) hx hb (dkP dF_4 DL_law (i := 724) rfl rfl) (by decide) ?_
  refine lv_iadd hx hb (dkP dF_96 DL_law (i := 725) rfl rfl) ?_
  refine z_top (y := nI (6 * q + 1)) (by simp only [fa_lit, nI_add]) ?_
  refine va_sld hx hb hX hbl hbA hw.2.2.1 (i := nI (6 * q + 1)) (vp_in_nI (by omega) (by omega)) (dkP dF_46 DL_law (i := 726) rfl rfl) ?_
  refine q_x (As := [.int (xs (nI (6 * q + 1)).toNatClampNeg)]) (rest := []) C0 hRo hw (c_X11_live l G kc ad1 σ1 (xs (nI (6 * q + 1)).toNatClampNeg) hJ1 hT1) rfl cv_X11_live lk_L_127 rfl hl.1 rfl ⟨by decide, by decide⟩ (Nat.le_of_ble_eq_true rfl) (dk2 dF_182 DL_law (i := 727) rfl rfl rfl) ⟨by decide, by decide⟩ (fun r1 s1 H locs hp1 hw => ?_)
  obtain ⟨g1_0, hT1_, hF1⟩ := hp1
  have hJ1 := g1_0
  have hT1 := hT1_
  have hA : KA2 σ1 s1 := fun x k hx9 => hF1.1 x k (fun h9 => by rcases hx9 with rfl | rfl | rfl | rfl | rfl | hx9 <;> first | (simp at h9; done) | omega)
  refine lv_pop hx hb (dkP dF_87 DL_law (i := 728) rfl rfl) rfl ?_
  refine lv_aload_n hx hb (dkP dF_44 DL_law (i := 729) rfl rfl) rfl (lv_at hl 1 rfl) ?_
  refine lv_aload_n hx hb (dkP dF_42 DL_law (i := 730) rfl rfl) rfl (lv_at hl 3 rfl) ?_
  refine lv_iload_n hx hb (dkP dF_29 DL_law (i := 731) rfl rfl) rfl (lv_at hl 0 rfl) ?_
  refine lv_iconst (v := 1) hx hb (dkP dF_4 DL_law (i := 732) rfl rfl) (by decide) ?_
  refine lv_iadd hx hb (dkP dF_96 DL_law (i := 733) rfl rfl) ?_
  refine z_top (y := nI (6 * q + 1)) (by simp only [fa_lit, nI_add]) ?_
  refine va_sld hx hb hX hbl hbA hw.2.2.1 (i := nI (6 * q + 1)) (vp_in_nI (by omega) (by omega)) (dkP dF_46 DL_law (i := 734) rfl rfl) ?_
  refine q_m (As := [.int (xs (nI (6 * q + 1)).toNatClampNeg)]) (rest := []) C0 hRo hw (c_X12_live l G kc ad2 σ2 (xs (nI (6 * q + 1)).toNatClampNeg)  hT2) rfl cv_X12_live lk_L_130 rfl hl.1 rfl ⟨by decide, by decide⟩ (Nat.le_of_ble_eq_true rfl) (dk2 dF_182 DL_law (i := 735) rfl rfl rfl) ⟨by decide, by decide⟩ (fun r2 s2 H locs hp2 hw => ?_)
  obtain ⟨hT2_, hF2⟩ := hp2
  have hJ2 := hJ2.f hF2 (by decide) (by decide)
  have hT2 := hT2_
  have hB : KB2 σ2 s2 := ⟨fun k => congrFun (hF2.1 2 (by decide) (by decide)) k, fun k => congrFun (hF2.1 3 (by decide) (by decide)) k, fun k hk => hF2.2.2.2 rfl k hk⟩
  have hN : RLb s1 s2 := hR.f hA hB
  refine lv_pop hx hb (dkP dF_87 DL_law (i := 736) rfl rfl) rfl ?_
  refine lv_goto (tgt := 1616) hx hb (dkS dF_167 DL_law (i := 737) rfl rfl rfl) (by decide) ?_
  exact kk _ _ _ _ hT1 hJ1 hT2 hJ2 hN hw
set_option maxRecDepth 100000 in
set_option maxHeartbeats 4000000 in
theorem law_28 (l : Launch) (G : va_G) (kc : KC) {p : Program} {e : Env} {s : State} {m : MethodId} {below : List Frame} {meth : Method} {c : Code} {b L : Nat} {xs : Nat → Int32} (C0 : Cx G kc p s m c #[Value.ref b] cL_law 4 RL) (hRo : RO0 kc (fun q : Nat => s.heap.size ≤ q) s s.heap) (hX : va_X b L xs s s.heap) (hbl : b < s.heap.size) (hL : L ≤ 3072) {ad1 ad2 : Nat → Nat} {q : Nat} (hq : 6 * q + 6 ≤ L) {σ1 σ2 : Sg} (hT1 : TC σ1) (hJ1 : JC σ1) (hT2 : TM σ2) (hJ2 : JM σ2) (hR : RLb σ1 σ2) {H : Heap} {locs : List Loc} {ls : Array Slot} (hw : TW G kc (fun q : Nat => s.heap.size ≤ q) s.heap ad1 σ1 ad2 σ2 H locs) (hl : lv_has ls 4 [(3, .int (nI (6 * q))), (2, .ref (ad2 0)), (1, .ref (ad1 0)), (0, .ref b)]) (kk : ∀ (σ1 σ2 : Sg) (H : Heap) (locs : List Loc), TC σ1 → JC σ1 → TM σ2 → JM σ2 → RLb σ1 σ2 → TW G kc (fun q : Nat => s.heap.size ≤ q) s.heap ad1 σ1 ad2 σ2 H locs → W p l e room_1 s m #[Value.ref b] below meth c H locs 836 1863908 (lw_Z below #[Value.ref b] s) (F0 m 1616 ls [])) : W p l e room_1 s m #[Value.ref b] below meth c H locs 836 1863908 (lw_Z below #[Value.ref b] s) (F0 m 1108 ls []) := by
  have hx := C0.1
  have hb := C0.2.1
  have hown := C0.2.2.2.1
  have hts := C0.2.2.2.2.1
  have hbA : ¬ (fun q : Nat => s.heap.size ≤ q) b := Nat.not_le.mpr hbl
  refine lv_aload_n hx hb (dkP dF_43 DL_law (i := 738) rfl rfl) rfl (lv_at hl 2 rfl) ?_
  refine lv_aload_n hx hb (dkP dF_42 DL_law (i := 739) rfl rfl) rfl (lv_at hl 3 rfl) ?_
  refine lv_iload_n hx hb (dkP dF_29 DL_law (i := 740) rfl rfl) rfl (lv_at hl 0 rfl) ?_
  refine lv_iconst (v := 1) hx hb (dkP dF_4 DL_law (i := 741) rfl rfl) (by decide) ?_
  refine lv_iadd hx hb (dkP dF_96 DL_law (i := 742) rfl rfl) ?_
  refine z_top (y := nI (6 * q + 1)) (by simp only [fa_lit, nI_add]) ?_
  refine va_sld hx hb hX hbl hbA hw.2.2.1 (i := nI (6 * q + 1)) (vp_in_nI (by omega) (by omega)) (dkP dF_46 DL_law (i := 743) rfl rfl) ?_
  refine q_x (As := [.int (xs (nI (6 * q + 1)).toNatClampNeg)]) (rest := []) C0 hRo hw (c_X11_back l G kc ad1 σ1 (xs (nI (6 * q + 1)).toNatClampNeg) hJ1 hT1) rfl cv_X11_back lk_L_131 rfl hl.1 rfl ⟨by decide, by decide⟩ (Nat.le_of_ble_eq_true rfl) (dk2 dF_182 DL_law (i := 744) rfl rfl rfl) ⟨by decide, by decide⟩ (fun r1 s1 H locs hp1 hw => ?_)
  obtain ⟨g1_0, hT1_, hF1⟩ := hp1
  have hJ1 := g1_0
  have hT1 := hT1_
  have hA : KA2 σ1 s1 := fun x k hx9 => hF1.1 x k (fun h9 => by rcases hx9 with rfl | rfl | rfl | rfl | rfl | hx9 <;> first | (simp at h9; done) | omega)
  refine lv_pop hx hb (dkP dF_87 DL_law (i := 745) rfl rfl) rfl ?_
  refine lv_aload_n hx hb (dkP dF_44 DL_law (i := 746) rfl rfl) rfl (lv_at hl 1 rfl) ?_
  refine lv_aload_n hx hb (dkP dF_42 DL_law (i := 747) rfl rfl) rfl (lv_at hl 3 rfl) ?_
  refine lv_iload_n hx hb (dkP dF_29 DL_law (i := 748) rfl rfl) rfl (lv_at hl 0 rfl) ?_
  refine lv_iconst (v := 1) hx hb (dkP dF_4 DL_law (i := 749) rfl rfl) (by decide) ?_
  refine lv_iadd hx hb (dkP dF_96 DL_law (i := 750) rfl rfl) ?_
  refine z_top (y := nI (6 * q + 1)) (by simp only [fa_lit, nI_add]) ?_
  refine va_sld hx hb hX hbl hbA hw.2.2.1 (i := nI (6 * q + 1)) (vp_in_nI (by omega) (by omega)) (dkP dF_46 DL_law (i := 751) rfl rfl) ?_
  refine q_m (As := [.int (xs (nI (6 * q + 1)).toNatClampNeg)]) (rest := []) C0 hRo hw (c_X12_back l G kc ad2 σ2 (xs (nI (6 * q + 1)).toNatClampNeg)  hT2) rfl cv_X12_back lk_L_134 rfl hl.1 rfl ⟨by decide, by decide⟩ (Nat.le_of_ble_eq_true rfl) (dk2 dF_182 DL_law (i := 752) rfl rfl rfl) ⟨by decide, by decide⟩ (fun r2 s2 H locs hp2 hw => ?_)
  obtain ⟨hT2_, hF2⟩ := hp2
  have hJ2 := hJ2.f hF2 (by decide) (by decide)
  have hT2 := hT2_
  have hB : KB2 σ2 s2 := ⟨fun k => congrFun (hF2.1 2 (by decide) (by decide)) k, fun k => congrFun (hF2.1 3 (by decide) (by decide)) k, fun k hk => hF2.2.2.2 rfl k hk⟩
  have hN : RLb s1 s2 := hR.f hA hB
  refine lv_pop hx hb (dkP dF_87 DL_law (i := 753) rfl rfl) rfl ?_
  refine lv_goto (tgt := 1616) hx hb (dkS dF_167 DL_law (i := 754) rfl rfl rfl) (by decide) ?_
  exact kk _ _ _ _ hT1 hJ1 hT2 hJ2 hN hw
set_option maxRecDepth 100000 in
set_option maxHeartbeats 4000000 in
theorem law_29 (l : Launch) (G : va_G) (kc : KC) {p : Program} {e : Env} {s : State} {m : MethodId} {below : List Frame} {meth : Method} {c : Code} {b L : Nat} {xs : Nat → Int32} (C0 : Cx G kc p s m c #[Value.ref b] cL_law 4 RL) (hRo : RO0 kc (fun q : Nat => s.heap.size ≤ q) s s.heap) (hX : va_X b L xs s s.heap) (hbl : b < s.heap.size) (hL : L ≤ 3072) {ad1 ad2 : Nat → Nat} {q : Nat} (hq : 6 * q + 6 ≤ L) {σ1 σ2 : Sg} (hT1 : TC σ1) (hJ1 : JC σ1) (hT2 : TM σ2) (hJ2 : JM σ2) (hR : RLb σ1 σ2) {H : Heap} {locs : List Loc} {ls : Array Slot} (hw : TW G kc (fun q : Nat => s.heap.size ≤ q) s.heap ad1 σ1 ad2 σ2 H locs) (hl : lv_has ls 4 [(3, .int (nI (6 * q))), (2, .ref (ad2 0)), (1, .ref (ad1 0)), (0, .ref b)]) (kk : ∀ (σ1 σ2 : Sg) (H : Heap) (locs : List Loc), TC σ1 → JC σ1 → TM σ2 → JM σ2 → RLb σ1 σ2 → TW G kc (fun q : Nat => s.heap.size ≤ q) s.heap ad1 σ1 ad2 σ2 H locs → W p l e room_1 s m #[Value.ref b] below meth c H locs 836 1863908 (lw_Z below #[Value.ref b] s) (F0 m 1616 ls [])) : W p l e room_1 s m #[Value.ref b] below meth c H locs 836 1863908 (lw_Z below #[Value.ref b] s) (F0 m 1131 ls []) := by
  have hx := C0.1
  have hb := C0.2.1
  have hown := C0.2.2.2.1
  have hts := C0.2.2.2.2.1
  have hbA : ¬ (fun q : Nat => s.heap.size ≤ q) b := Nat.not_le.mpr hbl
  refine lv_aload_n hx hb (dkP dF_43 DL_law (i := 755) rfl rfl) rfl (lv_at hl 2 rfl) ?_
  refine lv_aload_n hx hb (dkP dF_42 DL_law (i := 756) rfl rfl) rfl (lv_at hl 3 rfl) ?_
  refine lv_iload_n hx hb (dkP dF_29 DL_law (i := 757) rfl rfl) rfl (lv_at hl 0 rfl) ?_
  refine lv_iconst (v := 1) hx hb (dkP dF_4 DL_law (i := 758) rfl rfl) (by decide) ?_
  refine lv_iadd hx hb (dkP dF_96 DL_law (i := 759) rfl rfl) ?_
  refine z_top (y := nI (6 * q + 1)) (by simp only [fa_lit, nI_add]) ?_
  refine va_sld hx hb hX hbl hbA hw.2.2.1 (i := nI (6 * q + 1)) (vp_in_nI (by omega) (by omega)) (dkP dF_46 DL_law (i := 760) rfl rfl) ?_
  refine q_x (As := [.int (xs (nI (6 * q + 1)).toNatClampNeg)]) (rest := []) C0 hRo hw (c_X11_retire l G kc ad1 σ1 (xs (nI (6 * q + 1)).toNatClampNeg) hJ1 hT1) rfl cv_X11_retire lk_L_135 rfl hl.1 rfl ⟨by decide, by decide⟩ (Nat.le_of_ble_eq_true rfl) (dk2 dF_182 DL_law (i := 761) rfl rfl rfl) ⟨by decide, by decide⟩ (fun r1 s1 H locs hp1 hw => ?_)
  obtain ⟨g1_0, hT1_, hF1⟩ := hp1
  have hJ1 := g1_0
  have hT1 := hT1_
  have hA : KA2 σ1 s1 := fun x k hx9 => hF1.1 x k (fun h9 => by rcases hx9 with rfl | rfl | rfl | rfl | rfl | hx9 <;> first | (simp at h9; done) | omega)
  refine lv_pop hx hb (dkP dF_87 DL_law (i := 762) rfl rfl) rfl ?_
  refine lv_aload_n hx hb (dkP dF_44 DL_law (i := 763) rfl rfl) rfl (lv_at hl 1 rfl) ?_
  refine lv_aload_n hx hb (dkP dF_42 DL_law (i := 764) rfl rfl) rfl (lv_at hl 3 rfl) ?_
  refine lv_iload_n hx hb (dkP dF_29 DL_law (i := 765) rfl rfl) rfl (lv_at hl 0 rfl) ?_
  refine lv_iconst (v := 1) hx hb (dkP dF_4 DL_law (i := 766) rfl rfl) (by decide) ?_
  refine lv_iadd hx hb (dkP dF_96 DL_law (i := 767) rfl rfl) ?_
  refine z_top (y := nI (6 * q + 1)) (by simp only [fa_lit, nI_add]) ?_
  refine va_sld hx hb hX hbl hbA hw.2.2.1 (i := nI (6 * q + 1)) (vp_in_nI (by omega) (by omega)) (dkP dF_46 DL_law (i := 768) rfl rfl) ?_
  refine q_m (As := [.int (xs (nI (6 * q + 1)).toNatClampNeg)]) (rest := []) C0 hRo hw (c_X12_retire l G kc ad2 σ2 (xs (nI (6 * q + 1)).toNatClampNeg)  hT2) rfl cv_X12_retire lk_L_138 rfl hl.1 rfl ⟨by decide, by decide⟩ (Nat.le_of_ble_eq_true rfl) (dk2 dF_182 DL_law (i := 769) rfl rfl rfl) ⟨by decide, by decide⟩ (fun r2 s2 H locs hp2 hw => ?_)
  obtain ⟨hT2_, hF2⟩ := hp2
  have hJ2 := hJ2.f hF2 (by decide) (by decide)
  have hT2 := hT2_
  have hB : KB2 σ2 s2 := ⟨fun k => congrFun (hF2.1 2 (by decide) (by decide)) k, fun k => congrFun (hF2.1 3 (by decide) (by decide)) k, fun k hk => hF2.2.2.2 rfl k hk⟩
  have hN : RLb s1 s2 := hR.f hA hB
  refine lv_pop hx hb (dkP dF_87 DL_law (i := 770) rfl rfl) rfl ?_
  refine lv_goto (tgt := 1616) hx hb (dkS dF_167 DL_law (i := 771) rfl rfl rfl) (by decide) ?_
  exact kk _ _ _ _ hT1 hJ1 hT2 hJ2 hN hw
set_option maxRecDepth 100000 in
set_option maxHeartbeats 4000000 in
theorem law_30 (l : Launch) (G : va_G) (kc : KC) {p : Program} {e : Env} {s : State} {m : MethodId} {below : List Frame} {meth : Method} {c : Code} {b L : Nat} {xs : Nat → Int32} (C0 : Cx G kc p s m c #[Value.ref b] cL_law 4 RL) (hRo : RO0 kc (fun q : Nat => s.heap.size ≤ q) s s.heap) (hX : va_X b L xs s s.heap) (hbl : b < s.heap.size) (hL : L ≤ 3072) {ad1 ad2 : Nat → Nat} {q : Nat} (hq : 6 * q + 6 ≤ L) {σ1 σ2 : Sg} (hT1 : TC σ1) (hJ1 : JC σ1) (hT2 : TM σ2) (hJ2 : JM σ2) (hR : RLb σ1 σ2) {H : Heap} {locs : List Loc} {ls : Array Slot} (hw : TW G kc (fun q : Nat => s.heap.size ≤ q) s.heap ad1 σ1 ad2 σ2 H locs) (hl : lv_has ls 4 [(3, .int (nI (6 * q))), (2, .ref (ad2 0)), (1, .ref (ad1 0)), (0, .ref b)]) (kk : ∀ (σ1 σ2 : Sg) (H : Heap) (locs : List Loc), TC σ1 → JC σ1 → TM σ2 → JM σ2 → RLb σ1 σ2 → TW G kc (fun q : Nat => s.heap.size ≤ q) s.heap ad1 σ1 ad2 σ2 H locs → W p l e room_1 s m #[Value.ref b] below meth c H locs 836 1863908 (lw_Z below #[Value.ref b] s) (F0 m 1616 ls [])) : W p l e room_1 s m #[Value.ref b] below meth c H locs 836 1863908 (lw_Z below #[Value.ref b] s) (F0 m 1154 ls []) := by
  have hx := C0.1
  have hb := C0.2.1
  have hown := C0.2.2.2.1
  have hts := C0.2.2.2.2.1
  have hbA : ¬ (fun q : Nat => s.heap.size ≤ q) b := Nat.not_le.mpr hbl
  refine lv_aload_n hx hb (dkP dF_43 DL_law (i := 772) rfl rfl) rfl (lv_at hl 2 rfl) ?_
  refine lv_aload_n hx hb (dkP dF_42 DL_law (i := 773) rfl rfl) rfl (lv_at hl 3 rfl) ?_
  refine lv_iload_n hx hb (dkP dF_29 DL_law (i := 774) rfl rfl) rfl (lv_at hl 0 rfl) ?_
  refine lv_iconst (v := 1) hx hb (dkP dF_4 DL_law (i := 775) rfl rfl) (by decide) ?_
  refine lv_iadd hx hb (dkP dF_96 DL_law (i := 776) rfl rfl) ?_
  refine z_top (y := nI (6 * q + 1)) (by simp only [fa_lit, nI_add]) ?_
  refine va_sld hx hb hX hbl hbA hw.2.2.1 (i := nI (6 * q + 1)) (vp_in_nI (by omega) (by omega)) (dkP dF_46 DL_law (i := 777) rfl rfl) ?_
  refine q_x (As := [.int (xs (nI (6 * q + 1)).toNatClampNeg)]) (rest := []) C0 hRo hw (c_X11_state l G kc ad1 σ1 (xs (nI (6 * q + 1)).toNatClampNeg) hJ1 hT1) rfl cv_X11_state lk_L_139 rfl hl.1 rfl ⟨by decide, by decide⟩ (Nat.le_of_ble_eq_true rfl) (dk2 dF_182 DL_law (i := 778) rfl rfl rfl) ⟨by decide, by decide⟩ (fun r1 s1 H locs hp1 hw => ?_)
  obtain ⟨g1_0, es1⟩ := hp1
  rw [es1] at hw
  have hA : KA2 σ1 s1 := fun x k _ => by rw [es1]
  refine lv_pop hx hb (dkP dF_87 DL_law (i := 779) rfl rfl) rfl ?_
  refine lv_aload_n hx hb (dkP dF_44 DL_law (i := 780) rfl rfl) rfl (lv_at hl 1 rfl) ?_
  refine lv_aload_n hx hb (dkP dF_42 DL_law (i := 781) rfl rfl) rfl (lv_at hl 3 rfl) ?_
  refine lv_iload_n hx hb (dkP dF_29 DL_law (i := 782) rfl rfl) rfl (lv_at hl 0 rfl) ?_
  refine lv_iconst (v := 1) hx hb (dkP dF_4 DL_law (i := 783) rfl rfl) (by decide) ?_
  refine lv_iadd hx hb (dkP dF_96 DL_law (i := 784) rfl rfl) ?_
  refine z_top (y := nI (6 * q + 1)) (by simp only [fa_lit, nI_add]) ?_
  refine va_sld hx hb hX hbl hbA hw.2.2.1 (i := nI (6 * q + 1)) (vp_in_nI (by omega) (by omega)) (dkP dF_46 DL_law (i := 785) rfl rfl) ?_
  refine q_m (As := [.int (xs (nI (6 * q + 1)).toNatClampNeg)]) (rest := []) C0 hRo hw (c_X12_state l G kc ad2 σ2 (xs (nI (6 * q + 1)).toNatClampNeg)  hT2) rfl cv_X12_state lk_L_142 rfl hl.1 rfl ⟨by decide, by decide⟩ (Nat.le_of_ble_eq_true rfl) (dk2 dF_182 DL_law (i := 786) rfl rfl rfl) ⟨by decide, by decide⟩ (fun r2 s2 H locs hp2 hw => ?_)
  have es2 := hp2
  rw [es2] at hw
  have hB : KB2 σ2 s2 := ⟨fun k => by rw [es2], fun k => by rw [es2], fun k _ => by rw [es2]⟩
  have hN : RLb s1 s2 := hR.f hA hB
  rw [es1] at hN
  rw [es2] at hN
  refine lv_pop hx hb (dkP dF_87 DL_law (i := 787) rfl rfl) rfl ?_
  refine lv_goto (tgt := 1616) hx hb (dkS dF_167 DL_law (i := 788) rfl rfl rfl) (by decide) ?_
  exact kk _ _ _ _ hT1 hJ1 hT2 hJ2 hN hw
set_option maxRecDepth 100000 in
set_option maxHeartbeats 4000000 in
theorem law_31 (l : Launch) (G : va_G) (kc : KC) {p : Program} {e : Env} {s : State} {m : MethodId} {below : List Frame} {meth : Method} {c : Code} {b L : Nat} {xs : Nat → Int32} (C0 : Cx G kc p s m c #[Value.ref b] cL_law 4 RL) (hRo : RO0 kc (fun q : Nat => s.heap.size ≤ q) s s.heap) (hX : va_X b L xs s s.heap) (hbl : b < s.heap.size) (hL : L ≤ 3072) {ad1 ad2 : Nat → Nat} {q : Nat} (hq : 6 * q + 6 ≤ L) {σ1 σ2 : Sg} (hT1 : TC σ1) (hJ1 : JC σ1) (hT2 : TM σ2) (hJ2 : JM σ2) (hR : RLb σ1 σ2) {H : Heap} {locs : List Loc} {ls : Array Slot} (hw : TW G kc (fun q : Nat => s.heap.size ≤ q) s.heap ad1 σ1 ad2 σ2 H locs) (hl : lv_has ls 4 [(3, .int (nI (6 * q))), (2, .ref (ad2 0)), (1, .ref (ad1 0)), (0, .ref b)]) (kk : ∀ (σ1 σ2 : Sg) (H : Heap) (locs : List Loc), TC σ1 → JC σ1 → TM σ2 → JM σ2 → RLb σ1 σ2 → TW G kc (fun q : Nat => s.heap.size ≤ q) s.heap ad1 σ1 ad2 σ2 H locs → W p l e room_1 s m #[Value.ref b] below meth c H locs 836 1863908 (lw_Z below #[Value.ref b] s) (F0 m 1616 ls [])) : W p l e room_1 s m #[Value.ref b] below meth c H locs 836 1863908 (lw_Z below #[Value.ref b] s) (F0 m 1177 ls []) := by
  have hx := C0.1
  have hb := C0.2.1
  have hown := C0.2.2.2.1
  have hts := C0.2.2.2.2.1
  have hbA : ¬ (fun q : Nat => s.heap.size ≤ q) b := Nat.not_le.mpr hbl
  refine lv_aload_n hx hb (dkP dF_43 DL_law (i := 789) rfl rfl) rfl (lv_at hl 2 rfl) ?_
  refine lv_aload_n hx hb (dkP dF_42 DL_law (i := 790) rfl rfl) rfl (lv_at hl 3 rfl) ?_
  refine lv_iload_n hx hb (dkP dF_29 DL_law (i := 791) rfl rfl) rfl (lv_at hl 0 rfl) ?_
  refine lv_iconst (v := 1) hx hb (dkP dF_4 DL_law (i := 792) rfl rfl) (by decide) ?_
  refine lv_iadd hx hb (dkP dF_96 DL_law (i := 793) rfl rfl) ?_
  refine z_top (y := nI (6 * q + 1)) (by simp only [fa_lit, nI_add]) ?_
  refine va_sld hx hb hX hbl hbA hw.2.2.1 (i := nI (6 * q + 1)) (vp_in_nI (by omega) (by omega)) (dkP dF_46 DL_law (i := 794) rfl rfl) ?_
  refine q_x (As := [.int (xs (nI (6 * q + 1)).toNatClampNeg)]) (rest := []) C0 hRo hw (c_X11_plan l G kc ad1 σ1 (xs (nI (6 * q + 1)).toNatClampNeg) hJ1 hT1) rfl cv_X11_plan lk_L_143 rfl hl.1 rfl ⟨by decide, by decide⟩ (Nat.le_of_ble_eq_true rfl) (dk2 dF_182 DL_law (i := 795) rfl rfl rfl) ⟨by decide, by decide⟩ (fun r1 s1 H locs hp1 hw => ?_)
  obtain ⟨g1_0, hT1_, hF1⟩ := hp1
  have hJ1 := g1_0
  have hT1 := hT1_
  have hA : KA2 σ1 s1 := fun x k hx9 => hF1.1 x k (fun h9 => by rcases hx9 with rfl | rfl | rfl | rfl | rfl | hx9 <;> first | (simp at h9; done) | omega)
  refine lv_pop hx hb (dkP dF_87 DL_law (i := 796) rfl rfl) rfl ?_
  refine lv_aload_n hx hb (dkP dF_44 DL_law (i := 797) rfl rfl) rfl (lv_at hl 1 rfl) ?_
  refine lv_aload_n hx hb (dkP dF_42 DL_law (i := 798) rfl rfl) rfl (lv_at hl 3 rfl) ?_
  refine lv_iload_n hx hb (dkP dF_29 DL_law (i := 799) rfl rfl) rfl (lv_at hl 0 rfl) ?_
  refine lv_iconst (v := 1) hx hb (dkP dF_4 DL_law (i := 800) rfl rfl) (by decide) ?_
  refine lv_iadd hx hb (dkP dF_96 DL_law (i := 801) rfl rfl) ?_
  refine z_top (y := nI (6 * q + 1)) (by simp only [fa_lit, nI_add]) ?_
  refine va_sld hx hb hX hbl hbA hw.2.2.1 (i := nI (6 * q + 1)) (vp_in_nI (by omega) (by omega)) (dkP dF_46 DL_law (i := 802) rfl rfl) ?_
  refine q_m (As := [.int (xs (nI (6 * q + 1)).toNatClampNeg)]) (rest := []) C0 hRo hw (c_X12_plan l G kc ad2 σ2 (xs (nI (6 * q + 1)).toNatClampNeg) hJ2 hT2) rfl cv_X12_plan lk_L_146 rfl hl.1 rfl ⟨by decide, by decide⟩ (Nat.le_of_ble_eq_true rfl) (dk2 dF_182 DL_law (i := 803) rfl rfl rfl) ⟨by decide, by decide⟩ (fun r2 s2 H locs hp2 hw => ?_)
  obtain ⟨hT2_, hF2⟩ := hp2
  have hJ2 := hJ2.f hF2 (by decide) (by decide)
  have hT2 := hT2_
  have hB : KB2 σ2 s2 := ⟨fun k => congrFun (hF2.1 2 (by decide) (by decide)) k, fun k => congrFun (hF2.1 3 (by decide) (by decide)) k, fun k hk => hF2.2.2.2 rfl k hk⟩
  have hN : RLb s1 s2 := hR.f hA hB
  refine lv_pop hx hb (dkP dF_87 DL_law (i := 804) rfl rfl) rfl ?_
  refine lv_goto (tgt := 1616) hx hb (dkS dF_167 DL_law (i := 805) rfl rfl rfl) (by decide) ?_
  exact kk _ _ _ _ hT1 hJ1 hT2 hJ2 hN hw
set_option maxRecDepth 100000 in
set_option maxHeartbeats 4000000 in
theorem law_32 (l : Launch) (G : va_G) (kc : KC) {p : Program} {e : Env} {s : State} {m : MethodId} {below : List Frame} {meth : Method} {c : Code} {b L : Nat} {xs : Nat → Int32} (C0 : Cx G kc p s m c #[Value.ref b] cL_law 4 RL) (hRo : RO0 kc (fun q : Nat => s.heap.size ≤ q) s s.heap) (hX : va_X b L xs s s.heap) (hbl : b < s.heap.size) (hL : L ≤ 3072) {ad1 ad2 : Nat → Nat} {q : Nat} (hq : 6 * q + 6 ≤ L) {σ1 σ2 : Sg} (hT1 : TC σ1) (hJ1 : JC σ1) (hT2 : TM σ2) (hJ2 : JM σ2) (hR : RLb σ1 σ2) {H : Heap} {locs : List Loc} {ls : Array Slot} (hw : TW G kc (fun q : Nat => s.heap.size ≤ q) s.heap ad1 σ1 ad2 σ2 H locs) (hl : lv_has ls 4 [(3, .int (nI (6 * q))), (2, .ref (ad2 0)), (1, .ref (ad1 0)), (0, .ref b)]) (kk : ∀ (σ1 σ2 : Sg) (H : Heap) (locs : List Loc), TC σ1 → JC σ1 → TM σ2 → JM σ2 → RLb σ1 σ2 → TW G kc (fun q : Nat => s.heap.size ≤ q) s.heap ad1 σ1 ad2 σ2 H locs → W p l e room_1 s m #[Value.ref b] below meth c H locs 836 1863908 (lw_Z below #[Value.ref b] s) (F0 m 1616 ls [])) : W p l e room_1 s m #[Value.ref b] below meth c H locs 836 1863908 (lw_Z below #[Value.ref b] s) (F0 m 1200 ls []) := by
  have hx := C0.1
  have hb := C0.2.1
  have hown := C0.2.2.2.1
  have hts := C0.2.2.2.2.1
  have hbA : ¬ (fun q : Nat => s.heap.size ≤ q) b := Nat.not_le.mpr hbl
  refine lv_aload_n hx hb (dkP dF_43 DL_law (i := 806) rfl rfl) rfl (lv_at hl 2 rfl) ?_
  refine lv_aload_n hx hb (dkP dF_42 DL_law (i := 807) rfl rfl) rfl (lv_at hl 3 rfl) ?_
  refine lv_iload_n hx hb (dkP dF_29 DL_law (i := 808) rfl rfl) rfl (lv_at hl 0 rfl) ?_
  refine lv_iconst (v := 1) hx hb (dkP dF_4 DL_law (i := 809) rfl rfl) (by decide) ?_
  refine lv_iadd hx hb (dkP dF_96 DL_law (i := 810) rfl rfl) ?_
  refine z_top (y := nI (6 * q + 1)) (by simp only [fa_lit, nI_add]) ?_
  refine va_sld hx hb hX hbl hbA hw.2.2.1 (i := nI (6 * q + 1)) (vp_in_nI (by omega) (by omega)) (dkP dF_46 DL_law (i := 811) rfl rfl) ?_
  refine q_x (As := [.int (xs (nI (6 * q + 1)).toNatClampNeg)]) (rest := []) C0 hRo hw (c_X11_planned l G kc ad1 σ1 (xs (nI (6 * q + 1)).toNatClampNeg) hJ1 hT1) rfl cv_X11_planned lk_L_147 rfl hl.1 rfl ⟨by decide, by decide⟩ (Nat.le_of_ble_eq_true rfl) (dk2 dF_182 DL_law (i := 812) rfl rfl rfl) ⟨by decide, by decide⟩ (fun r1 s1 H locs hp1 hw => ?_)
  obtain ⟨g1_0, es1⟩ := hp1
  rw [es1] at hw
  have hA : KA2 σ1 s1 := fun x k _ => by rw [es1]
  refine lv_pop hx hb (dkP dF_87 DL_law (i := 813) rfl rfl) rfl ?_
  refine lv_aload_n hx hb (dkP dF_44 DL_law (i := 814) rfl rfl) rfl (lv_at hl 1 rfl) ?_
  refine lv_aload_n hx hb (dkP dF_42 DL_law (i := 815) rfl rfl) rfl (lv_at hl 3 rfl) ?_
  refine lv_iload_n hx hb (dkP dF_29 DL_law (i := 816) rfl rfl) rfl (lv_at hl 0 rfl) ?_
  refine lv_iconst (v := 1) hx hb (dkP dF_4 DL_law (i := 817) rfl rfl) (by decide) ?_
  refine lv_iadd hx hb (dkP dF_96 DL_law (i := 818) rfl rfl) ?_
  refine z_top (y := nI (6 * q + 1)) (by simp only [fa_lit, nI_add]) ?_
  refine va_sld hx hb hX hbl hbA hw.2.2.1 (i := nI (6 * q + 1)) (vp_in_nI (by omega) (by omega)) (dkP dF_46 DL_law (i := 819) rfl rfl) ?_
  refine q_m (As := [.int (xs (nI (6 * q + 1)).toNatClampNeg)]) (rest := []) C0 hRo hw (c_X12_planned l G kc ad2 σ2 (xs (nI (6 * q + 1)).toNatClampNeg)  hT2) rfl cv_X12_planned lk_L_150 rfl hl.1 rfl ⟨by decide, by decide⟩ (Nat.le_of_ble_eq_true rfl) (dk2 dF_182 DL_law (i := 820) rfl rfl rfl) ⟨by decide, by decide⟩ (fun r2 s2 H locs hp2 hw => ?_)
  have es2 := hp2
  rw [es2] at hw
  have hB : KB2 σ2 s2 := ⟨fun k => by rw [es2], fun k => by rw [es2], fun k _ => by rw [es2]⟩
  have hN : RLb s1 s2 := hR.f hA hB
  rw [es1] at hN
  rw [es2] at hN
  refine lv_pop hx hb (dkP dF_87 DL_law (i := 821) rfl rfl) rfl ?_
  refine lv_goto (tgt := 1616) hx hb (dkS dF_167 DL_law (i := 822) rfl rfl rfl) (by decide) ?_
  exact kk _ _ _ _ hT1 hJ1 hT2 hJ2 hN hw
set_option maxRecDepth 100000 in
set_option maxHeartbeats 4000000 in
theorem law_33 (l : Launch) (G : va_G) (kc : KC) {p : Program} {e : Env} {s : State} {m : MethodId} {below : List Frame} {meth : Method} {c : Code} {b L : Nat} {xs : Nat → Int32} (C0 : Cx G kc p s m c #[Value.ref b] cL_law 4 RL) (hRo : RO0 kc (fun q : Nat => s.heap.size ≤ q) s s.heap) (hX : va_X b L xs s s.heap) (hbl : b < s.heap.size) (hL : L ≤ 3072) {ad1 ad2 : Nat → Nat} {q : Nat} (hq : 6 * q + 6 ≤ L) {σ1 σ2 : Sg} (hT1 : TC σ1) (hJ1 : JC σ1) (hT2 : TM σ2) (hJ2 : JM σ2) (hR : RLb σ1 σ2) {H : Heap} {locs : List Loc} {ls : Array Slot} (hw : TW G kc (fun q : Nat => s.heap.size ≤ q) s.heap ad1 σ1 ad2 σ2 H locs) (hl : lv_has ls 4 [(3, .int (nI (6 * q))), (2, .ref (ad2 0)), (1, .ref (ad1 0)), (0, .ref b)]) (kk : ∀ (σ1 σ2 : Sg) (H : Heap) (locs : List Loc), TC σ1 → JC σ1 → TM σ2 → JM σ2 → RLb σ1 σ2 → TW G kc (fun q : Nat => s.heap.size ≤ q) s.heap ad1 σ1 ad2 σ2 H locs → W p l e room_1 s m #[Value.ref b] below meth c H locs 836 1863908 (lw_Z below #[Value.ref b] s) (F0 m 1616 ls [])) : W p l e room_1 s m #[Value.ref b] below meth c H locs 836 1863908 (lw_Z below #[Value.ref b] s) (F0 m 1223 ls []) := by
  have hx := C0.1
  have hb := C0.2.1
  have hown := C0.2.2.2.1
  have hts := C0.2.2.2.2.1
  have hbA : ¬ (fun q : Nat => s.heap.size ≤ q) b := Nat.not_le.mpr hbl
  refine lv_aload_n hx hb (dkP dF_43 DL_law (i := 823) rfl rfl) rfl (lv_at hl 2 rfl) ?_
  refine lv_aload_n hx hb (dkP dF_42 DL_law (i := 824) rfl rfl) rfl (lv_at hl 3 rfl) ?_
  refine lv_iload_n hx hb (dkP dF_29 DL_law (i := 825) rfl rfl) rfl (lv_at hl 0 rfl) ?_
  refine lv_iconst (v := 1) hx hb (dkP dF_4 DL_law (i := 826) rfl rfl) (by decide) ?_
  refine lv_iadd hx hb (dkP dF_96 DL_law (i := 827) rfl rfl) ?_
  refine z_top (y := nI (6 * q + 1)) (by simp only [fa_lit, nI_add]) ?_
  refine va_sld hx hb hX hbl hbA hw.2.2.1 (i := nI (6 * q + 1)) (vp_in_nI (by omega) (by omega)) (dkP dF_46 DL_law (i := 828) rfl rfl) ?_
  refine lv_aload_n hx hb (dkP dF_42 DL_law (i := 829) rfl rfl) rfl (lv_at hl 3 rfl) ?_
  refine lv_iload_n hx hb (dkP dF_29 DL_law (i := 830) rfl rfl) rfl (lv_at hl 0 rfl) ?_
  refine lv_iconst (v := 2) hx hb (dkP dF_5 DL_law (i := 831) rfl rfl) (by decide) ?_
  refine lv_iadd hx hb (dkP dF_96 DL_law (i := 832) rfl rfl) ?_
  refine z_top (y := nI (6 * q + 2)) (by simp only [fa_lit, nI_add]) ?_
  refine va_sld hx hb hX hbl hbA hw.2.2.1 (i := nI (6 * q + 2)) (vp_in_nI (by omega) (by omega)) (dkP dF_46 DL_law (i := 833) rfl rfl) ?_
  refine q_x (As := [.int (xs (nI (6 * q + 1)).toNatClampNeg), .int (xs (nI (6 * q + 2)).toNatClampNeg)]) (rest := []) C0 hRo hw (c_X11_form_w l G kc ad1 σ1 (xs (nI (6 * q + 1)).toNatClampNeg) (xs (nI (6 * q + 2)).toNatClampNeg) hJ1 hT1) rfl cv_X11_form lk_L_151 rfl hl.1 rfl ⟨by decide, by decide⟩ (Nat.le_of_ble_eq_true rfl) (dk2 dF_182 DL_law (i := 834) rfl rfl rfl) ⟨by decide, by decide⟩ (fun r1 s1 H locs hp1 hw => ?_)
  obtain ⟨g1_0, g1_1, g1_2, hT1_, hF1⟩ := hp1
  have hJ1 := g1_2
  have hT1 := hT1_
  refine lv_pop hx hb (dkP dF_87 DL_law (i := 835) rfl rfl) rfl ?_
  refine lv_aload_n hx hb (dkP dF_44 DL_law (i := 836) rfl rfl) rfl (lv_at hl 1 rfl) ?_
  refine lv_aload_n hx hb (dkP dF_42 DL_law (i := 837) rfl rfl) rfl (lv_at hl 3 rfl) ?_
  refine lv_iload_n hx hb (dkP dF_29 DL_law (i := 838) rfl rfl) rfl (lv_at hl 0 rfl) ?_
  refine lv_iconst (v := 1) hx hb (dkP dF_4 DL_law (i := 839) rfl rfl) (by decide) ?_
  refine lv_iadd hx hb (dkP dF_96 DL_law (i := 840) rfl rfl) ?_
  refine z_top (y := nI (6 * q + 1)) (by simp only [fa_lit, nI_add]) ?_
  refine va_sld hx hb hX hbl hbA hw.2.2.1 (i := nI (6 * q + 1)) (vp_in_nI (by omega) (by omega)) (dkP dF_46 DL_law (i := 841) rfl rfl) ?_
  refine lv_aload_n hx hb (dkP dF_42 DL_law (i := 842) rfl rfl) rfl (lv_at hl 3 rfl) ?_
  refine lv_iload_n hx hb (dkP dF_29 DL_law (i := 843) rfl rfl) rfl (lv_at hl 0 rfl) ?_
  refine lv_iconst (v := 2) hx hb (dkP dF_5 DL_law (i := 844) rfl rfl) (by decide) ?_
  refine lv_iadd hx hb (dkP dF_96 DL_law (i := 845) rfl rfl) ?_
  refine z_top (y := nI (6 * q + 2)) (by simp only [fa_lit, nI_add]) ?_
  refine va_sld hx hb hX hbl hbA hw.2.2.1 (i := nI (6 * q + 2)) (vp_in_nI (by omega) (by omega)) (dkP dF_46 DL_law (i := 846) rfl rfl) ?_
  refine q_m (As := [.int (xs (nI (6 * q + 1)).toNatClampNeg), .int (xs (nI (6 * q + 2)).toNatClampNeg)]) (rest := []) C0 hRo hw (c_X12_form_w l G kc ad2 σ2 (xs (nI (6 * q + 1)).toNatClampNeg) (xs (nI (6 * q + 2)).toNatClampNeg)  hT2) rfl cv_X12_form lk_L_154 rfl hl.1 rfl ⟨by decide, by decide⟩ (Nat.le_of_ble_eq_true rfl) (dk2 dF_182 DL_law (i := 847) rfl rfl rfl) ⟨by decide, by decide⟩ (fun r2 s2 H locs hp2 hw => ?_)
  obtain ⟨g2_0, g2_1, g2_2, hT2_, hF2⟩ := hp2
  have hJ2 := hJ2.c (fun k h1 h2 => g2_2 k (by omega) (by omega)) (hF2.1 2 (by decide) (by decide)) (hF2.1 3 (by decide) (by decide))
  have hT2 := hT2_
  have hM := FMU.two g1_1 g2_1 (FMQ.one g1_0 g2_0) hR.2.1.2.1 hR.2.1.2.2.1 hR.2.1.2.2.2.1
  have hN : RLb s1 s2 := hR.m (fun x k hx9 => hF1.1 x k (fun h9 => by rcases hx9 with rfl | hx9 <;> first | (simp at h9; done) | omega)) ⟨fun k => congrFun (hF2.1 2 (by decide) (by decide)) k, fun k => congrFun (hF2.1 3 (by decide) (by decide)) k⟩ (SMc.rows hR.2.1 hM.1 hM.2.1 hM.2.2 (fun x k hx9 => hF1.1 x k (fun h9 => by rcases hx9 with rfl | rfl <;> first | (simp at h9; done) | omega)) g2_2)
  refine lv_pop hx hb (dkP dF_87 DL_law (i := 848) rfl rfl) rfl ?_
  refine lv_goto (tgt := 1616) hx hb (dkS dF_167 DL_law (i := 849) rfl rfl rfl) (by decide) ?_
  exact kk _ _ _ _ hT1 hJ1 hT2 hJ2 hN hw
set_option maxRecDepth 100000 in
set_option maxHeartbeats 4000000 in
theorem law_34 (l : Launch) (G : va_G) (kc : KC) {p : Program} {e : Env} {s : State} {m : MethodId} {below : List Frame} {meth : Method} {c : Code} {b L : Nat} {xs : Nat → Int32} (C0 : Cx G kc p s m c #[Value.ref b] cL_law 4 RL) (hRo : RO0 kc (fun q : Nat => s.heap.size ≤ q) s s.heap) (hX : va_X b L xs s s.heap) (hbl : b < s.heap.size) (hL : L ≤ 3072) {ad1 ad2 : Nat → Nat} {q : Nat} (hq : 6 * q + 6 ≤ L) {σ1 σ2 : Sg} (hT1 : TC σ1) (hJ1 : JC σ1) (hT2 : TM σ2) (hJ2 : JM σ2) (hR : RLb σ1 σ2) {H : Heap} {locs : List Loc} {ls : Array Slot} (hw : TW G kc (fun q : Nat => s.heap.size ≤ q) s.heap ad1 σ1 ad2 σ2 H locs) (hl : lv_has ls 4 [(3, .int (nI (6 * q))), (2, .ref (ad2 0)), (1, .ref (ad1 0)), (0, .ref b)]) (kk : ∀ (σ1 σ2 : Sg) (H : Heap) (locs : List Loc), TC σ1 → JC σ1 → TM σ2 → JM σ2 → RLb σ1 σ2 → TW G kc (fun q : Nat => s.heap.size ≤ q) s.heap ad1 σ1 ad2 σ2 H locs → W p l e room_1 s m #[Value.ref b] below meth c H locs 836 1863908 (lw_Z below #[Value.ref b] s) (F0 m 1616 ls [])) : W p l e room_1 s m #[Value.ref b] below meth c H locs 836 1863908 (lw_Z below #[Value.ref b] s) (F0 m 1256 ls []) := by
  have hx := C0.1
  have hb := C0.2.1
  have hown := C0.2.2.2.1
  have hts := C0.2.2.2.2.1
  have hbA : ¬ (fun q : Nat => s.heap.size ≤ q) b := Nat.not_le.mpr hbl
  refine lv_aload_n hx hb (dkP dF_43 DL_law (i := 850) rfl rfl) rfl (lv_at hl 2 rfl) ?_
  refine lv_aload_n hx hb (dkP dF_42 DL_law (i := 851) rfl rfl) rfl (lv_at hl 3 rfl) ?_
  refine lv_iload_n hx hb (dkP dF_29 DL_law (i := 852) rfl rfl) rfl (lv_at hl 0 rfl) ?_
  refine lv_iconst (v := 1) hx hb (dkP dF_4 DL_law (i := 853) rfl rfl) (by decide) ?_
  refine lv_iadd hx hb (dkP dF_96 DL_law (i := 854) rfl rfl) ?_
  refine z_top (y := nI (6 * q + 1)) (by simp only [fa_lit, nI_add]) ?_
  refine va_sld hx hb hX hbl hbA hw.2.2.1 (i := nI (6 * q + 1)) (vp_in_nI (by omega) (by omega)) (dkP dF_46 DL_law (i := 855) rfl rfl) ?_
  refine lv_aload_n hx hb (dkP dF_42 DL_law (i := 856) rfl rfl) rfl (lv_at hl 3 rfl) ?_
  refine lv_iload_n hx hb (dkP dF_29 DL_law (i := 857) rfl rfl) rfl (lv_at hl 0 rfl) ?_
  refine lv_iconst (v := 2) hx hb (dkP dF_5 DL_law (i := 858) rfl rfl) (by decide) ?_
  refine lv_iadd hx hb (dkP dF_96 DL_law (i := 859) rfl rfl) ?_
  refine z_top (y := nI (6 * q + 2)) (by simp only [fa_lit, nI_add]) ?_
  refine va_sld hx hb hX hbl hbA hw.2.2.1 (i := nI (6 * q + 2)) (vp_in_nI (by omega) (by omega)) (dkP dF_46 DL_law (i := 860) rfl rfl) ?_
  refine lv_aload_n hx hb (dkP dF_42 DL_law (i := 861) rfl rfl) rfl (lv_at hl 3 rfl) ?_
  refine lv_iload_n hx hb (dkP dF_29 DL_law (i := 862) rfl rfl) rfl (lv_at hl 0 rfl) ?_
  refine lv_iconst (v := 3) hx hb (dkP dF_6 DL_law (i := 863) rfl rfl) (by decide) ?_
  refine lv_iadd hx hb (dkP dF_96 DL_law (i := 864) rfl rfl) ?_
  refine z_top (y := nI (6 * q + 3)) (by simp only [fa_lit, nI_add]) ?_
  refine va_sld hx hb hX hbl hbA hw.2.2.1 (i := nI (6 * q + 3)) (vp_in_nI (by omega) (by omega)) (dkP dF_46 DL_law (i := 865) rfl rfl) ?_
  refine q_x (As := [.int (xs (nI (6 * q + 1)).toNatClampNeg), .int (xs (nI (6 * q + 2)).toNatClampNeg), .int (xs (nI (6 * q + 3)).toNatClampNeg)]) (rest := []) C0 hRo hw (c_X11_put_w l G kc ad1 σ1 (xs (nI (6 * q + 1)).toNatClampNeg) (xs (nI (6 * q + 2)).toNatClampNeg) (xs (nI (6 * q + 3)).toNatClampNeg) hJ1 hT1) rfl cv_X11_put lk_L_155 rfl hl.1 rfl ⟨by decide, by decide⟩ (Nat.le_of_ble_eq_true rfl) (dk2 dF_182 DL_law (i := 866) rfl rfl rfl) ⟨by decide, by decide⟩ (fun r1 s1 H locs hp1 hw => ?_)
  obtain ⟨g1_0, g1_1, hT1_, hF1⟩ := hp1
  have hJ1 := g1_1
  have hT1 := hT1_
  refine lv_pop hx hb (dkP dF_87 DL_law (i := 867) rfl rfl) rfl ?_
  refine lv_aload_n hx hb (dkP dF_44 DL_law (i := 868) rfl rfl) rfl (lv_at hl 1 rfl) ?_
  refine lv_aload_n hx hb (dkP dF_42 DL_law (i := 869) rfl rfl) rfl (lv_at hl 3 rfl) ?_
  refine lv_iload_n hx hb (dkP dF_29 DL_law (i := 870) rfl rfl) rfl (lv_at hl 0 rfl) ?_
  refine lv_iconst (v := 1) hx hb (dkP dF_4 DL_law (i := 871) rfl rfl) (by decide) ?_
  refine lv_iadd hx hb (dkP dF_96 DL_law (i := 872) rfl rfl) ?_
  refine z_top (y := nI (6 * q + 1)) (by simp only [fa_lit, nI_add]) ?_
  refine va_sld hx hb hX hbl hbA hw.2.2.1 (i := nI (6 * q + 1)) (vp_in_nI (by omega) (by omega)) (dkP dF_46 DL_law (i := 873) rfl rfl) ?_
  refine lv_aload_n hx hb (dkP dF_42 DL_law (i := 874) rfl rfl) rfl (lv_at hl 3 rfl) ?_
  refine lv_iload_n hx hb (dkP dF_29 DL_law (i := 875) rfl rfl) rfl (lv_at hl 0 rfl) ?_
  refine lv_iconst (v := 2) hx hb (dkP dF_5 DL_law (i := 876) rfl rfl) (by decide) ?_
  refine lv_iadd hx hb (dkP dF_96 DL_law (i := 877) rfl rfl) ?_
  refine z_top (y := nI (6 * q + 2)) (by simp only [fa_lit, nI_add]) ?_
  refine va_sld hx hb hX hbl hbA hw.2.2.1 (i := nI (6 * q + 2)) (vp_in_nI (by omega) (by omega)) (dkP dF_46 DL_law (i := 878) rfl rfl) ?_
  refine lv_aload_n hx hb (dkP dF_42 DL_law (i := 879) rfl rfl) rfl (lv_at hl 3 rfl) ?_
  refine lv_iload_n hx hb (dkP dF_29 DL_law (i := 880) rfl rfl) rfl (lv_at hl 0 rfl) ?_
  refine lv_iconst (v := 3) hx hb (dkP dF_6 DL_law (i := 881) rfl rfl) (by decide) ?_
  refine lv_iadd hx hb (dkP dF_96 DL_law (i := 882) rfl rfl) ?_
  refine z_top (y := nI (6 * q + 3)) (by simp only [fa_lit, nI_add]) ?_
  refine va_sld hx hb hX hbl hbA hw.2.2.1 (i := nI (6 * q + 3)) (vp_in_nI (by omega) (by omega)) (dkP dF_46 DL_law (i := 883) rfl rfl) ?_
  refine q_m (As := [.int (xs (nI (6 * q + 1)).toNatClampNeg), .int (xs (nI (6 * q + 2)).toNatClampNeg), .int (xs (nI (6 * q + 3)).toNatClampNeg)]) (rest := []) C0 hRo hw (c_X12_put_w l G kc ad2 σ2 (xs (nI (6 * q + 1)).toNatClampNeg) (xs (nI (6 * q + 2)).toNatClampNeg) (xs (nI (6 * q + 3)).toNatClampNeg)  hT2) rfl cv_X12_put lk_L_158 rfl hl.1 rfl ⟨by decide, by decide⟩ (Nat.le_of_ble_eq_true rfl) (dk2 dF_182 DL_law (i := 884) rfl rfl rfl) ⟨by decide, by decide⟩ (fun r2 s2 H locs hp2 hw => ?_)
  obtain ⟨g2_0, g2_1, hT2_, hF2⟩ := hp2
  have hJ2 := hJ2.c (fun k h1 h2 => g2_1 k (by omega)) (hF2.1 2 (by decide) (by decide)) (hF2.1 3 (by decide) (by decide))
  have hT2 := hT2_
  have hN : RLb s1 s2 := hR.m (fun x k hx9 => hF1.1 x k (fun h9 => by rcases hx9 with rfl | hx9 <;> first | (simp at h9; done) | omega)) ⟨fun k => congrFun (hF2.1 2 (by decide) (by decide)) k, fun k => congrFun (hF2.1 3 (by decide) (by decide)) k⟩ (SMc.rows hR.2.1 (PTU.both g1_0 g2_0 hR.2.1.2.1).2 ((hF1.1 6 1 (fun h9 => by first | (simp at h9; done) | omega)).trans (hR.2.1.2.2.1.trans (g2_1 3 (by decide)).symm)) ((hF1.1 6 2 (fun h9 => by first | (simp at h9; done) | omega)).trans (hR.2.1.2.2.2.1.trans (g2_1 4 (by decide)).symm)) (fun x k hx9 => hF1.1 x k (fun h9 => by rcases hx9 with rfl | rfl <;> first | (simp at h9; done) | omega)) (fun x h1 h2 => g2_1 x (by omega)))
  refine lv_pop hx hb (dkP dF_87 DL_law (i := 885) rfl rfl) rfl ?_
  refine lv_goto (tgt := 1616) hx hb (dkS dF_167 DL_law (i := 886) rfl rfl rfl) (by decide) ?_
  exact kk _ _ _ _ hT1 hJ1 hT2 hJ2 hN hw
set_option maxRecDepth 100000 in
set_option maxHeartbeats 4000000 in
theorem law_35 (l : Launch) (G : va_G) (kc : KC) {p : Program} {e : Env} {s : State} {m : MethodId} {below : List Frame} {meth : Method} {c : Code} {b L : Nat} {xs : Nat → Int32} (C0 : Cx G kc p s m c #[Value.ref b] cL_law 4 RL) (hRo : RO0 kc (fun q : Nat => s.heap.size ≤ q) s s.heap) (hX : va_X b L xs s s.heap) (hbl : b < s.heap.size) (hL : L ≤ 3072) {ad1 ad2 : Nat → Nat} {q : Nat} (hq : 6 * q + 6 ≤ L) {σ1 σ2 : Sg} (hT1 : TC σ1) (hJ1 : JC σ1) (hT2 : TM σ2) (hJ2 : JM σ2) (hR : RLb σ1 σ2) {H : Heap} {locs : List Loc} {ls : Array Slot} (hw : TW G kc (fun q : Nat => s.heap.size ≤ q) s.heap ad1 σ1 ad2 σ2 H locs) (hl : lv_has ls 4 [(3, .int (nI (6 * q))), (2, .ref (ad2 0)), (1, .ref (ad1 0)), (0, .ref b)]) (kk : ∀ (σ1 σ2 : Sg) (H : Heap) (locs : List Loc), TC σ1 → JC σ1 → TM σ2 → JM σ2 → RLb σ1 σ2 → TW G kc (fun q : Nat => s.heap.size ≤ q) s.heap ad1 σ1 ad2 σ2 H locs → W p l e room_1 s m #[Value.ref b] below meth c H locs 836 1863908 (lw_Z below #[Value.ref b] s) (F0 m 1616 ls [])) : W p l e room_1 s m #[Value.ref b] below meth c H locs 836 1863908 (lw_Z below #[Value.ref b] s) (F0 m 1299 ls []) := by
  have hx := C0.1
  have hb := C0.2.1
  have hown := C0.2.2.2.1
  have hts := C0.2.2.2.2.1
  have hbA : ¬ (fun q : Nat => s.heap.size ≤ q) b := Nat.not_le.mpr hbl
  refine lv_aload_n hx hb (dkP dF_43 DL_law (i := 887) rfl rfl) rfl (lv_at hl 2 rfl) ?_
  refine lv_aload_n hx hb (dkP dF_42 DL_law (i := 888) rfl rfl) rfl (lv_at hl 3 rfl) ?_
  refine lv_iload_n hx hb (dkP dF_29 DL_law (i := 889) rfl rfl) rfl (lv_at hl 0 rfl) ?_
  refine lv_iconst (v := 1) hx hb (dkP dF_4 DL_law (i := 890) rfl rfl) (by decide) ?_
  refine lv_iadd hx hb (dkP dF_96 DL_law (i := 891) rfl rfl) ?_
  refine z_top (y := nI (6 * q + 1)) (by simp only [fa_lit, nI_add]) ?_
  refine va_sld hx hb hX hbl hbA hw.2.2.1 (i := nI (6 * q + 1)) (vp_in_nI (by omega) (by omega)) (dkP dF_46 DL_law (i := 892) rfl rfl) ?_
  refine q_x (As := [.int (xs (nI (6 * q + 1)).toNatClampNeg)]) (rest := []) C0 hRo hw (c_X11_lead_w l G kc ad1 σ1 (xs (nI (6 * q + 1)).toNatClampNeg) hJ1 hT1) rfl cv_X11_lead lk_L_159 rfl hl.1 rfl ⟨by decide, by decide⟩ (Nat.le_of_ble_eq_true rfl) (dk2 dF_182 DL_law (i := 893) rfl rfl rfl) ⟨by decide, by decide⟩ (fun r1 s1 H locs hp1 hw => ?_)
  obtain ⟨g1_0, g1_1, hT1_, hF1⟩ := hp1
  have hJ1 := g1_1
  have hT1 := hT1_
  refine lv_pop hx hb (dkP dF_87 DL_law (i := 894) rfl rfl) rfl ?_
  refine lv_aload_n hx hb (dkP dF_44 DL_law (i := 895) rfl rfl) rfl (lv_at hl 1 rfl) ?_
  refine lv_aload_n hx hb (dkP dF_42 DL_law (i := 896) rfl rfl) rfl (lv_at hl 3 rfl) ?_
  refine lv_iload_n hx hb (dkP dF_29 DL_law (i := 897) rfl rfl) rfl (lv_at hl 0 rfl) ?_
  refine lv_iconst (v := 1) hx hb (dkP dF_4 DL_law (i := 898) rfl rfl) (by decide) ?_
  refine lv_iadd hx hb (dkP dF_96 DL_law (i := 899) rfl rfl) ?_
  refine z_top (y := nI (6 * q + 1)) (by simp only [fa_lit, nI_add]) ?_
  refine va_sld hx hb hX hbl hbA hw.2.2.1 (i := nI (6 * q + 1)) (vp_in_nI (by omega) (by omega)) (dkP dF_46 DL_law (i := 900) rfl rfl) ?_
  refine q_m (As := [.int (xs (nI (6 * q + 1)).toNatClampNeg)]) (rest := []) C0 hRo hw (c_X12_lead_w l G kc ad2 σ2 (xs (nI (6 * q + 1)).toNatClampNeg)  hT2) rfl cv_X12_lead lk_L_162 rfl hl.1 rfl ⟨by decide, by decide⟩ (Nat.le_of_ble_eq_true rfl) (dk2 dF_182 DL_law (i := 901) rfl rfl rfl) ⟨by decide, by decide⟩ (fun r2 s2 H locs hp2 hw => ?_)
  obtain ⟨g2_0, g2_1, hT2_, hF2⟩ := hp2
  have hJ2 := hJ2.c (fun k h1 h2 => g2_1 k (by omega)) (hF2.1 2 (by decide) (by decide)) (hF2.1 3 (by decide) (by decide))
  have hT2 := hT2_
  have hN : RLb s1 s2 := hR.m (fun x k hx9 => hF1.1 x k (fun h9 => by rcases hx9 with rfl | hx9 <;> first | (simp at h9; done) | omega)) ⟨fun k => congrFun (hF2.1 2 (by decide) (by decide)) k, fun k => congrFun (hF2.1 3 (by decide) (by decide)) k⟩ (SMc.rows hR.2.1 (LEU.both g1_0 g2_0 hR.2.1.2.1 hR.2.1.2.2.1 hR.2.1.2.2.2.1).2 ((hF1.1 6 1 (fun h9 => by first | (simp at h9; done) | omega)).trans (hR.2.1.2.2.1.trans (g2_1 3 (by decide)).symm)) ((hF1.1 6 2 (fun h9 => by first | (simp at h9; done) | omega)).trans (hR.2.1.2.2.2.1.trans (g2_1 4 (by decide)).symm)) (fun x k hx9 => hF1.1 x k (fun h9 => by rcases hx9 with rfl | rfl <;> first | (simp at h9; done) | omega)) (fun x h1 h2 => g2_1 x (by omega)))
  refine lv_pop hx hb (dkP dF_87 DL_law (i := 902) rfl rfl) rfl ?_
  refine lv_goto (tgt := 1616) hx hb (dkS dF_167 DL_law (i := 903) rfl rfl rfl) (by decide) ?_
  exact kk _ _ _ _ hT1 hJ1 hT2 hJ2 hN hw
set_option maxRecDepth 100000 in
set_option maxHeartbeats 4000000 in
theorem law_36 (l : Launch) (G : va_G) (kc : KC) {p : Program} {e : Env} {s : State} {m : MethodId} {below : List Frame} {meth : Method} {c : Code} {b L : Nat} {xs : Nat → Int32} (C0 : Cx G kc p s m c #[Value.ref b] cL_law 4 RL) (hRo : RO0 kc (fun q : Nat => s.heap.size ≤ q) s s.heap) (hX : va_X b L xs s s.heap) (hbl : b < s.heap.size) (hL : L ≤ 3072) {ad1 ad2 : Nat → Nat} {q : Nat} (hq : 6 * q + 6 ≤ L) {σ1 σ2 : Sg} (hT1 : TC σ1) (hJ1 : JC σ1) (hT2 : TM σ2) (hJ2 : JM σ2) (hR : RLb σ1 σ2) {H : Heap} {locs : List Loc} {ls : Array Slot} (hw : TW G kc (fun q : Nat => s.heap.size ≤ q) s.heap ad1 σ1 ad2 σ2 H locs) (hl : lv_has ls 4 [(3, .int (nI (6 * q))), (2, .ref (ad2 0)), (1, .ref (ad1 0)), (0, .ref b)]) (kk : ∀ (σ1 σ2 : Sg) (H : Heap) (locs : List Loc), TC σ1 → JC σ1 → TM σ2 → JM σ2 → RLb σ1 σ2 → TW G kc (fun q : Nat => s.heap.size ≤ q) s.heap ad1 σ1 ad2 σ2 H locs → W p l e room_1 s m #[Value.ref b] below meth c H locs 836 1863908 (lw_Z below #[Value.ref b] s) (F0 m 1616 ls [])) : W p l e room_1 s m #[Value.ref b] below meth c H locs 836 1863908 (lw_Z below #[Value.ref b] s) (F0 m 1322 ls []) := by
  have hx := C0.1
  have hb := C0.2.1
  have hown := C0.2.2.2.1
  have hts := C0.2.2.2.2.1
  have hbA : ¬ (fun q : Nat => s.heap.size ≤ q) b := Nat.not_le.mpr hbl
  refine lv_aload_n hx hb (dkP dF_43 DL_law (i := 904) rfl rfl) rfl (lv_at hl 2 rfl) ?_
  refine lv_aload_n hx hb (dkP dF_42 DL_law (i := 905) rfl rfl) rfl (lv_at hl 3 rfl) ?_
  refine lv_iload_n hx hb (dkP dF_29 DL_law (i := 906) rfl rfl) rfl (lv_at hl 0 rfl) ?_
  refine lv_iconst (v := 1) hx hb (dkP dF_4 DL_law (i := 907) rfl rfl) (by decide) ?_
  refine lv_iadd hx hb (dkP dF_96 DL_law (i := 908) rfl rfl) ?_
  refine z_top (y := nI (6 * q + 1)) (by simp only [fa_lit, nI_add]) ?_
  refine va_sld hx hb hX hbl hbA hw.2.2.1 (i := nI (6 * q + 1)) (vp_in_nI (by omega) (by omega)) (dkP dF_46 DL_law (i := 909) rfl rfl) ?_
  refine lv_aload_n hx hb (dkP dF_42 DL_law (i := 910) rfl rfl) rfl (lv_at hl 3 rfl) ?_
  refine lv_iload_n hx hb (dkP dF_29 DL_law (i := 911) rfl rfl) rfl (lv_at hl 0 rfl) ?_
  refine lv_iconst (v := 2) hx hb (dkP dF_5 DL_law (i := 912) rfl rfl) (by decide) ?_
  refine lv_iadd hx hb (dkP dF_96 DL_law (i := 913) rfl rfl) ?_
  refine z_top (y := nI (6 * q + 2)) (by simp only [fa_lit, nI_add]) ?_
  refine va_sld hx hb hX hbl hbA hw.2.2.1 (i := nI (6 * q + 2)) (vp_in_nI (by omega) (by omega)) (dkP dF_46 DL_law (i := 914) rfl rfl) ?_
  refine q_x (As := [.int (xs (nI (6 * q + 1)).toNatClampNeg), .int (xs (nI (6 * q + 2)).toNatClampNeg)]) (rest := []) C0 hRo hw (c_X11_row_w l G kc ad1 σ1 (xs (nI (6 * q + 1)).toNatClampNeg) (xs (nI (6 * q + 2)).toNatClampNeg) hJ1 hT1) rfl cv_X11_row lk_L_163 rfl hl.1 rfl ⟨by decide, by decide⟩ (Nat.le_of_ble_eq_true rfl) (dk2 dF_182 DL_law (i := 915) rfl rfl rfl) ⟨by decide, by decide⟩ (fun r1 s1 H locs hp1 hw => ?_)
  obtain ⟨g1_0, g1_1, es1⟩ := hp1
  rw [es1] at hw
  have hA : KA2 σ1 s1 := fun x k _ => by rw [es1]
  refine lv_pop hx hb (dkP dF_87 DL_law (i := 916) rfl rfl) rfl ?_
  refine lv_aload_n hx hb (dkP dF_44 DL_law (i := 917) rfl rfl) rfl (lv_at hl 1 rfl) ?_
  refine lv_aload_n hx hb (dkP dF_42 DL_law (i := 918) rfl rfl) rfl (lv_at hl 3 rfl) ?_
  refine lv_iload_n hx hb (dkP dF_29 DL_law (i := 919) rfl rfl) rfl (lv_at hl 0 rfl) ?_
  refine lv_iconst (v := 1) hx hb (dkP dF_4 DL_law (i := 920) rfl rfl) (by decide) ?_
  refine lv_iadd hx hb (dkP dF_96 DL_law (i := 921) rfl rfl) ?_
  refine z_top (y := nI (6 * q + 1)) (by simp only [fa_lit, nI_add]) ?_
  refine va_sld hx hb hX hbl hbA hw.2.2.1 (i := nI (6 * q + 1)) (vp_in_nI (by omega) (by omega)) (dkP dF_46 DL_law (i := 922) rfl rfl) ?_
  refine lv_aload_n hx hb (dkP dF_42 DL_law (i := 923) rfl rfl) rfl (lv_at hl 3 rfl) ?_
  refine lv_iload_n hx hb (dkP dF_29 DL_law (i := 924) rfl rfl) rfl (lv_at hl 0 rfl) ?_
  refine lv_iconst (v := 2) hx hb (dkP dF_5 DL_law (i := 925) rfl rfl) (by decide) ?_
  refine lv_iadd hx hb (dkP dF_96 DL_law (i := 926) rfl rfl) ?_
  refine z_top (y := nI (6 * q + 2)) (by simp only [fa_lit, nI_add]) ?_
  refine va_sld hx hb hX hbl hbA hw.2.2.1 (i := nI (6 * q + 2)) (vp_in_nI (by omega) (by omega)) (dkP dF_46 DL_law (i := 927) rfl rfl) ?_
  refine q_m (As := [.int (xs (nI (6 * q + 1)).toNatClampNeg), .int (xs (nI (6 * q + 2)).toNatClampNeg)]) (rest := []) C0 hRo hw (c_X12_row_w l G kc ad2 σ2 (xs (nI (6 * q + 1)).toNatClampNeg) (xs (nI (6 * q + 2)).toNatClampNeg)  hT2) rfl cv_X12_row lk_L_166 rfl hl.1 rfl ⟨by decide, by decide⟩ (Nat.le_of_ble_eq_true rfl) (dk2 dF_182 DL_law (i := 928) rfl rfl rfl) ⟨by decide, by decide⟩ (fun r2 s2 H locs hp2 hw => ?_)
  obtain ⟨g2_0, es2⟩ := hp2
  rw [es2] at hw
  have hB : KB2 σ2 s2 := ⟨fun k => by rw [es2], fun k => by rw [es2], fun k _ => by rw [es2]⟩
  have hN : RLb s1 s2 := hR.f hA hB
  rw [es1] at hN
  rw [es2] at hN
  refine lv_pop hx hb (dkP dF_87 DL_law (i := 929) rfl rfl) rfl ?_
  refine lv_goto (tgt := 1616) hx hb (dkS dF_167 DL_law (i := 930) rfl rfl rfl) (by decide) ?_
  exact kk _ _ _ _ hT1 hJ1 hT2 hJ2 hN hw
set_option maxRecDepth 100000 in
set_option maxHeartbeats 4000000 in
theorem law_37 (l : Launch) (G : va_G) (kc : KC) {p : Program} {e : Env} {s : State} {m : MethodId} {below : List Frame} {meth : Method} {c : Code} {b L : Nat} {xs : Nat → Int32} (C0 : Cx G kc p s m c #[Value.ref b] cL_law 4 RL) (hRo : RO0 kc (fun q : Nat => s.heap.size ≤ q) s s.heap) (hX : va_X b L xs s s.heap) (hbl : b < s.heap.size) (hL : L ≤ 3072) {ad1 ad2 : Nat → Nat} {q : Nat} (hq : 6 * q + 6 ≤ L) {σ1 σ2 : Sg} (hT1 : TC σ1) (hJ1 : JC σ1) (hT2 : TM σ2) (hJ2 : JM σ2) (hR : RLb σ1 σ2) {H : Heap} {locs : List Loc} {ls : Array Slot} (hw : TW G kc (fun q : Nat => s.heap.size ≤ q) s.heap ad1 σ1 ad2 σ2 H locs) (hl : lv_has ls 4 [(3, .int (nI (6 * q))), (2, .ref (ad2 0)), (1, .ref (ad1 0)), (0, .ref b)]) (kk : ∀ (σ1 σ2 : Sg) (H : Heap) (locs : List Loc), TC σ1 → JC σ1 → TM σ2 → JM σ2 → RLb σ1 σ2 → TW G kc (fun q : Nat => s.heap.size ≤ q) s.heap ad1 σ1 ad2 σ2 H locs → W p l e room_1 s m #[Value.ref b] below meth c H locs 836 1863908 (lw_Z below #[Value.ref b] s) (F0 m 1616 ls [])) : W p l e room_1 s m #[Value.ref b] below meth c H locs 836 1863908 (lw_Z below #[Value.ref b] s) (F0 m 1355 ls []) := by
  have hx := C0.1
  have hb := C0.2.1
  have hown := C0.2.2.2.1
  have hts := C0.2.2.2.2.1
  have hbA : ¬ (fun q : Nat => s.heap.size ≤ q) b := Nat.not_le.mpr hbl
  refine lv_aload_n hx hb (dkP dF_43 DL_law (i := 931) rfl rfl) rfl (lv_at hl 2 rfl) ?_
  refine q_x (As := []) (rest := []) C0 hRo hw (c_X11_check_w l G kc ad1 σ1  hJ1 hT1) rfl cv_X11_check lk_L_167 rfl hl.1 rfl ⟨by decide, by decide⟩ (Nat.le_of_ble_eq_true rfl) (dk2 dF_182 DL_law (i := 932) rfl rfl rfl) ⟨by decide, by decide⟩ (fun r1 s1 H locs hp1 hw => ?_)
  obtain ⟨g1_0, g1_1, es1⟩ := hp1
  rw [es1] at hw
  have hA : KA2 σ1 s1 := fun x k _ => by rw [es1]
  refine lv_pop hx hb (dkP dF_87 DL_law (i := 933) rfl rfl) rfl ?_
  refine lv_aload_n hx hb (dkP dF_44 DL_law (i := 934) rfl rfl) rfl (lv_at hl 1 rfl) ?_
  refine q_m (As := []) (rest := []) C0 hRo hw (c_X12_check_w l G kc ad2 σ2   hT2) rfl cv_X12_check lk_L_170 rfl hl.1 rfl ⟨by decide, by decide⟩ (Nat.le_of_ble_eq_true rfl) (dk2 dF_182 DL_law (i := 935) rfl rfl rfl) ⟨by decide, by decide⟩ (fun r2 s2 H locs hp2 hw => ?_)
  obtain ⟨g2_0, es2⟩ := hp2
  rw [es2] at hw
  have hB : KB2 σ2 s2 := ⟨fun k => by rw [es2], fun k => by rw [es2], fun k _ => by rw [es2]⟩
  have hN : RLb s1 s2 := hR.f hA hB
  rw [es1] at hN
  rw [es2] at hN
  refine lv_pop hx hb (dkP dF_87 DL_law (i := 936) rfl rfl) rfl ?_
  refine lv_goto (tgt := 1616) hx hb (dkS dF_167 DL_law (i := 937) rfl rfl rfl) (by decide) ?_
  exact kk _ _ _ _ hT1 hJ1 hT2 hJ2 hN hw
set_option maxRecDepth 100000 in
set_option maxHeartbeats 4000000 in
theorem law_38 (l : Launch) (G : va_G) (kc : KC) {p : Program} {e : Env} {s : State} {m : MethodId} {below : List Frame} {meth : Method} {c : Code} {b L : Nat} {xs : Nat → Int32} (C0 : Cx G kc p s m c #[Value.ref b] cL_law 4 RL) (hRo : RO0 kc (fun q : Nat => s.heap.size ≤ q) s s.heap) (hX : va_X b L xs s s.heap) (hbl : b < s.heap.size) (hL : L ≤ 3072) {ad1 ad2 : Nat → Nat} {q : Nat} (hq : 6 * q + 6 ≤ L) {σ1 σ2 : Sg} (hT1 : TC σ1) (hJ1 : JC σ1) (hT2 : TM σ2) (hJ2 : JM σ2) (hR : RLb σ1 σ2) {H : Heap} {locs : List Loc} {ls : Array Slot} (hw : TW G kc (fun q : Nat => s.heap.size ≤ q) s.heap ad1 σ1 ad2 σ2 H locs) (hl : lv_has ls 4 [(3, .int (nI (6 * q))), (2, .ref (ad2 0)), (1, .ref (ad1 0)), (0, .ref b)]) (kk : ∀ (σ1 σ2 : Sg) (H : Heap) (locs : List Loc), TC σ1 → JC σ1 → TM σ2 → JM σ2 → RLb σ1 σ2 → TW G kc (fun q : Nat => s.heap.size ≤ q) s.heap ad1 σ1 ad2 σ2 H locs → W p l e room_1 s m #[Value.ref b] below meth c H locs 836 1863908 (lw_Z below #[Value.ref b] s) (F0 m 1616 ls [])) : W p l e room_1 s m #[Value.ref b] below meth c H locs 836 1863908 (lw_Z below #[Value.ref b] s) (F0 m 1368 ls []) := by
  have hx := C0.1
  have hb := C0.2.1
  have hown := C0.2.2.2.1
  have hts := C0.2.2.2.2.1
  have hbA : ¬ (fun q : Nat => s.heap.size ≤ q) b := Nat.not_le.mpr hbl
  refine lv_aload_n hx hb (dkP dF_43 DL_law (i := 938) rfl rfl) rfl (lv_at hl 2 rfl) ?_
  refine lv_aload_n hx hb (dkP dF_42 DL_law (i := 939) rfl rfl) rfl (lv_at hl 3 rfl) ?_
  refine lv_iload_n hx hb (dkP dF_29 DL_law (i := 940) rfl rfl) rfl (lv_at hl 0 rfl) ?_
  refine lv_iconst (v := 1) hx hb (dkP dF_4 DL_law (i := 941) rfl rfl) (by decide) ?_
  refine lv_iadd hx hb (dkP dF_96 DL_law (i := 942) rfl rfl) ?_
  refine z_top (y := nI (6 * q + 1)) (by simp only [fa_lit, nI_add]) ?_
  refine va_sld hx hb hX hbl hbA hw.2.2.1 (i := nI (6 * q + 1)) (vp_in_nI (by omega) (by omega)) (dkP dF_46 DL_law (i := 943) rfl rfl) ?_
  refine q_x (As := [.int (xs (nI (6 * q + 1)).toNatClampNeg)]) (rest := []) C0 hRo hw (c_X11_count l G kc ad1 σ1 (xs (nI (6 * q + 1)).toNatClampNeg) hJ1 hT1) rfl cv_X11_count lk_L_171 rfl hl.1 rfl ⟨by decide, by decide⟩ (Nat.le_of_ble_eq_true rfl) (dk2 dF_182 DL_law (i := 944) rfl rfl rfl) ⟨by decide, by decide⟩ (fun r1 s1 H locs hp1 hw => ?_)
  obtain ⟨g1_0, es1⟩ := hp1
  rw [es1] at hw
  have hA : KA2 σ1 s1 := fun x k _ => by rw [es1]
  refine lv_pop hx hb (dkP dF_87 DL_law (i := 945) rfl rfl) rfl ?_
  refine lv_aload_n hx hb (dkP dF_44 DL_law (i := 946) rfl rfl) rfl (lv_at hl 1 rfl) ?_
  refine lv_aload_n hx hb (dkP dF_42 DL_law (i := 947) rfl rfl) rfl (lv_at hl 3 rfl) ?_
  refine lv_iload_n hx hb (dkP dF_29 DL_law (i := 948) rfl rfl) rfl (lv_at hl 0 rfl) ?_
  refine lv_iconst (v := 1) hx hb (dkP dF_4 DL_law (i := 949) rfl rfl) (by decide) ?_
  refine lv_iadd hx hb (dkP dF_96 DL_law (i := 950) rfl rfl) ?_
  refine z_top (y := nI (6 * q + 1)) (by simp only [fa_lit, nI_add]) ?_
  refine va_sld hx hb hX hbl hbA hw.2.2.1 (i := nI (6 * q + 1)) (vp_in_nI (by omega) (by omega)) (dkP dF_46 DL_law (i := 951) rfl rfl) ?_
  refine q_m (As := [.int (xs (nI (6 * q + 1)).toNatClampNeg)]) (rest := []) C0 hRo hw (c_X12_count l G kc ad2 σ2 (xs (nI (6 * q + 1)).toNatClampNeg)  hT2) rfl cv_X12_count lk_L_174 rfl hl.1 rfl ⟨by decide, by decide⟩ (Nat.le_of_ble_eq_true rfl) (dk2 dF_182 DL_law (i := 952) rfl rfl rfl) ⟨by decide, by decide⟩ (fun r2 s2 H locs hp2 hw => ?_)
  have es2 := hp2
  rw [es2] at hw
  have hB : KB2 σ2 s2 := ⟨fun k => by rw [es2], fun k => by rw [es2], fun k _ => by rw [es2]⟩
  have hN : RLb s1 s2 := hR.f hA hB
  rw [es1] at hN
  rw [es2] at hN
  refine lv_pop hx hb (dkP dF_87 DL_law (i := 953) rfl rfl) rfl ?_
  refine lv_goto (tgt := 1616) hx hb (dkS dF_167 DL_law (i := 954) rfl rfl rfl) (by decide) ?_
  exact kk _ _ _ _ hT1 hJ1 hT2 hJ2 hN hw
set_option maxRecDepth 100000 in
set_option maxHeartbeats 4000000 in
theorem law_39 (l : Launch) (G : va_G) (kc : KC) {p : Program} {e : Env} {s : State} {m : MethodId} {below : List Frame} {meth : Method} {c : Code} {b L : Nat} {xs : Nat → Int32} (C0 : Cx G kc p s m c #[Value.ref b] cL_law 4 RL) (hRo : RO0 kc (fun q : Nat => s.heap.size ≤ q) s s.heap) (hX : va_X b L xs s s.heap) (hbl : b < s.heap.size) (hL : L ≤ 3072) {ad1 ad2 : Nat → Nat} {q : Nat} (hq : 6 * q + 6 ≤ L) {σ1 σ2 : Sg} (hT1 : TC σ1) (hJ1 : JC σ1) (hT2 : TM σ2) (hJ2 : JM σ2) (hR : RLb σ1 σ2) {H : Heap} {locs : List Loc} {ls : Array Slot} (hw : TW G kc (fun q : Nat => s.heap.size ≤ q) s.heap ad1 σ1 ad2 σ2 H locs) (hl : lv_has ls 4 [(3, .int (nI (6 * q))), (2, .ref (ad2 0)), (1, .ref (ad1 0)), (0, .ref b)]) (kk : ∀ (σ1 σ2 : Sg) (H : Heap) (locs : List Loc), TC σ1 → JC σ1 → TM σ2 → JM σ2 → RLb σ1 σ2 → TW G kc (fun q : Nat => s.heap.size ≤ q) s.heap ad1 σ1 ad2 σ2 H locs → W p l e room_1 s m #[Value.ref b] below meth c H locs 836 1863908 (lw_Z below #[Value.ref b] s) (F0 m 1616 ls [])) : W p l e room_1 s m #[Value.ref b] below meth c H locs 836 1863908 (lw_Z below #[Value.ref b] s) (F0 m 1391 ls []) := by
  have hx := C0.1
  have hb := C0.2.1
  have hown := C0.2.2.2.1
  have hts := C0.2.2.2.2.1
  have hbA : ¬ (fun q : Nat => s.heap.size ≤ q) b := Nat.not_le.mpr hbl
  refine lv_aload_n hx hb (dkP dF_43 DL_law (i := 955) rfl rfl) rfl (lv_at hl 2 rfl) ?_
  refine lv_aload_n hx hb (dkP dF_42 DL_law (i := 956) rfl rfl) rfl (lv_at hl 3 rfl) ?_
  refine lv_iload_n hx hb (dkP dF_29 DL_law (i := 957) rfl rfl) rfl (lv_at hl 0 rfl) ?_
  refine lv_iconst (v := 1) hx hb (dkP dF_4 DL_law (i := 958) rfl rfl) (by decide) ?_
  refine lv_iadd hx hb (dkP dF_96 DL_law (i := 959) rfl rfl) ?_
  refine z_top (y := nI (6 * q + 1)) (by simp only [fa_lit, nI_add]) ?_
  refine va_sld hx hb hX hbl hbA hw.2.2.1 (i := nI (6 * q + 1)) (vp_in_nI (by omega) (by omega)) (dkP dF_46 DL_law (i := 960) rfl rfl) ?_
  refine q_x (As := [.int (xs (nI (6 * q + 1)).toNatClampNeg)]) (rest := []) C0 hRo hw (c_X11_keep_w l G kc ad1 σ1 (xs (nI (6 * q + 1)).toNatClampNeg) hJ1 hT1) rfl cv_X11_keep lk_L_175 rfl hl.1 rfl ⟨by decide, by decide⟩ (Nat.le_of_ble_eq_true rfl) (dk2 dF_182 DL_law (i := 961) rfl rfl rfl) ⟨by decide, by decide⟩ (fun r1 s1 H locs hp1 hw => ?_)
  obtain ⟨g1_0, g1_1, g1_2, g1_3, hT1_, hF1⟩ := hp1
  have hJ1 := g1_3
  have hT1 := hT1_
  refine lv_pop hx hb (dkP dF_87 DL_law (i := 962) rfl rfl) rfl ?_
  refine lv_aload_n hx hb (dkP dF_44 DL_law (i := 963) rfl rfl) rfl (lv_at hl 1 rfl) ?_
  refine lv_aload_n hx hb (dkP dF_42 DL_law (i := 964) rfl rfl) rfl (lv_at hl 3 rfl) ?_
  refine lv_iload_n hx hb (dkP dF_29 DL_law (i := 965) rfl rfl) rfl (lv_at hl 0 rfl) ?_
  refine lv_iconst (v := 1) hx hb (dkP dF_4 DL_law (i := 966) rfl rfl) (by decide) ?_
  refine lv_iadd hx hb (dkP dF_96 DL_law (i := 967) rfl rfl) ?_
  refine z_top (y := nI (6 * q + 1)) (by simp only [fa_lit, nI_add]) ?_
  refine va_sld hx hb hX hbl hbA hw.2.2.1 (i := nI (6 * q + 1)) (vp_in_nI (by omega) (by omega)) (dkP dF_46 DL_law (i := 968) rfl rfl) ?_
  refine q_m (As := [.int (xs (nI (6 * q + 1)).toNatClampNeg)]) (rest := []) C0 hRo hw (c_X12_keep_q l G kc ad2 σ2 (xs (nI (6 * q + 1)).toNatClampNeg) hJ2 hT2) rfl cv_X12_keep lk_L_178 rfl hl.1 rfl ⟨by decide, by decide⟩ (Nat.le_of_ble_eq_true rfl) (dk2 dF_182 DL_law (i := 969) rfl rfl rfl) ⟨by decide, by decide⟩ (fun r2 s2 H locs hp2 hw => ?_)
  obtain ⟨g2_0, g2_1, hT2_, hF2⟩ := hp2
  have hJ2 : JM s2 := by rcases g2_1 with ⟨_, e_⟩ | ⟨kx, _, _, _, hk⟩; (· rw [e_]; exact hJ2); (· exact hk.2.2.2.2.2)
  have hT2 := hT2_
  have hN : RLb s1 s2 := hR.kp g1_2 g1_1 (fun x k hx9 => hF1.1 x k (fun h9 => by rcases hx9 with rfl | rfl | rfl | rfl <;> first | (simp at h9; done) | omega)) g2_1 (KQ.one g1_0 g2_0)
  refine lv_pop hx hb (dkP dF_87 DL_law (i := 970) rfl rfl) rfl ?_
  refine lv_goto (tgt := 1616) hx hb (dkS dF_167 DL_law (i := 971) rfl rfl rfl) (by decide) ?_
  exact kk _ _ _ _ hT1 hJ1 hT2 hJ2 hN hw
set_option maxRecDepth 100000 in
set_option maxHeartbeats 4000000 in
theorem law_40 (l : Launch) (G : va_G) (kc : KC) {p : Program} {e : Env} {s : State} {m : MethodId} {below : List Frame} {meth : Method} {c : Code} {b L : Nat} {xs : Nat → Int32} (C0 : Cx G kc p s m c #[Value.ref b] cL_law 4 RL) (hRo : RO0 kc (fun q : Nat => s.heap.size ≤ q) s s.heap) (hX : va_X b L xs s s.heap) (hbl : b < s.heap.size) (hL : L ≤ 3072) {ad1 ad2 : Nat → Nat} {q : Nat} (hq : 6 * q + 6 ≤ L) {σ1 σ2 : Sg} (hT1 : TC σ1) (hJ1 : JC σ1) (hT2 : TM σ2) (hJ2 : JM σ2) (hR : RLb σ1 σ2) {H : Heap} {locs : List Loc} {ls : Array Slot} (hw : TW G kc (fun q : Nat => s.heap.size ≤ q) s.heap ad1 σ1 ad2 σ2 H locs) (hl : lv_has ls 4 [(3, .int (nI (6 * q))), (2, .ref (ad2 0)), (1, .ref (ad1 0)), (0, .ref b)]) (kk : ∀ (σ1 σ2 : Sg) (H : Heap) (locs : List Loc), TC σ1 → JC σ1 → TM σ2 → JM σ2 → RLb σ1 σ2 → TW G kc (fun q : Nat => s.heap.size ≤ q) s.heap ad1 σ1 ad2 σ2 H locs → W p l e room_1 s m #[Value.ref b] below meth c H locs 836 1863908 (lw_Z below #[Value.ref b] s) (F0 m 1616 ls [])) : W p l e room_1 s m #[Value.ref b] below meth c H locs 836 1863908 (lw_Z below #[Value.ref b] s) (F0 m 1414 ls []) := by
  have hx := C0.1
  have hb := C0.2.1
  have hown := C0.2.2.2.1
  have hts := C0.2.2.2.2.1
  have hbA : ¬ (fun q : Nat => s.heap.size ≤ q) b := Nat.not_le.mpr hbl
  refine lv_aload_n hx hb (dkP dF_43 DL_law (i := 972) rfl rfl) rfl (lv_at hl 2 rfl) ?_
  refine lv_aload_n hx hb (dkP dF_42 DL_law (i := 973) rfl rfl) rfl (lv_at hl 3 rfl) ?_
  refine lv_iload_n hx hb (dkP dF_29 DL_law (i := 974) rfl rfl) rfl (lv_at hl 0 rfl) ?_
  refine lv_iconst (v := 1) hx hb (dkP dF_4 DL_law (i := 975) rfl rfl) (by decide) ?_
  refine lv_iadd hx hb (dkP dF_96 DL_law (i := 976) rfl rfl) ?_
  refine z_top (y := nI (6 * q + 1)) (by simp only [fa_lit, nI_add]) ?_
  refine va_sld hx hb hX hbl hbA hw.2.2.1 (i := nI (6 * q + 1)) (vp_in_nI (by omega) (by omega)) (dkP dF_46 DL_law (i := 977) rfl rfl) ?_
  refine q_x (As := [.int (xs (nI (6 * q + 1)).toNatClampNeg)]) (rest := []) C0 hRo hw (c_X11_restore_w l G kc ad1 σ1 (xs (nI (6 * q + 1)).toNatClampNeg) hJ1 hT1) rfl cv_X11_restore lk_L_179 rfl hl.1 rfl ⟨by decide, by decide⟩ (Nat.le_of_ble_eq_true rfl) (dk2 dF_182 DL_law (i := 978) rfl rfl rfl) ⟨by decide, by decide⟩ (fun r1 s1 H locs hp1 hw => ?_)
  obtain ⟨g1_0, g1_1, g1_2, hT1_, hF1⟩ := hp1
  have hJ1 := g1_2
  have hT1 := hT1_
  refine lv_pop hx hb (dkP dF_87 DL_law (i := 979) rfl rfl) rfl ?_
  refine lv_aload_n hx hb (dkP dF_44 DL_law (i := 980) rfl rfl) rfl (lv_at hl 1 rfl) ?_
  refine lv_aload_n hx hb (dkP dF_42 DL_law (i := 981) rfl rfl) rfl (lv_at hl 3 rfl) ?_
  refine lv_iload_n hx hb (dkP dF_29 DL_law (i := 982) rfl rfl) rfl (lv_at hl 0 rfl) ?_
  refine lv_iconst (v := 1) hx hb (dkP dF_4 DL_law (i := 983) rfl rfl) (by decide) ?_
  refine lv_iadd hx hb (dkP dF_96 DL_law (i := 984) rfl rfl) ?_
  refine z_top (y := nI (6 * q + 1)) (by simp only [fa_lit, nI_add]) ?_
  refine va_sld hx hb hX hbl hbA hw.2.2.1 (i := nI (6 * q + 1)) (vp_in_nI (by omega) (by omega)) (dkP dF_46 DL_law (i := 985) rfl rfl) ?_
  refine q_m (As := [.int (xs (nI (6 * q + 1)).toNatClampNeg)]) (rest := []) C0 hRo hw (c_X12_restore_w l G kc ad2 σ2 (xs (nI (6 * q + 1)).toNatClampNeg) hJ2 hT2) rfl cv_X12_restore lk_L_182 rfl hl.1 rfl ⟨by decide, by decide⟩ (Nat.le_of_ble_eq_true rfl) (dk2 dF_182 DL_law (i := 986) rfl rfl rfl) ⟨by decide, by decide⟩ (fun r2 s2 H locs hp2 hw => ?_)
  obtain ⟨g2_0, g2_1, g2_2, hT2_, hF2⟩ := hp2
  have hJ2 := g2_1
  have hT2 := hT2_
  have hN : RLb s1 s2 := hR.rs g1_1 (fun x k hx9 => hF1.1 x k (fun h9 => by rcases hx9 with rfl | hx9 <;> first | (simp at h9; done) | omega)) ⟨fun k => congrFun (hF2.1 2 (by decide) (by decide)) k, fun k => congrFun (hF2.1 3 (by decide) (by decide)) k⟩ g2_2 (RSQ.one g1_0 g2_0 hR.1)
  refine lv_pop hx hb (dkP dF_87 DL_law (i := 987) rfl rfl) rfl ?_
  refine lv_goto (tgt := 1616) hx hb (dkS dF_167 DL_law (i := 988) rfl rfl rfl) (by decide) ?_
  exact kk _ _ _ _ hT1 hJ1 hT2 hJ2 hN hw
set_option maxRecDepth 100000 in
set_option maxHeartbeats 4000000 in
theorem law_41 (l : Launch) (G : va_G) (kc : KC) {p : Program} {e : Env} {s : State} {m : MethodId} {below : List Frame} {meth : Method} {c : Code} {b L : Nat} {xs : Nat → Int32} (C0 : Cx G kc p s m c #[Value.ref b] cL_law 4 RL) (hRo : RO0 kc (fun q : Nat => s.heap.size ≤ q) s s.heap) (hX : va_X b L xs s s.heap) (hbl : b < s.heap.size) (hL : L ≤ 3072) {ad1 ad2 : Nat → Nat} {q : Nat} (hq : 6 * q + 6 ≤ L) {σ1 σ2 : Sg} (hT1 : TC σ1) (hJ1 : JC σ1) (hT2 : TM σ2) (hJ2 : JM σ2) (hR : RLb σ1 σ2) {H : Heap} {locs : List Loc} {ls : Array Slot} (hw : TW G kc (fun q : Nat => s.heap.size ≤ q) s.heap ad1 σ1 ad2 σ2 H locs) (hl : lv_has ls 4 [(3, .int (nI (6 * q))), (2, .ref (ad2 0)), (1, .ref (ad1 0)), (0, .ref b)]) (kk : ∀ (σ1 σ2 : Sg) (H : Heap) (locs : List Loc), TC σ1 → JC σ1 → TM σ2 → JM σ2 → RLb σ1 σ2 → TW G kc (fun q : Nat => s.heap.size ≤ q) s.heap ad1 σ1 ad2 σ2 H locs → W p l e room_1 s m #[Value.ref b] below meth c H locs 836 1863908 (lw_Z below #[Value.ref b] s) (F0 m 1616 ls [])) : W p l e room_1 s m #[Value.ref b] below meth c H locs 836 1863908 (lw_Z below #[Value.ref b] s) (F0 m 1437 ls []) := by
  have hx := C0.1
  have hb := C0.2.1
  have hown := C0.2.2.2.1
  have hts := C0.2.2.2.2.1
  have hbA : ¬ (fun q : Nat => s.heap.size ≤ q) b := Nat.not_le.mpr hbl
  refine lv_aload_n hx hb (dkP dF_43 DL_law (i := 989) rfl rfl) rfl (lv_at hl 2 rfl) ?_
  refine lv_aload_n hx hb (dkP dF_42 DL_law (i := 990) rfl rfl) rfl (lv_at hl 3 rfl) ?_
  refine lv_iload_n hx hb (dkP dF_29 DL_law (i := 991) rfl rfl) rfl (lv_at hl 0 rfl) ?_
  refine lv_iconst (v := 1) hx hb (dkP dF_4 DL_law (i := 992) rfl rfl) (by decide) ?_
  refine lv_iadd hx hb (dkP dF_96 DL_law (i := 993) rfl rfl) ?_
  refine z_top (y := nI (6 * q + 1)) (by simp only [fa_lit, nI_add]) ?_
  refine va_sld hx hb hX hbl hbA hw.2.2.1 (i := nI (6 * q + 1)) (vp_in_nI (by omega) (by omega)) (dkP dF_46 DL_law (i := 994) rfl rfl) ?_
  refine lv_aload_n hx hb (dkP dF_42 DL_law (i := 995) rfl rfl) rfl (lv_at hl 3 rfl) ?_
  refine lv_iload_n hx hb (dkP dF_29 DL_law (i := 996) rfl rfl) rfl (lv_at hl 0 rfl) ?_
  refine lv_iconst (v := 2) hx hb (dkP dF_5 DL_law (i := 997) rfl rfl) (by decide) ?_
  refine lv_iadd hx hb (dkP dF_96 DL_law (i := 998) rfl rfl) ?_
  refine z_top (y := nI (6 * q + 2)) (by simp only [fa_lit, nI_add]) ?_
  refine va_sld hx hb hX hbl hbA hw.2.2.1 (i := nI (6 * q + 2)) (vp_in_nI (by omega) (by omega)) (dkP dF_46 DL_law (i := 999) rfl rfl) ?_
  refine lv_aload_n hx hb (dkP dF_42 DL_law (i := 1000) rfl rfl) rfl (lv_at hl 3 rfl) ?_
  refine lv_iload_n hx hb (dkP dF_29 DL_law (i := 1001) rfl rfl) rfl (lv_at hl 0 rfl) ?_
  refine lv_iconst (v := 3) hx hb (dkP dF_6 DL_law (i := 1002) rfl rfl) (by decide) ?_
  refine lv_iadd hx hb (dkP dF_96 DL_law (i := 1003) rfl rfl) ?_
  refine z_top (y := nI (6 * q + 3)) (by simp only [fa_lit, nI_add]) ?_
  refine va_sld hx hb hX hbl hbA hw.2.2.1 (i := nI (6 * q + 3)) (vp_in_nI (by omega) (by omega)) (dkP dF_46 DL_law (i := 1004) rfl rfl) ?_
  refine q_x (As := [.int (xs (nI (6 * q + 1)).toNatClampNeg), .int (xs (nI (6 * q + 2)).toNatClampNeg), .int (xs (nI (6 * q + 3)).toNatClampNeg)]) (rest := []) C0 hRo hw (c_X11_sheet l G kc ad1 σ1 (xs (nI (6 * q + 1)).toNatClampNeg) (xs (nI (6 * q + 2)).toNatClampNeg) (xs (nI (6 * q + 3)).toNatClampNeg) hJ1 hT1) rfl cv_X11_sheet lk_L_183 rfl hl.1 rfl ⟨by decide, by decide⟩ (Nat.le_of_ble_eq_true rfl) (dk2 dF_182 DL_law (i := 1005) rfl rfl rfl) ⟨by decide, by decide⟩ (fun r1 s1 H locs hp1 hw => ?_)
  obtain ⟨g1_0, g1_1, hT1_, hF1⟩ := hp1
  have hJ1 := g1_1
  have hT1 := hT1_
  have hA : KA2 σ1 s1 := fun x k hx9 => hF1.1 x k (fun h9 => by rcases hx9 with rfl | rfl | rfl | rfl | rfl | hx9 <;> first | (simp at h9; done) | omega)
  refine lv_pop hx hb (dkP dF_87 DL_law (i := 1006) rfl rfl) rfl ?_
  refine lv_aload_n hx hb (dkP dF_44 DL_law (i := 1007) rfl rfl) rfl (lv_at hl 1 rfl) ?_
  refine lv_aload_n hx hb (dkP dF_42 DL_law (i := 1008) rfl rfl) rfl (lv_at hl 3 rfl) ?_
  refine lv_iload_n hx hb (dkP dF_29 DL_law (i := 1009) rfl rfl) rfl (lv_at hl 0 rfl) ?_
  refine lv_iconst (v := 1) hx hb (dkP dF_4 DL_law (i := 1010) rfl rfl) (by decide) ?_
  refine lv_iadd hx hb (dkP dF_96 DL_law (i := 1011) rfl rfl) ?_
  refine z_top (y := nI (6 * q + 1)) (by simp only [fa_lit, nI_add]) ?_
  refine va_sld hx hb hX hbl hbA hw.2.2.1 (i := nI (6 * q + 1)) (vp_in_nI (by omega) (by omega)) (dkP dF_46 DL_law (i := 1012) rfl rfl) ?_
  refine lv_aload_n hx hb (dkP dF_42 DL_law (i := 1013) rfl rfl) rfl (lv_at hl 3 rfl) ?_
  refine lv_iload_n hx hb (dkP dF_29 DL_law (i := 1014) rfl rfl) rfl (lv_at hl 0 rfl) ?_
  refine lv_iconst (v := 2) hx hb (dkP dF_5 DL_law (i := 1015) rfl rfl) (by decide) ?_
  refine lv_iadd hx hb (dkP dF_96 DL_law (i := 1016) rfl rfl) ?_
  refine z_top (y := nI (6 * q + 2)) (by simp only [fa_lit, nI_add]) ?_
  refine va_sld hx hb hX hbl hbA hw.2.2.1 (i := nI (6 * q + 2)) (vp_in_nI (by omega) (by omega)) (dkP dF_46 DL_law (i := 1017) rfl rfl) ?_
  refine lv_aload_n hx hb (dkP dF_42 DL_law (i := 1018) rfl rfl) rfl (lv_at hl 3 rfl) ?_
  refine lv_iload_n hx hb (dkP dF_29 DL_law (i := 1019) rfl rfl) rfl (lv_at hl 0 rfl) ?_
  refine lv_iconst (v := 3) hx hb (dkP dF_6 DL_law (i := 1020) rfl rfl) (by decide) ?_
  refine lv_iadd hx hb (dkP dF_96 DL_law (i := 1021) rfl rfl) ?_
  refine z_top (y := nI (6 * q + 3)) (by simp only [fa_lit, nI_add]) ?_
  refine va_sld hx hb hX hbl hbA hw.2.2.1 (i := nI (6 * q + 3)) (vp_in_nI (by omega) (by omega)) (dkP dF_46 DL_law (i := 1022) rfl rfl) ?_
  refine q_m (As := [.int (xs (nI (6 * q + 1)).toNatClampNeg), .int (xs (nI (6 * q + 2)).toNatClampNeg), .int (xs (nI (6 * q + 3)).toNatClampNeg)]) (rest := []) C0 hRo hw (c_X12_sheet_q l G kc ad2 σ2 (xs (nI (6 * q + 1)).toNatClampNeg) (xs (nI (6 * q + 2)).toNatClampNeg) (xs (nI (6 * q + 3)).toNatClampNeg)  hT2) rfl cv_X12_sheet lk_L_186 rfl hl.1 rfl ⟨by decide, by decide⟩ (Nat.le_of_ble_eq_true rfl) (dk2 dF_182 DL_law (i := 1023) rfl rfl rfl) ⟨by decide, by decide⟩ (fun r2 s2 H locs hp2 hw => ?_)
  obtain ⟨g2_0, hT2_, hF2⟩ := hp2
  have hJ2 := hJ2.f hF2 (by decide) (by decide)
  have hT2 := hT2_
  have hB : KB2 σ2 s2 := ⟨fun k => congrFun (hF2.1 2 (by decide) (by decide)) k, fun k => congrFun (hF2.1 3 (by decide) (by decide)) k, fun k hk => hF2.2.2.2 rfl k hk⟩
  have hN : RLb s1 s2 := hR.f hA hB
  refine lv_pop hx hb (dkP dF_87 DL_law (i := 1024) rfl rfl) rfl ?_
  refine lv_goto (tgt := 1616) hx hb (dkS dF_167 DL_law (i := 1025) rfl rfl rfl) (by decide) ?_
  exact kk _ _ _ _ hT1 hJ1 hT2 hJ2 hN hw
set_option maxRecDepth 100000 in
set_option maxHeartbeats 4000000 in
theorem law_42 (l : Launch) (G : va_G) (kc : KC) {p : Program} {e : Env} {s : State} {m : MethodId} {below : List Frame} {meth : Method} {c : Code} {b L : Nat} {xs : Nat → Int32} (C0 : Cx G kc p s m c #[Value.ref b] cL_law 4 RL) (hRo : RO0 kc (fun q : Nat => s.heap.size ≤ q) s s.heap) (hX : va_X b L xs s s.heap) (hbl : b < s.heap.size) (hL : L ≤ 3072) {ad1 ad2 : Nat → Nat} {q : Nat} (hq : 6 * q + 6 ≤ L) {σ1 σ2 : Sg} (hT1 : TC σ1) (hJ1 : JC σ1) (hT2 : TM σ2) (hJ2 : JM σ2) (hR : RLb σ1 σ2) {H : Heap} {locs : List Loc} {ls : Array Slot} (hw : TW G kc (fun q : Nat => s.heap.size ≤ q) s.heap ad1 σ1 ad2 σ2 H locs) (hl : lv_has ls 4 [(3, .int (nI (6 * q))), (2, .ref (ad2 0)), (1, .ref (ad1 0)), (0, .ref b)]) (kk : ∀ (σ1 σ2 : Sg) (H : Heap) (locs : List Loc), TC σ1 → JC σ1 → TM σ2 → JM σ2 → RLb σ1 σ2 → TW G kc (fun q : Nat => s.heap.size ≤ q) s.heap ad1 σ1 ad2 σ2 H locs → W p l e room_1 s m #[Value.ref b] below meth c H locs 836 1863908 (lw_Z below #[Value.ref b] s) (F0 m 1616 ls [])) : W p l e room_1 s m #[Value.ref b] below meth c H locs 836 1863908 (lw_Z below #[Value.ref b] s) (F0 m 1480 ls []) := by
  have hx := C0.1
  have hb := C0.2.1
  have hown := C0.2.2.2.1
  have hts := C0.2.2.2.2.1
  have hbA : ¬ (fun q : Nat => s.heap.size ≤ q) b := Nat.not_le.mpr hbl
  refine lv_aload_n hx hb (dkP dF_43 DL_law (i := 1026) rfl rfl) rfl (lv_at hl 2 rfl) ?_
  refine lv_aload_n hx hb (dkP dF_42 DL_law (i := 1027) rfl rfl) rfl (lv_at hl 3 rfl) ?_
  refine lv_iload_n hx hb (dkP dF_29 DL_law (i := 1028) rfl rfl) rfl (lv_at hl 0 rfl) ?_
  refine lv_iconst (v := 1) hx hb (dkP dF_4 DL_law (i := 1029) rfl rfl) (by decide) ?_
  refine lv_iadd hx hb (dkP dF_96 DL_law (i := 1030) rfl rfl) ?_
  refine z_top (y := nI (6 * q + 1)) (by simp only [fa_lit, nI_add]) ?_
  refine va_sld hx hb hX hbl hbA hw.2.2.1 (i := nI (6 * q + 1)) (vp_in_nI (by omega) (by omega)) (dkP dF_46 DL_law (i := 1031) rfl rfl) ?_
  refine lv_aload_n hx hb (dkP dF_42 DL_law (i := 1032) rfl rfl) rfl (lv_at hl 3 rfl) ?_
  refine lv_iload_n hx hb (dkP dF_29 DL_law (i := 1033) rfl rfl) rfl (lv_at hl 0 rfl) ?_
  refine lv_iconst (v := 2) hx hb (dkP dF_5 DL_law (i := 1034) rfl rfl) (by decide) ?_
  refine lv_iadd hx hb (dkP dF_96 DL_law (i := 1035) rfl rfl) ?_
  refine z_top (y := nI (6 * q + 2)) (by simp only [fa_lit, nI_add]) ?_
  refine va_sld hx hb hX hbl hbA hw.2.2.1 (i := nI (6 * q + 2)) (vp_in_nI (by omega) (by omega)) (dkP dF_46 DL_law (i := 1036) rfl rfl) ?_
  refine lv_aload_n hx hb (dkP dF_42 DL_law (i := 1037) rfl rfl) rfl (lv_at hl 3 rfl) ?_
  refine lv_iload_n hx hb (dkP dF_29 DL_law (i := 1038) rfl rfl) rfl (lv_at hl 0 rfl) ?_
  refine lv_iconst (v := 3) hx hb (dkP dF_6 DL_law (i := 1039) rfl rfl) (by decide) ?_
  refine lv_iadd hx hb (dkP dF_96 DL_law (i := 1040) rfl rfl) ?_
  refine z_top (y := nI (6 * q + 3)) (by simp only [fa_lit, nI_add]) ?_
  refine va_sld hx hb hX hbl hbA hw.2.2.1 (i := nI (6 * q + 3)) (vp_in_nI (by omega) (by omega)) (dkP dF_46 DL_law (i := 1041) rfl rfl) ?_
  refine lv_i2l hx hb (dkP dF_133 DL_law (i := 1042) rfl rfl) rfl ?_
  refine lv_bipush (v := 32) hx hb (dks dF_16 DL_law (i := 1043) rfl rfl rfl) (by decide) ?_
  refine lv_lshl hx hb (dkP dF_121 DL_law (i := 1044) rfl rfl) rfl ?_
  refine lv_aload_n hx hb (dkP dF_42 DL_law (i := 1045) rfl rfl) rfl (lv_at hl 3 rfl) ?_
  refine lv_iload_n hx hb (dkP dF_29 DL_law (i := 1046) rfl rfl) rfl (lv_at hl 0 rfl) ?_
  refine lv_iconst (v := 4) hx hb (dkP dF_7 DL_law (i := 1047) rfl rfl) (by decide) ?_
  refine lv_iadd hx hb (dkP dF_96 DL_law (i := 1048) rfl rfl) ?_
  refine z_top (y := nI (6 * q + 4)) (by simp only [fa_lit, nI_add]) ?_
  refine va_sld hx hb hX hbl hbA hw.2.2.1 (i := nI (6 * q + 4)) (vp_in_nI (by omega) (by omega)) (dkP dF_46 DL_law (i := 1049) rfl rfl) ?_
  refine lv_i2l hx hb (dkP dF_133 DL_law (i := 1050) rfl rfl) rfl ?_
  refine lv_ldc2 hx hb hown (hts _ kn_L_187) (dk2 dF_20 DL_law (i := 1051) rfl rfl rfl) ?_
  refine lv_land hx hb (dkP dF_127 DL_law (i := 1052) rfl rfl) ?_
  refine lv_lor hx hb (dkP dF_129 DL_law (i := 1053) rfl rfl) ?_
  refine q_x (As := [.int (xs (nI (6 * q + 1)).toNatClampNeg), .int (xs (nI (6 * q + 2)).toNatClampNeg), .long ((((xs (nI (6 * q + 3)).toNatClampNeg).toInt64) <<< ((32 : Int32).toInt64 &&& 63)) ||| (((xs (nI (6 * q + 4)).toNatClampNeg).toInt64) &&& (4294967295)))]) (rest := []) C0 hRo hw (c_X11_write l G kc ad1 σ1 (xs (nI (6 * q + 1)).toNatClampNeg) (xs (nI (6 * q + 2)).toNatClampNeg) ((((xs (nI (6 * q + 3)).toNatClampNeg).toInt64) <<< ((32 : Int32).toInt64 &&& 63)) ||| (((xs (nI (6 * q + 4)).toNatClampNeg).toInt64) &&& (4294967295))) hJ1 hT1) rfl cv_X11_write lk_L_189 rfl hl.1 rfl ⟨by decide, by decide⟩ (Nat.le_of_ble_eq_true rfl) (dk2 dF_182 DL_law (i := 1054) rfl rfl rfl) ⟨by decide, by decide⟩ (fun r1 s1 H locs hp1 hw => ?_)
  obtain ⟨g1_0, hT1_, hF1⟩ := hp1
  have hJ1 := g1_0
  have hT1 := hT1_
  have hA : KA2 σ1 s1 := fun x k hx9 => hF1.1 x k (fun h9 => by rcases hx9 with rfl | rfl | rfl | rfl | rfl | hx9 <;> first | (simp at h9; done) | omega)
  refine lv_pop hx hb (dkP dF_87 DL_law (i := 1055) rfl rfl) rfl ?_
  refine lv_aload_n hx hb (dkP dF_44 DL_law (i := 1056) rfl rfl) rfl (lv_at hl 1 rfl) ?_
  refine lv_aload_n hx hb (dkP dF_42 DL_law (i := 1057) rfl rfl) rfl (lv_at hl 3 rfl) ?_
  refine lv_iload_n hx hb (dkP dF_29 DL_law (i := 1058) rfl rfl) rfl (lv_at hl 0 rfl) ?_
  refine lv_iconst (v := 1) hx hb (dkP dF_4 DL_law (i := 1059) rfl rfl) (by decide) ?_
  refine lv_iadd hx hb (dkP dF_96 DL_law (i := 1060) rfl rfl) ?_
  refine z_top (y := nI (6 * q + 1)) (by simp only [fa_lit, nI_add]) ?_
  refine va_sld hx hb hX hbl hbA hw.2.2.1 (i := nI (6 * q + 1)) (vp_in_nI (by omega) (by omega)) (dkP dF_46 DL_law (i := 1061) rfl rfl) ?_
  refine lv_aload_n hx hb (dkP dF_42 DL_law (i := 1062) rfl rfl) rfl (lv_at hl 3 rfl) ?_
  refine lv_iload_n hx hb (dkP dF_29 DL_law (i := 1063) rfl rfl) rfl (lv_at hl 0 rfl) ?_
  refine lv_iconst (v := 2) hx hb (dkP dF_5 DL_law (i := 1064) rfl rfl) (by decide) ?_
  refine lv_iadd hx hb (dkP dF_96 DL_law (i := 1065) rfl rfl) ?_
  refine z_top (y := nI (6 * q + 2)) (by simp only [fa_lit, nI_add]) ?_
  refine va_sld hx hb hX hbl hbA hw.2.2.1 (i := nI (6 * q + 2)) (vp_in_nI (by omega) (by omega)) (dkP dF_46 DL_law (i := 1066) rfl rfl) ?_
  refine lv_aload_n hx hb (dkP dF_42 DL_law (i := 1067) rfl rfl) rfl (lv_at hl 3 rfl) ?_
  refine lv_iload_n hx hb (dkP dF_29 DL_law (i := 1068) rfl rfl) rfl (lv_at hl 0 rfl) ?_
  refine lv_iconst (v := 3) hx hb (dkP dF_6 DL_law (i := 1069) rfl rfl) (by decide) ?_
  refine lv_iadd hx hb (dkP dF_96 DL_law (i := 1070) rfl rfl) ?_
  refine z_top (y := nI (6 * q + 3)) (by simp only [fa_lit, nI_add]) ?_
  refine va_sld hx hb hX hbl hbA hw.2.2.1 (i := nI (6 * q + 3)) (vp_in_nI (by omega) (by omega)) (dkP dF_46 DL_law (i := 1071) rfl rfl) ?_
  refine lv_i2l hx hb (dkP dF_133 DL_law (i := 1072) rfl rfl) rfl ?_
  refine lv_bipush (v := 32) hx hb (dks dF_16 DL_law (i := 1073) rfl rfl rfl) (by decide) ?_
  refine lv_lshl hx hb (dkP dF_121 DL_law (i := 1074) rfl rfl) rfl ?_
  refine lv_aload_n hx hb (dkP dF_42 DL_law (i := 1075) rfl rfl) rfl (lv_at hl 3 rfl) ?_
  refine lv_iload_n hx hb (dkP dF_29 DL_law (i := 1076) rfl rfl) rfl (lv_at hl 0 rfl) ?_
  refine lv_iconst (v := 4) hx hb (dkP dF_7 DL_law (i := 1077) rfl rfl) (by decide) ?_
  refine lv_iadd hx hb (dkP dF_96 DL_law (i := 1078) rfl rfl) ?_
  refine z_top (y := nI (6 * q + 4)) (by simp only [fa_lit, nI_add]) ?_
  refine va_sld hx hb hX hbl hbA hw.2.2.1 (i := nI (6 * q + 4)) (vp_in_nI (by omega) (by omega)) (dkP dF_46 DL_law (i := 1079) rfl rfl) ?_
  refine lv_i2l hx hb (dkP dF_133 DL_law (i := 1080) rfl rfl) rfl ?_
  refine lv_ldc2 hx hb hown (hts _ kn_L_187) (dk2 dF_20 DL_law (i := 1081) rfl rfl rfl) ?_
  refine lv_land hx hb (dkP dF_127 DL_law (i := 1082) rfl rfl) ?_
  refine lv_lor hx hb (dkP dF_129 DL_law (i := 1083) rfl rfl) ?_
  refine q_m (As := [.int (xs (nI (6 * q + 1)).toNatClampNeg), .int (xs (nI (6 * q + 2)).toNatClampNeg), .long ((((xs (nI (6 * q + 3)).toNatClampNeg).toInt64) <<< ((32 : Int32).toInt64 &&& 63)) ||| (((xs (nI (6 * q + 4)).toNatClampNeg).toInt64) &&& (4294967295)))]) (rest := []) C0 hRo hw (c_X12_write l G kc ad2 σ2 (xs (nI (6 * q + 1)).toNatClampNeg) (xs (nI (6 * q + 2)).toNatClampNeg) ((((xs (nI (6 * q + 3)).toNatClampNeg).toInt64) <<< ((32 : Int32).toInt64 &&& 63)) ||| (((xs (nI (6 * q + 4)).toNatClampNeg).toInt64) &&& (4294967295)))  hT2) rfl cv_X12_write lk_L_193 rfl hl.1 rfl ⟨by decide, by decide⟩ (Nat.le_of_ble_eq_true rfl) (dk2 dF_182 DL_law (i := 1084) rfl rfl rfl) ⟨by decide, by decide⟩ (fun r2 s2 H locs hp2 hw => ?_)
  obtain ⟨hT2_, hF2⟩ := hp2
  have hJ2 := hJ2.f hF2 (by decide) (by decide)
  have hT2 := hT2_
  have hB : KB2 σ2 s2 := ⟨fun k => congrFun (hF2.1 2 (by decide) (by decide)) k, fun k => congrFun (hF2.1 3 (by decide) (by decide)) k, fun k hk => hF2.2.2.2 rfl k hk⟩
  have hN : RLb s1 s2 := hR.f hA hB
  refine lv_pop hx hb (dkP dF_87 DL_law (i := 1085) rfl rfl) rfl ?_
  refine lv_goto (tgt := 1616) hx hb (dkS dF_167 DL_law (i := 1086) rfl rfl rfl) (by decide) ?_
  exact kk _ _ _ _ hT1 hJ1 hT2 hJ2 hN hw
set_option maxRecDepth 100000 in
set_option maxHeartbeats 4000000 in
theorem law_43 (l : Launch) (G : va_G) (kc : KC) {p : Program} {e : Env} {s : State} {m : MethodId} {below : List Frame} {meth : Method} {c : Code} {b L : Nat} {xs : Nat → Int32} (C0 : Cx G kc p s m c #[Value.ref b] cL_law 4 RL) (hRo : RO0 kc (fun q : Nat => s.heap.size ≤ q) s s.heap) (hX : va_X b L xs s s.heap) (hbl : b < s.heap.size) (hL : L ≤ 3072) {ad1 ad2 : Nat → Nat} {q : Nat} (hq : 6 * q + 6 ≤ L) {σ1 σ2 : Sg} (hT1 : TC σ1) (hJ1 : JC σ1) (hT2 : TM σ2) (hJ2 : JM σ2) (hR : RLb σ1 σ2) {H : Heap} {locs : List Loc} {ls : Array Slot} (hw : TW G kc (fun q : Nat => s.heap.size ≤ q) s.heap ad1 σ1 ad2 σ2 H locs) (hl : lv_has ls 4 [(3, .int (nI (6 * q))), (2, .ref (ad2 0)), (1, .ref (ad1 0)), (0, .ref b)]) (kk : ∀ (σ1 σ2 : Sg) (H : Heap) (locs : List Loc), TC σ1 → JC σ1 → TM σ2 → JM σ2 → RLb σ1 σ2 → TW G kc (fun q : Nat => s.heap.size ≤ q) s.heap ad1 σ1 ad2 σ2 H locs → W p l e room_1 s m #[Value.ref b] below meth c H locs 836 1863908 (lw_Z below #[Value.ref b] s) (F0 m 1616 ls [])) : W p l e room_1 s m #[Value.ref b] below meth c H locs 836 1863908 (lw_Z below #[Value.ref b] s) (F0 m 1553 ls []) := by
  have hx := C0.1
  have hb := C0.2.1
  have hown := C0.2.2.2.1
  have hts := C0.2.2.2.2.1
  have hbA : ¬ (fun q : Nat => s.heap.size ≤ q) b := Nat.not_le.mpr hbl
  refine lv_aload_n hx hb (dkP dF_43 DL_law (i := 1087) rfl rfl) rfl (lv_at hl 2 rfl) ?_
  refine lv_aload_n hx hb (dkP dF_42 DL_law (i := 1088) rfl rfl) rfl (lv_at hl 3 rfl) ?_
  refine lv_iload_n hx hb (dkP dF_29 DL_law (i := 1089) rfl rfl) rfl (lv_at hl 0 rfl) ?_
  refine lv_iconst (v := 1) hx hb (dkP dF_4 DL_law (i := 1090) rfl rfl) (by decide) ?_
  refine lv_iadd hx hb (dkP dF_96 DL_law (i := 1091) rfl rfl) ?_
  refine z_top (y := nI (6 * q + 1)) (by simp only [fa_lit, nI_add]) ?_
  refine va_sld hx hb hX hbl hbA hw.2.2.1 (i := nI (6 * q + 1)) (vp_in_nI (by omega) (by omega)) (dkP dF_46 DL_law (i := 1092) rfl rfl) ?_
  refine lv_aload_n hx hb (dkP dF_42 DL_law (i := 1093) rfl rfl) rfl (lv_at hl 3 rfl) ?_
  refine lv_iload_n hx hb (dkP dF_29 DL_law (i := 1094) rfl rfl) rfl (lv_at hl 0 rfl) ?_
  refine lv_iconst (v := 2) hx hb (dkP dF_5 DL_law (i := 1095) rfl rfl) (by decide) ?_
  refine lv_iadd hx hb (dkP dF_96 DL_law (i := 1096) rfl rfl) ?_
  refine z_top (y := nI (6 * q + 2)) (by simp only [fa_lit, nI_add]) ?_
  refine va_sld hx hb hX hbl hbA hw.2.2.1 (i := nI (6 * q + 2)) (vp_in_nI (by omega) (by omega)) (dkP dF_46 DL_law (i := 1097) rfl rfl) ?_
  refine lv_aload_n hx hb (dkP dF_42 DL_law (i := 1098) rfl rfl) rfl (lv_at hl 3 rfl) ?_
  refine lv_iload_n hx hb (dkP dF_29 DL_law (i := 1099) rfl rfl) rfl (lv_at hl 0 rfl) ?_
  refine lv_iconst (v := 3) hx hb (dkP dF_6 DL_law (i := 1100) rfl rfl) (by decide) ?_
  refine lv_iadd hx hb (dkP dF_96 DL_law (i := 1101) rfl rfl) ?_
  refine z_top (y := nI (6 * q + 3)) (by simp only [fa_lit, nI_add]) ?_
  refine va_sld hx hb hX hbl hbA hw.2.2.1 (i := nI (6 * q + 3)) (vp_in_nI (by omega) (by omega)) (dkP dF_46 DL_law (i := 1102) rfl rfl) ?_
  refine lv_aload_n hx hb (dkP dF_42 DL_law (i := 1103) rfl rfl) rfl (lv_at hl 3 rfl) ?_
  refine lv_iload_n hx hb (dkP dF_29 DL_law (i := 1104) rfl rfl) rfl (lv_at hl 0 rfl) ?_
  refine lv_iconst (v := 4) hx hb (dkP dF_7 DL_law (i := 1105) rfl rfl) (by decide) ?_
  refine lv_iadd hx hb (dkP dF_96 DL_law (i := 1106) rfl rfl) ?_
  refine z_top (y := nI (6 * q + 4)) (by simp only [fa_lit, nI_add]) ?_
  refine va_sld hx hb hX hbl hbA hw.2.2.1 (i := nI (6 * q + 4)) (vp_in_nI (by omega) (by omega)) (dkP dF_46 DL_law (i := 1107) rfl rfl) ?_
  refine lv_aload_n hx hb (dkP dF_42 DL_law (i := 1108) rfl rfl) rfl (lv_at hl 3 rfl) ?_
  refine lv_iload_n hx hb (dkP dF_29 DL_law (i := 1109) rfl rfl) rfl (lv_at hl 0 rfl) ?_
  refine lv_iconst (v := 5) hx hb (dkP dF_8 DL_law (i := 1110) rfl rfl) (by decide) ?_
  refine lv_iadd hx hb (dkP dF_96 DL_law (i := 1111) rfl rfl) ?_
  refine z_top (y := nI (6 * q + 5)) (by simp only [fa_lit, nI_add]) ?_
  refine va_sld hx hb hX hbl hbA hw.2.2.1 (i := nI (6 * q + 5)) (vp_in_nI (by omega) (by omega)) (dkP dF_46 DL_law (i := 1112) rfl rfl) ?_
  refine q_x (As := [.int (xs (nI (6 * q + 1)).toNatClampNeg), .int (xs (nI (6 * q + 2)).toNatClampNeg), .int (xs (nI (6 * q + 3)).toNatClampNeg), .int (xs (nI (6 * q + 4)).toNatClampNeg), .int (xs (nI (6 * q + 5)).toNatClampNeg)]) (rest := []) C0 hRo hw (c_X11_paste l G kc ad1 σ1 (xs (nI (6 * q + 1)).toNatClampNeg) (xs (nI (6 * q + 2)).toNatClampNeg) (xs (nI (6 * q + 3)).toNatClampNeg) (xs (nI (6 * q + 4)).toNatClampNeg) (xs (nI (6 * q + 5)).toNatClampNeg) hJ1 hT1) rfl cv_X11_paste lk_L_194 rfl hl.1 rfl ⟨by decide, by decide⟩ (Nat.le_of_ble_eq_true rfl) (dk2 dF_182 DL_law (i := 1113) rfl rfl rfl) ⟨by decide, by decide⟩ (fun r1 s1 H locs hp1 hw => ?_)
  obtain ⟨g1_0, hT1_, hF1⟩ := hp1
  have hJ1 := g1_0
  have hT1 := hT1_
  have hA : KA2 σ1 s1 := fun x k hx9 => hF1.1 x k (fun h9 => by rcases hx9 with rfl | rfl | rfl | rfl | rfl | hx9 <;> first | (simp at h9; done) | omega)
  refine lv_pop hx hb (dkP dF_87 DL_law (i := 1114) rfl rfl) rfl ?_
  refine lv_aload_n hx hb (dkP dF_44 DL_law (i := 1115) rfl rfl) rfl (lv_at hl 1 rfl) ?_
  refine lv_aload_n hx hb (dkP dF_42 DL_law (i := 1116) rfl rfl) rfl (lv_at hl 3 rfl) ?_
  refine lv_iload_n hx hb (dkP dF_29 DL_law (i := 1117) rfl rfl) rfl (lv_at hl 0 rfl) ?_
  refine lv_iconst (v := 1) hx hb (dkP dF_4 DL_law (i := 1118) rfl rfl) (by decide) ?_
  refine lv_iadd hx hb (dkP dF_96 DL_law (i := 1119) rfl rfl) ?_
  refine z_top (y := nI (6 * q + 1)) (by simp only [fa_lit, nI_add]) ?_
  refine va_sld hx hb hX hbl hbA hw.2.2.1 (i := nI (6 * q + 1)) (vp_in_nI (by omega) (by omega)) (dkP dF_46 DL_law (i := 1120) rfl rfl) ?_
  refine lv_aload_n hx hb (dkP dF_42 DL_law (i := 1121) rfl rfl) rfl (lv_at hl 3 rfl) ?_
  refine lv_iload_n hx hb (dkP dF_29 DL_law (i := 1122) rfl rfl) rfl (lv_at hl 0 rfl) ?_
  refine lv_iconst (v := 2) hx hb (dkP dF_5 DL_law (i := 1123) rfl rfl) (by decide) ?_
  refine lv_iadd hx hb (dkP dF_96 DL_law (i := 1124) rfl rfl) ?_
  refine z_top (y := nI (6 * q + 2)) (by simp only [fa_lit, nI_add]) ?_
  refine va_sld hx hb hX hbl hbA hw.2.2.1 (i := nI (6 * q + 2)) (vp_in_nI (by omega) (by omega)) (dkP dF_46 DL_law (i := 1125) rfl rfl) ?_
  refine lv_aload_n hx hb (dkP dF_42 DL_law (i := 1126) rfl rfl) rfl (lv_at hl 3 rfl) ?_
  refine lv_iload_n hx hb (dkP dF_29 DL_law (i := 1127) rfl rfl) rfl (lv_at hl 0 rfl) ?_
  refine lv_iconst (v := 3) hx hb (dkP dF_6 DL_law (i := 1128) rfl rfl) (by decide) ?_
  refine lv_iadd hx hb (dkP dF_96 DL_law (i := 1129) rfl rfl) ?_
  refine z_top (y := nI (6 * q + 3)) (by simp only [fa_lit, nI_add]) ?_
  refine va_sld hx hb hX hbl hbA hw.2.2.1 (i := nI (6 * q + 3)) (vp_in_nI (by omega) (by omega)) (dkP dF_46 DL_law (i := 1130) rfl rfl) ?_
  refine lv_aload_n hx hb (dkP dF_42 DL_law (i := 1131) rfl rfl) rfl (lv_at hl 3 rfl) ?_
  refine lv_iload_n hx hb (dkP dF_29 DL_law (i := 1132) rfl rfl) rfl (lv_at hl 0 rfl) ?_
  refine lv_iconst (v := 4) hx hb (dkP dF_7 DL_law (i := 1133) rfl rfl) (by decide) ?_
  refine lv_iadd hx hb (dkP dF_96 DL_law (i := 1134) rfl rfl) ?_
  refine z_top (y := nI (6 * q + 4)) (by simp only [fa_lit, nI_add]) ?_
  refine va_sld hx hb hX hbl hbA hw.2.2.1 (i := nI (6 * q + 4)) (vp_in_nI (by omega) (by omega)) (dkP dF_46 DL_law (i := 1135) rfl rfl) ?_
  refine lv_aload_n hx hb (dkP dF_42 DL_law (i := 1136) rfl rfl) rfl (lv_at hl 3 rfl) ?_
  refine lv_iload_n hx hb (dkP dF_29 DL_law (i := 1137) rfl rfl) rfl (lv_at hl 0 rfl) ?_
  refine lv_iconst (v := 5) hx hb (dkP dF_8 DL_law (i := 1138) rfl rfl) (by decide) ?_
  refine lv_iadd hx hb (dkP dF_96 DL_law (i := 1139) rfl rfl) ?_
  refine z_top (y := nI (6 * q + 5)) (by simp only [fa_lit, nI_add]) ?_
  refine va_sld hx hb hX hbl hbA hw.2.2.1 (i := nI (6 * q + 5)) (vp_in_nI (by omega) (by omega)) (dkP dF_46 DL_law (i := 1140) rfl rfl) ?_
  refine q_m (As := [.int (xs (nI (6 * q + 1)).toNatClampNeg), .int (xs (nI (6 * q + 2)).toNatClampNeg), .int (xs (nI (6 * q + 3)).toNatClampNeg), .int (xs (nI (6 * q + 4)).toNatClampNeg), .int (xs (nI (6 * q + 5)).toNatClampNeg)]) (rest := []) C0 hRo hw (c_X12_paste l G kc ad2 σ2 (xs (nI (6 * q + 1)).toNatClampNeg) (xs (nI (6 * q + 2)).toNatClampNeg) (xs (nI (6 * q + 3)).toNatClampNeg) (xs (nI (6 * q + 4)).toNatClampNeg) (xs (nI (6 * q + 5)).toNatClampNeg)  hT2) rfl cv_X12_paste lk_L_197 rfl hl.1 rfl ⟨by decide, by decide⟩ (Nat.le_of_ble_eq_true rfl) (dk2 dF_182 DL_law (i := 1141) rfl rfl rfl) ⟨by decide, by decide⟩ (fun r2 s2 H locs hp2 hw => ?_)
  obtain ⟨hT2_, hF2⟩ := hp2
  have hJ2 := hJ2.f hF2 (by decide) (by decide)
  have hT2 := hT2_
  have hB : KB2 σ2 s2 := ⟨fun k => congrFun (hF2.1 2 (by decide) (by decide)) k, fun k => congrFun (hF2.1 3 (by decide) (by decide)) k, fun k hk => hF2.2.2.2 rfl k hk⟩
  have hN : RLb s1 s2 := hR.f hA hB
  refine lv_pop hx hb (dkP dF_87 DL_law (i := 1142) rfl rfl) rfl ?_
  refine lv_goto (tgt := 1616) hx hb (dkS dF_167 DL_law (i := 1143) rfl rfl rfl) (by decide) ?_
  exact kk _ _ _ _ hT1 hJ1 hT2 hJ2 hN hw
set_option maxRecDepth 100000 in
set_option maxHeartbeats 4000000 in
theorem law_loop (l : Launch) (G : va_G) (kc : KC) {p : Program} {e : Env} {s : State} {m : MethodId} {below : List Frame} {meth : Method} {c : Code} {b L : Nat} {xs : Nat → Int32} (hr : meth.sig.returnType = ret) (hlk : meth.locks = false) (C0 : Cx G kc p s m c #[Value.ref b] cL_law 4 RL) (hRo : RO0 kc (fun q : Nat => s.heap.size ≤ q) s s.heap) (hX : va_X b L xs s s.heap) (hbl : b < s.heap.size) (hL : L ≤ 3072) {ad1 ad2 : Nat → Nat} : ∀ (nq q : Nat) (σ1 σ2 : Sg) (H : Heap) (locs : List Loc) (ls : Array Slot), 600 - q < nq → 6 * q ≤ 3072 → TC σ1 → JC σ1 → TM σ2 → JM σ2 → RLb σ1 σ2 → TW G kc (fun q : Nat => s.heap.size ≤ q) s.heap ad1 σ1 ad2 σ2 H locs → lv_has ls 4 [(3, .int (nI (6 * q))), (2, .ref (ad2 0)), (1, .ref (ad1 0)), (0, .ref b)] → W p l e room_1 s m #[Value.ref b] below meth c H locs 836 1863908 (lw_Z below #[Value.ref b] s) (F0 m 18 ls []) := by
  have hx := C0.1
  have hb := C0.2.1
  have hbA : ¬ (fun q : Nat => s.heap.size ≤ q) b := Nat.not_le.mpr hbl
  intro nq
  induction nq with
  | zero => intro q σ1 σ2 H locs ls h; exact absurd h (Nat.not_lt_zero _)
  | succ nq ih =>
    intro q σ1 σ2 H locs ls hmu hq6 hT1 hJ1 hT2 hJ2 hR hw hl
    refine lv_iload_n hx hb (dkP dF_29 DL_law (i := 10) rfl rfl) rfl (lv_at hl 0 rfl) ?_
    refine lv_aload_n hx hb (dkP dF_42 DL_law (i := 11) rfl rfl) rfl (lv_at hl 3 rfl) ?_
    refine va_slen hx hb hX hbl hbA hw.2.2.1 (dkP dF_190 DL_law (i := 12) rfl rfl) ?_
    refine lv_bipush (v := 6) hx hb (dks dF_16 DL_law (i := 13) rfl rfl rfl) (by decide) ?_
    refine lv_isub hx hb (dkP dF_100 DL_law (i := 14) rfl rfl) ?_
    refine lv_icmp_gt (tgt := 1622) hx hb (dkS dF_163 DL_law (i := 15) rfl rfl rfl) (by decide) (fun _ => law_exit l G kc hr hlk C0 hw.2.2.1) (fun hc => ?_)
    have hc : ¬ (nI L - 6 < nI (6 * q)) := hc
    have hq : 6 * q + 6 ≤ L := by
      rw [ta_lt, tsb32 (by rw [tnI L (by omega), tl32 6 (by decide)]; omega) (by rw [tnI L (by omega), tl32 6 (by decide)]; omega), tnI L (by omega), tnI (6 * q) (by omega), tl32 6 (by decide)] at hc
      omega
    have kk : ∀ (σ1 σ2 : Sg) (H : Heap) (locs : List Loc), TC σ1 → JC σ1 → TM σ2 → JM σ2 → RLb σ1 σ2 → TW G kc (fun q : Nat => s.heap.size ≤ q) s.heap ad1 σ1 ad2 σ2 H locs → W p l e room_1 s m #[Value.ref b] below meth c H locs 836 1863908 (lw_Z below #[Value.ref b] s) (F0 m 1616 ls []) := by
      intro σ1 σ2 H locs hT1 hJ1 hT2 hJ2 hR hw
      refine lv_iinc (v := nI (6 * (q + 1))) (lv' := [(3, .int (nI (6 * (q + 1)))), (2, .ref (ad2 0)), (1, .ref (ad1 0)), (0, .ref b)]) hx hb (dkI DL_law (i := 1144) rfl rfl rfl rfl) hl (k := 0) rfl (by rw [Nat.mul_add]; exact nI_add _ 6) (by decide) rfl (fun ls hl => ?_)
      refine lv_goto (tgt := 18) hx hb (dkS dF_167 DL_law (i := 1145) rfl rfl rfl) (by decide) ?_
      exact ih (q + 1) σ1 σ2 H locs ls (by omega) (by omega) hT1 hJ1 hT2 hJ2 hR hw hl
    refine lv_aload_n hx hb (dkP dF_42 DL_law (i := 16) rfl rfl) rfl (lv_at hl 3 rfl) ?_
    refine lv_iload_n hx hb (dkP dF_29 DL_law (i := 17) rfl rfl) rfl (lv_at hl 0 rfl) ?_
    refine va_sld hx hb hX hbl hbA hw.2.2.1 (i := nI (6 * q)) (vp_in_nI (by omega) (by omega)) (dkP dF_46 DL_law (i := 18) rfl rfl) ?_
    refine lv_bipush (v := 63) hx hb (dks dF_16 DL_law (i := 19) rfl rfl rfl) (by decide) ?_
    refine lv_iand hx hb (dkP dF_126 DL_law (i := 20) rfl rfl) ?_
    obtain ⟨j, hj, ej⟩ := pk_andE (xs (nI (6 * q)).toNatClampNeg) (m := 63) 6 (by decide)
    rw [ej]
    by_cases h44 : j < 44
    · match j, h44 with
      | 0, _ =>
        refine lv_tableIn (x := nI 0) (off := 191) (tgt := 224) hx hb dL_law_33 (by decide) (by decide) rfl (by decide) ?_
        exact law_0 l G kc C0 hRo hX hbl hL hq hT1 hJ1 hT2 hJ2 hR hw hl kk
      | 1, _ =>
        refine lv_tableIn (x := nI 1) (off := 254) (tgt := 287) hx hb dL_law_33 (by decide) (by decide) rfl (by decide) ?_
        exact law_1 l G kc C0 hRo hX hbl hL hq hT1 hJ1 hT2 hJ2 hR hw hl kk
      | 2, _ =>
        refine lv_tableIn (x := nI 2) (off := 277) (tgt := 310) hx hb dL_law_33 (by decide) (by decide) rfl (by decide) ?_
        exact law_2 l G kc C0 hRo hX hbl hL hq hT1 hJ1 hT2 hJ2 hR hw hl kk
      | 3, _ =>
        refine lv_tableIn (x := nI 3) (off := 300) (tgt := 333) hx hb dL_law_33 (by decide) (by decide) rfl (by decide) ?_
        exact law_3 l G kc C0 hRo hX hbl hL hq hT1 hJ1 hT2 hJ2 hR hw hl kk
      | 4, _ =>
        refine lv_tableIn (x := nI 4) (off := 323) (tgt := 356) hx hb dL_law_33 (by decide) (by decide) rfl (by decide) ?_
        exact law_4 l G kc C0 hRo hX hbl hL hq hT1 hJ1 hT2 hJ2 hR hw hl kk
      | 5, _ =>
        refine lv_tableIn (x := nI 5) (off := 346) (tgt := 379) hx hb dL_law_33 (by decide) (by decide) rfl (by decide) ?_
        exact law_5 l G kc C0 hRo hX hbl hL hq hT1 hJ1 hT2 hJ2 hR hw hl kk
      | 6, _ =>
        refine lv_tableIn (x := nI 6) (off := 399) (tgt := 432) hx hb dL_law_33 (by decide) (by decide) rfl (by decide) ?_
        exact law_6 l G kc C0 hRo hX hbl hL hq hT1 hJ1 hT2 hJ2 hR hw hl kk
      | 7, _ =>
        refine lv_tableIn (x := nI 7) (off := 432) (tgt := 465) hx hb dL_law_33 (by decide) (by decide) rfl (by decide) ?_
        exact law_7 l G kc C0 hRo hX hbl hL hq hT1 hJ1 hT2 hJ2 hR hw hl kk
      | 8, _ =>
        refine lv_tableIn (x := nI 8) (off := 465) (tgt := 498) hx hb dL_law_33 (by decide) (by decide) rfl (by decide) ?_
        exact law_8 l G kc C0 hRo hX hbl hL hq hT1 hJ1 hT2 hJ2 hR hw hl kk
      | 9, _ =>
        refine lv_tableIn (x := nI 9) (off := 488) (tgt := 521) hx hb dL_law_33 (by decide) (by decide) rfl (by decide) ?_
        exact law_9 l G kc C0 hRo hX hbl hL hq hT1 hJ1 hT2 hJ2 hR hw hl kk
      | 10, _ =>
        refine lv_tableIn (x := nI 10) (off := 501) (tgt := 534) hx hb dL_law_33 (by decide) (by decide) rfl (by decide) ?_
        exact law_10 l G kc C0 hRo hX hbl hL hq hT1 hJ1 hT2 hJ2 hR hw hl kk
      | 11, _ =>
        refine lv_tableIn (x := nI 11) (off := 524) (tgt := 557) hx hb dL_law_33 (by decide) (by decide) rfl (by decide) ?_
        exact law_11 l G kc C0 hRo hX hbl hL hq hT1 hJ1 hT2 hJ2 hR hw hl kk
      | 12, _ =>
        refine lv_tableIn (x := nI 12) (off := 567) (tgt := 600) hx hb dL_law_33 (by decide) (by decide) rfl (by decide) ?_
        exact law_12 l G kc C0 hRo hX hbl hL hq hT1 hJ1 hT2 hJ2 hR hw hl kk
      | 13, _ =>
        refine lv_tableIn (x := nI 13) (off := 610) (tgt := 643) hx hb dL_law_33 (by decide) (by decide) rfl (by decide) ?_
        exact law_13 l G kc C0 hRo hX hbl hL hq hT1 hJ1 hT2 hJ2 hR hw hl kk
      | 14, _ =>
        refine lv_tableIn (x := nI 14) (off := 623) (tgt := 656) hx hb dL_law_33 (by decide) (by decide) rfl (by decide) ?_
        exact law_14 l G kc C0 hRo hX hbl hL hq hT1 hJ1 hT2 hJ2 hR hw hl kk
      | 15, _ =>
        refine lv_tableIn (x := nI 15) (off := 636) (tgt := 669) hx hb dL_law_33 (by decide) (by decide) rfl (by decide) ?_
        exact law_15 l G kc C0 hRo hX hbl hL hq hT1 hJ1 hT2 hJ2 hR hw hl kk
      | 16, _ =>
        refine lv_tableIn (x := nI 16) (off := 659) (tgt := 692) hx hb dL_law_33 (by decide) (by decide) rfl (by decide) ?_
        exact law_16 l G kc C0 hRo hX hbl hL hq hT1 hJ1 hT2 hJ2 hR hw hl kk
      | 17, _ =>
        refine lv_tableIn (x := nI 17) (off := 712) (tgt := 745) hx hb dL_law_33 (by decide) (by decide) rfl (by decide) ?_
        exact law_17 l G kc C0 hRo hX hbl hL hq hT1 hJ1 hT2 hJ2 hR hw hl kk
      | 18, _ =>
        refine lv_tableIn (x := nI 18) (off := 775) (tgt := 808) hx hb dL_law_33 (by decide) (by decide) rfl (by decide) ?_
        exact law_18 l G kc C0 hRo hX hbl hL hq hT1 hJ1 hT2 hJ2 hR hw hl kk
      | 19, _ =>
        refine lv_tableIn (x := nI 19) (off := 798) (tgt := 831) hx hb dL_law_33 (by decide) (by decide) rfl (by decide) ?_
        exact law_19 l G kc C0 hRo hX hbl hL hq hT1 hJ1 hT2 hJ2 hR hw hl kk
      | 20, _ =>
        refine lv_tableIn (x := nI 20) (off := 831) (tgt := 864) hx hb dL_law_33 (by decide) (by decide) rfl (by decide) ?_
        exact law_20 l G kc C0 hRo hX hbl hL hq hT1 hJ1 hT2 hJ2 hR hw hl kk
      | 21, _ =>
        refine lv_tableIn (x := nI 21) (off := 864) (tgt := 897) hx hb dL_law_33 (by decide) (by decide) rfl (by decide) ?_
        exact law_21 l G kc C0 hRo hX hbl hL hq hT1 hJ1 hT2 hJ2 hR hw hl kk
      | 22, _ =>
        refine lv_tableIn (x := nI 22) (off := 897) (tgt := 930) hx hb dL_law_33 (by decide) (by decide) rfl (by decide) ?_
        exact law_22 l G kc C0 hRo hX hbl hL hq hT1 hJ1 hT2 hJ2 hR hw hl kk
      | 23, _ =>
        refine lv_tableIn (x := nI 23) (off := 910) (tgt := 943) hx hb dL_law_33 (by decide) (by decide) rfl (by decide) ?_
        exact law_23 l G kc C0 hRo hX hbl hL hq hT1 hJ1 hT2 hJ2 hR hw hl kk
      | 24, _ =>
        refine lv_tableIn (x := nI 24) (off := 943) (tgt := 976) hx hb dL_law_33 (by decide) (by decide) rfl (by decide) ?_
        exact law_24 l G kc C0 hRo hX hbl hL hq hT1 hJ1 hT2 hJ2 hR hw hl kk
      | 25, _ =>
        refine lv_tableIn (x := nI 25) (off := 976) (tgt := 1009) hx hb dL_law_33 (by decide) (by decide) rfl (by decide) ?_
        exact law_25 l G kc C0 hRo hX hbl hL hq hT1 hJ1 hT2 hJ2 hR hw hl kk
      | 26, _ =>
        refine lv_tableIn (x := nI 26) (off := 1019) (tgt := 1052) hx hb dL_law_33 (by decide) (by decide) rfl (by decide) ?_
        exact law_26 l G kc C0 hRo hX hbl hL hq hT1 hJ1 hT2 hJ2 hR hw hl kk
      | 27, _ =>
        refine lv_tableIn (x := nI 27) (off := 1052) (tgt := 1085) hx hb dL_law_33 (by decide) (by decide) rfl (by decide) ?_
        exact law_27 l G kc C0 hRo hX hbl hL hq hT1 hJ1 hT2 hJ2 hR hw hl kk
      | 28, _ =>
        refine lv_tableIn (x := nI 28) (off := 1075) (tgt := 1108) hx hb dL_law_33 (by decide) (by decide) rfl (by decide) ?_
        exact law_28 l G kc C0 hRo hX hbl hL hq hT1 hJ1 hT2 hJ2 hR hw hl kk
      | 29, _ =>
        refine lv_tableIn (x := nI 29) (off := 1098) (tgt := 1131) hx hb dL_law_33 (by decide) (by decide) rfl (by decide) ?_
        exact law_29 l G kc C0 hRo hX hbl hL hq hT1 hJ1 hT2 hJ2 hR hw hl kk
      | 30, _ =>
        refine lv_tableIn (x := nI 30) (off := 1121) (tgt := 1154) hx hb dL_law_33 (by decide) (by decide) rfl (by decide) ?_
        exact law_30 l G kc C0 hRo hX hbl hL hq hT1 hJ1 hT2 hJ2 hR hw hl kk
      | 31, _ =>
        refine lv_tableIn (x := nI 31) (off := 1144) (tgt := 1177) hx hb dL_law_33 (by decide) (by decide) rfl (by decide) ?_
        exact law_31 l G kc C0 hRo hX hbl hL hq hT1 hJ1 hT2 hJ2 hR hw hl kk
      | 32, _ =>
        refine lv_tableIn (x := nI 32) (off := 1167) (tgt := 1200) hx hb dL_law_33 (by decide) (by decide) rfl (by decide) ?_
        exact law_32 l G kc C0 hRo hX hbl hL hq hT1 hJ1 hT2 hJ2 hR hw hl kk
      | 33, _ =>
        refine lv_tableIn (x := nI 33) (off := 1190) (tgt := 1223) hx hb dL_law_33 (by decide) (by decide) rfl (by decide) ?_
        exact law_33 l G kc C0 hRo hX hbl hL hq hT1 hJ1 hT2 hJ2 hR hw hl kk
      | 34, _ =>
        refine lv_tableIn (x := nI 34) (off := 1223) (tgt := 1256) hx hb dL_law_33 (by decide) (by decide) rfl (by decide) ?_
        exact law_34 l G kc C0 hRo hX hbl hL hq hT1 hJ1 hT2 hJ2 hR hw hl kk
      | 35, _ =>
        refine lv_tableIn (x := nI 35) (off := 1266) (tgt := 1299) hx hb dL_law_33 (by decide) (by decide) rfl (by decide) ?_
        exact law_35 l G kc C0 hRo hX hbl hL hq hT1 hJ1 hT2 hJ2 hR hw hl kk
      | 36, _ =>
        refine lv_tableIn (x := nI 36) (off := 1289) (tgt := 1322) hx hb dL_law_33 (by decide) (by decide) rfl (by decide) ?_
        exact law_36 l G kc C0 hRo hX hbl hL hq hT1 hJ1 hT2 hJ2 hR hw hl kk
      | 37, _ =>
        refine lv_tableIn (x := nI 37) (off := 1322) (tgt := 1355) hx hb dL_law_33 (by decide) (by decide) rfl (by decide) ?_
        exact law_37 l G kc C0 hRo hX hbl hL hq hT1 hJ1 hT2 hJ2 hR hw hl kk
      | 38, _ =>
        refine lv_tableIn (x := nI 38) (off := 1335) (tgt := 1368) hx hb dL_law_33 (by decide) (by decide) rfl (by decide) ?_
        exact law_38 l G kc C0 hRo hX hbl hL hq hT1 hJ1 hT2 hJ2 hR hw hl kk
      | 39, _ =>
        refine lv_tableIn (x := nI 39) (off := 1358) (tgt := 1391) hx hb dL_law_33 (by decide) (by decide) rfl (by decide) ?_
        exact law_39 l G kc C0 hRo hX hbl hL hq hT1 hJ1 hT2 hJ2 hR hw hl kk
      | 40, _ =>
        refine lv_tableIn (x := nI 40) (off := 1381) (tgt := 1414) hx hb dL_law_33 (by decide) (by decide) rfl (by decide) ?_
        exact law_40 l G kc C0 hRo hX hbl hL hq hT1 hJ1 hT2 hJ2 hR hw hl kk
      | 41, _ =>
        refine lv_tableIn (x := nI 41) (off := 1404) (tgt := 1437) hx hb dL_law_33 (by decide) (by decide) rfl (by decide) ?_
        exact law_41 l G kc C0 hRo hX hbl hL hq hT1 hJ1 hT2 hJ2 hR hw hl kk
      | 42, _ =>
        refine lv_tableIn (x := nI 42) (off := 1447) (tgt := 1480) hx hb dL_law_33 (by decide) (by decide) rfl (by decide) ?_
        exact law_42 l G kc C0 hRo hX hbl hL hq hT1 hJ1 hT2 hJ2 hR hw hl kk
      | 43, _ =>
        refine lv_tableIn (x := nI 43) (off := 1520) (tgt := 1553) hx hb dL_law_33 (by decide) (by decide) rfl (by decide) ?_
        exact law_43 l G kc C0 hRo hX hbl hL hq hT1 hJ1 hT2 hJ2 hR hw hl kk
      | j + 44, h => exact absurd h (by omega)
    · refine lv_tableOut (tgt := 1616) hx hb dL_law_33 (by rw [tnI j (by omega)]; omega) (by decide) ?_
      exact kk _ _ _ _ hT1 hJ1 hT2 hJ2 hR hw
