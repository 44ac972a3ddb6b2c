theorem i2b_nI : ∀ {n : Nat}, n < 128 → (nI n).toInt8.toInt32 = nI n := by decide +kernel
def fok (x : Int32) : Prop := 0 ≤ x.toInt ∧ x.toInt ≤ ((7 : Nat) : Int)
def tok (x : Int32) : Prop := -1 ≤ x.toInt ∧ x.toInt ≤ 23
/-- an OLD text that may be run -/
def VOb (σ : Sg) (t sz us : Nat) : Prop := us ≤ 192 ∧ σ.1 (t + 8) 1 = nI us ∧ ∀ n, n < sz → (σ.1 (t + 2) n = 1 → fok (σ.1 (t + 3) n) ∧ ∃ a, σ.1 (t + 7) n = nI a ∧ sok (σ.1 (t + 9)) us a) ∧ (σ.1 (t + 2) n = 2 → fok (σ.1 (t + 3) n) ∧ tok (σ.1 (t + 6) n)) ∧ (σ.1 (t + 2) n = 3 → tok (σ.1 (t + 6) n))
def VO (σ : Sg) (t : Nat) : Prop := ∃ sz us, σ.1 t 1 = nI sz ∧ sz ≤ 24 ∧ VOb σ t sz us
theorem VOb.c {σ τ : Sg} {t sz us : Nat} (h : VOb σ t sz us) (he : ∀ x y, t ≤ x ∧ x ≤ t + 9 → τ.1 x y = σ.1 x y) : VOb τ t sz us := by
  refine ⟨h.1, by rw [he _ _ (by omega)]; exact h.2.1, fun n hn => ?_⟩
  have e9 : τ.1 (t + 9) = σ.1 (t + 9) := funext (fun y => he _ y (by omega))
  rw [he (t + 2) n (by omega), he (t + 3) n (by omega), he (t + 7) n (by omega), he (t + 6) n (by omega), e9]
  exact h.2.2 n hn
theorem VO.c {σ τ : Sg} {t : Nat} (h : VO σ t) (he : ∀ x y, t ≤ x ∧ x ≤ t + 9 → τ.1 x y = σ.1 x y) : VO τ t := by
  obtain ⟨sz, us, h1, h2, h3⟩ := h
  exact ⟨sz, us, (he _ _ (by omega)).trans h1, h2, h3.c he⟩
set_option maxRecDepth 100000 in
set_option maxHeartbeats 4000000 in
theorem c_X11_holds (l : Launch) (G : va_G) (kc : KC)  (v : Int32) (sn : Int32) (nx : Int32)  : MI l G kc yX11_holds cX11_holds 3 (some .boolean) 0 0 [.int v, .int sn, .int nx] [] a00 s00 (fun r _ => r = 0 ∨ r = 1) := by
  intro sz
  refine z_body (y := yX11_holds) (n := 3) (av := [.int v, .int sn, .int nx]) (Qc := fun A => va_Qi (fun r _ => r = 0 ∨ r = 1) (PoC G kc [] a00 A) A) (plainFor_of_name (by decide)) (Nat.le_of_ble_eq_true rfl) (fun pr e s m below meth c A C0 hr hlk hnm hw hRo ls hl => ?_) sz
  have hx := C0.1
  have hb := C0.2.1
  have hown := C0.2.2.2.1
  have hts := C0.2.2.2.2.1
  have hl : lv_has ls 3 [(0, .int v), (1, .int sn), (2, .int nx)] := hl
  refine lv_iload_n hx hb (dkP dF_27 DX11_holds (i := 0) rfl rfl) rfl (lv_at hl 1 rfl) ?_
  refine lv_if_ne (tgt := 15) hx hb (dkS dF_154 DX11_holds (i := 1) rfl rfl rfl) (by decide) (fun c1 => ?_) (fun c1 => ?_)
  · skip
    refine lv_iload_n hx hb (dkP dF_27 DX11_holds (i := 9) rfl rfl) rfl (lv_at hl 1 rfl) ?_
    refine lv_iconst (v := 1) hx hb (dkP dF_4 DX11_holds (i := 10) rfl rfl) (by decide) ?_
    refine lv_icmp_ne (tgt := 33) hx hb (dkS dF_160 DX11_holds (i := 11) rfl rfl rfl) (by decide) (fun c2 => ?_) (fun c2 => ?_)
    · skip
      refine lv_iload_n hx hb (dkP dF_26 DX11_holds (i := 19) rfl rfl) rfl (lv_at hl 0 rfl) ?_
      refine lv_iload_n hx hb (dkP dF_28 DX11_holds (i := 20) rfl rfl) rfl (lv_at hl 2 rfl) ?_
      refine lv_icmp_ne (tgt := 42) hx hb (dkS dF_160 DX11_holds (i := 21) rfl rfl rfl) (by decide) (fun c3 => ?_) (fun c3 => ?_)
      · skip
        refine lv_iconst (v := 0) hx hb (dkP dF_3 DX11_holds (i := 24) rfl rfl) (by decide) ?_
        exact z_zret C0 hr hlk (by decide) hw (by decide) (dkP dF_172 DX11_holds (i := 25) rfl rfl)
      · skip
        refine lv_iconst (v := 1) hx hb (dkP dF_4 DX11_holds (i := 22) rfl rfl) (by decide) ?_
        refine lv_goto (tgt := 43) hx hb (dkS dF_167 DX11_holds (i := 23) rfl rfl rfl) (by decide) ?_
        exact z_zret C0 hr hlk (by decide) hw (by decide) (dkP dF_172 DX11_holds (i := 25) rfl rfl)
    · skip
      refine lv_iload_n hx hb (dkP dF_26 DX11_holds (i := 12) rfl rfl) rfl (lv_at hl 0 rfl) ?_
      refine lv_iload_n hx hb (dkP dF_28 DX11_holds (i := 13) rfl rfl) rfl (lv_at hl 2 rfl) ?_
      refine lv_icmp_le (tgt := 29) hx hb (dkS dF_164 DX11_holds (i := 14) rfl rfl rfl) (by decide) (fun c4 => ?_) (fun c4 => ?_)
      · skip
        refine lv_iconst (v := 0) hx hb (dkP dF_3 DX11_holds (i := 17) rfl rfl) (by decide) ?_
        refine lv_goto (tgt := 43) hx hb (dkS dF_167 DX11_holds (i := 18) rfl rfl rfl) (by decide) ?_
        exact z_zret C0 hr hlk (by decide) hw (by decide) (dkP dF_172 DX11_holds (i := 25) rfl rfl)
      · skip
        refine lv_iconst (v := 1) hx hb (dkP dF_4 DX11_holds (i := 15) rfl rfl) (by decide) ?_
        refine lv_goto (tgt := 43) hx hb (dkS dF_167 DX11_holds (i := 16) rfl rfl rfl) (by decide) ?_
        exact z_zret C0 hr hlk (by decide) hw (by decide) (dkP dF_172 DX11_holds (i := 25) rfl rfl)
  · skip
    refine lv_iload_n hx hb (dkP dF_26 DX11_holds (i := 2) rfl rfl) rfl (lv_at hl 0 rfl) ?_
    refine lv_iload_n hx hb (dkP dF_28 DX11_holds (i := 3) rfl rfl) rfl (lv_at hl 2 rfl) ?_
    refine lv_icmp_ge (tgt := 13) hx hb (dkS dF_162 DX11_holds (i := 4) rfl rfl rfl) (by decide) (fun c5 => ?_) (fun c5 => ?_)
    · skip
      refine lv_iconst (v := 0) hx hb (dkP dF_3 DX11_holds (i := 7) rfl rfl) (by decide) ?_
      exact z_zret C0 hr hlk (by decide) hw (by decide) (dkP dF_172 DX11_holds (i := 8) rfl rfl)
    · skip
      refine lv_iconst (v := 1) hx hb (dkP dF_4 DX11_holds (i := 5) rfl rfl) (by decide) ?_
      refine lv_goto (tgt := 14) hx hb (dkS dF_167 DX11_holds (i := 6) rfl rfl rfl) (by decide) ?_
      exact z_zret C0 hr hlk (by decide) hw (by decide) (dkP dF_172 DX11_holds (i := 8) rfl rfl)
set_option maxRecDepth 20000 in
theorem shl_ot_3 : ∀ d, d ∈ otL → shC[d + 3]? = some (1, 24, []) := by decide +kernel
theorem tck_ot_3 : ∀ d, d ∈ otL → tcL.getD (d + 3) 0 = 0 := by decide +kernel
set_option maxRecDepth 20000 in
theorem shl_ot_2 : ∀ d, d ∈ otL → shC[d + 2]? = some (1, 24, []) := by decide +kernel
theorem tck_ot_2 : ∀ d, d ∈ otL → tcL.getD (d + 2) 0 = 0 := by decide +kernel
set_option maxRecDepth 20000 in
theorem shl_ot_7 : ∀ d, d ∈ otL → shC[d + 7]? = some (1, 24, []) := by decide +kernel
set_option maxRecDepth 20000 in
theorem shl_ot_4 : ∀ d, d ∈ otL → shC[d + 4]? = some (1, 24, []) := by decide +kernel
theorem tck_ot_4 : ∀ d, d ∈ otL → tcL.getD (d + 4) 0 = 0 := by decide +kernel
set_option maxRecDepth 20000 in
theorem shl_ot_5 : ∀ d, d ∈ otL → shC[d + 5]? = some (1, 24, []) := by decide +kernel
theorem tck_ot_5 : ∀ d, d ∈ otL → tcL.getD (d + 5) 0 = 0 := by decide +kernel
set_option maxRecDepth 20000 in
theorem shl_ot_6 : ∀ d, d ∈ otL → shC[d + 6]? = some (1, 24, []) := by decide +kernel
theorem tck_ot_6 : ∀ d, d ∈ otL → tcL.getD (d + 6) 0 = 0 := by decide +kernel
set_option maxRecDepth 100000 in
set_option maxHeartbeats 8000000 in
theorem c_X0_doLine (l : Launch) (G : va_G) (kc : KC) (ad : Nat → Nat) (σ : Sg) (mc : Nat) (t : Nat) (line : Nat) (bd : Int32) {sz us q : Nat} (hmc : mc ∈ mcL) (ht : t ∈ otL) (hsz : σ.1 t 1 = nI sz) (hsz24 : sz ≤ 24) (hV : VOb σ t sz us) (hln : line < sz) (hq : σ.1 mc 4 = nI q) (hq9 : q < 100) (hT : TC σ) : MI l G kc yX0_doLine cX0_doLine 7 (some .int) 1 26 [.ref (ad mc), .ref (ad t), .int (nI line), .int bd] shC ad σ (fun r σ1 => (0 ≤ r.toInt ∧ r.toInt ≤ 24) ∧ (σ1.1 mc 4 = nI q ∨ σ1.1 mc 4 = nI (q + 1)) ∧ TC σ1 ∧ frC (fun x y => (x = mc + 1) ∨ (x = mc + 4) ∨ (x = mc ∧ y = 4) ∨ (x = mc ∧ y = 6)) σ σ1) := by
  intro sz
  refine z_body (y := yX0_doLine) (n := 7) (av := [.ref (ad mc), .ref (ad t), .int (nI line), .int bd]) (Qc := fun A => va_Qi (fun r σ1 => (0 ≤ r.toInt ∧ r.toInt ≤ 24) ∧ (σ1.1 mc 4 = nI q ∨ σ1.1 mc 4 = nI (q + 1)) ∧ TC σ1 ∧ frC (fun x y => (x = mc + 1) ∨ (x = mc + 4) ∨ (x = mc ∧ y = 4) ∨ (x = mc ∧ y = 6)) σ σ1) (PoC G kc shC ad A) A) (plainFor_of_name (by decide)) (Nat.le_of_ble_eq_true rfl) (fun pr e s m below meth c A C0 hr hlk hnm hw hRo ls hl => ?_) sz
  have hx := C0.1
  have hb := C0.2.1
  have hown := C0.2.2.2.1
  have hts := C0.2.2.2.2.1
  have hl : lv_has ls 7 [(0, .ref (ad mc)), (1, .ref (ad t)), (2, .int (nI line)), (3, .int bd)] := hl
  have htn := otN t ht
  have hmcn := mcN mc hmc
  refine lv_aload_n hx hb (dkP dF_43 DX0_doLine (i := 0) rfl rfl) rfl (lv_at hl 1 rfl) ?_
  refine z_gr C0 hw t 4 (t + 3) (fk_of (shl_ot_0 t ht) rfl) fl_X0_69 (dk2 dF_180 DX0_doLine (i := 1) rfl rfl rfl) ?_
  refine lv_iload_n hx hb (dkP dF_28 DX0_doLine (i := 2) rfl rfl) rfl (lv_at hl 2 rfl) ?_
  refine z_ialdN (n := 24) C0 hw (t + 3) line (ak_of (shl_ot_3 t ht)) (by omega) (by decide) (dkP dF_46 DX0_doLine (i := 3) rfl rfl) ?_
  obtain ⟨v1, ev1⟩ : ∃ y : Int32, σ.1 (t + 3) line = y := ⟨_, rfl⟩
  refine z_top (y := v1) ev1 ?_
  refine lv_istore (lv' := [(4, .int v1), (0, .ref (ad mc)), (1, .ref (ad t)), (2, .int (nI line)), (3, .int bd)]) hx hb (dk1 dF_54 DX0_doLine (i := 4) rfl rfl rfl) hl (by decide) rfl (fun ls hl => ?_)
  refine lv_aload_n hx hb (dkP dF_43 DX0_doLine (i := 5) rfl rfl) rfl (lv_at hl 2 rfl) ?_
  refine z_gr C0 hw t 3 (t + 2) (fk_of (shl_ot_0 t ht) rfl) fl_X0_70 (dk2 dF_180 DX0_doLine (i := 6) rfl rfl rfl) ?_
  refine lv_iload_n hx hb (dkP dF_28 DX0_doLine (i := 7) rfl rfl) rfl (lv_at hl 3 rfl) ?_
  refine z_ialdN (n := 24) C0 hw (t + 2) line (ak_of (shl_ot_2 t ht)) (by omega) (by decide) (dkP dF_46 DX0_doLine (i := 8) rfl rfl) ?_
  obtain ⟨v2, ev2⟩ : ∃ y : Int32, σ.1 (t + 2) line = y := ⟨_, rfl⟩
  refine z_top (y := v2) ev2 ?_
  by_cases hsw3 : 1 ≤ v2.toInt ∧ v2.toInt ≤ 3
  · obtain ⟨j3, hm3, hj3, rfl⟩ := rngP (x := v2) (l := 1) (h := 3) (by decide) hsw3
    rcases (by omega : j3 = 1 ∨ j3 = 2 ∨ j3 = 3) with rfl | rfl | rfl
    · refine lv_tableIn (x := nI 1) (off := 26) (tgt := 40) hx hb (dX0_doLine_14) (by decide) (by decide) rfl (by decide) ?_
      obtain ⟨hfk, sa, hsa, sj, hsj16, hsj, hsjb⟩ := (hV.2.2 line hln).1 (ev2.trans rfl)
      obtain ⟨n4, hn4, en4⟩ := rngN (x := v1) (h := 7) (by rw [← ev1]; exact hfk)
      subst en4
      refine lv_aload_n hx hb (dkP dF_43 DX0_doLine (i := 10) rfl rfl) rfl (lv_at hl 2 rfl) ?_
      refine z_gr C0 hw t 9 (t + 8) (fk_of (shl_ot_0 t ht) rfl) fl_X0_72 (dk2 dF_180 DX0_doLine (i := 11) rfl rfl rfl) ?_
      refine lv_aload_n hx hb (dkP dF_43 DX0_doLine (i := 12) rfl rfl) rfl (lv_at hl 2 rfl) ?_
      refine z_gr C0 hw t 8 (t + 7) (fk_of (shl_ot_0 t ht) rfl) fl_X0_76 (dk2 dF_180 DX0_doLine (i := 13) rfl rfl rfl) ?_
      refine lv_iload_n hx hb (dkP dF_28 DX0_doLine (i := 14) rfl rfl) rfl (lv_at hl 3 rfl) ?_
      refine z_ialdN (n := 24) C0 hw (t + 7) line (ak_of (shl_ot_7 t ht)) (by omega) (by decide) (dkP dF_46 DX0_doLine (i := 15) rfl rfl) ?_
      refine z_top (y := (nI sa)) hsa ?_
      refine lv_aload_n hx hb (dkP dF_42 DX0_doLine (i := 16) rfl rfl) rfl (lv_at hl 1 rfl) ?_
      refine z_gr C0 hw mc 0 (mc + 1) (fk_of (shl_mc_0 mc hmc) rfl) fl_X0_9 (dk2 dF_180 DX0_doLine (i := 17) rfl rfl rfl) ?_
      refine zk_I hw (zr_V (As := [.int (nI sa), .ref (ad (mc + 1))]) (rest := []) C0 (c_X8_valueAt_o l G kc ad σ (t + 8) sa mc (otso t ht) hmc hsj (by have h9 := hV.1; omega) hT _) cv_X8_valueAt lk_X0_79 (zp_V C0 hRo hw (t + 8) (shl_ot_8 t ht) rfl rfl) rfl hl.1 rfl ⟨by decide, by decide⟩ (Nat.le_of_ble_eq_true rfl) (dk2 dF_182 DX0_doLine (i := 18) rfl rfl rfl) ⟨Nat.le_refl _, Nat.le_refl _⟩) (fun r5 s5 H locs hp hw => ?_)
      have hs5 := hp
      (rw [hs5] at hw)
      refine lv_istore (lv' := [(5, .int r5), (4, .int (nI n4)), (0, .ref (ad mc)), (1, .ref (ad t)), (2, .int (nI line)), (3, .int bd)]) hx hb (dk1 dF_54 DX0_doLine (i := 19) rfl rfl rfl) hl (by decide) rfl (fun ls hl => ?_)
      refine lv_iload_n hx hb (dkP dF_29 DX0_doLine (i := 20) rfl rfl) rfl (lv_at hl 5 rfl) ?_
      refine lv_if_eq (tgt := 79) hx hb (dkS dF_153 DX0_doLine (i := 21) rfl rfl rfl) (by decide) (fun c6 => ?_) (fun c6 => ?_)
      · (try simp (disch := omega) only [ta_lt, ta_le, ta_eq, tnI, tl32 0 (by decide)] at c6)
        refine lv_aload_n hx hb (dkP dF_42 DX0_doLine (i := 29) rfl rfl) rfl (lv_at hl 2 rfl) ?_
        refine z_gr C0 hw mc 0 (mc + 1) (fk_of (shl_mc_0 mc hmc) rfl) fl_X0_9 (dk2 dF_180 DX0_doLine (i := 30) rfl rfl rfl) ?_
        refine lv_iload hx hb (dk1 dF_21 DX0_doLine (i := 31) rfl rfl rfl) (lv_at hl 1 rfl) ?_
        refine lv_iload hx hb (dk1 dF_21 DX0_doLine (i := 32) rfl rfl rfl) (lv_at hl 0 rfl) ?_
        refine z_iastN (n := 8) C0 hw (mc + 1) n4 (ak_of (shl_mc_1 mc hmc)) (by omega) (by decide) (dkP dF_79 DX0_doLine (i := 33) rfl rfl) (fun H locs hw => ?_)
        have hT7 : TC (sI σ (mc + 1) n4 r5) := TC.w hT (tc0 (tck_mc_1 mc hmc))
        have hF7 : frC (fun x y => (x = mc + 1) ∨ (x = mc + 4) ∨ (x = mc ∧ y = 4) ∨ (x = mc ∧ y = 6)) σ (sI σ (mc + 1) n4 r5) := frC.w frC.refl (by show ((mc + 1) = mc + 1) ∨ ((mc + 1) = mc + 4) ∨ ((mc + 1) = mc ∧ n4 = 4) ∨ ((mc + 1) = mc ∧ n4 = 6); exact Or.inl rfl)
        refine lv_iload_n hx hb (dkP dF_28 DX0_doLine (i := 34) rfl rfl) rfl (lv_at hl 4 rfl) ?_
        refine lv_iconst (v := 1) hx hb (dkP dF_4 DX0_doLine (i := 35) rfl rfl) (by decide) ?_
        refine lv_iadd hx hb (dkP dF_96 DX0_doLine (i := 36) rfl rfl) ?_
        refine z_top (y := nI (line + 1)) (by simp only [fa_lit, nI_add, pk_mul]) ?_
        exact z_iret C0 hr hlk hw (⟨(show 0 ≤ _ ∧ _ ≤ 24 from by (try simp (disch := omega) only [tnI, tn32 1 (by decide), tl32 0 (by decide), tl32 1 (by decide)]); omega), (Or.inl ((rd_n (by omega)).trans hq)), hT7, hF7⟩) (dkP dF_172 DX0_doLine (i := 37) rfl rfl)
      · (try simp (disch := omega) only [ta_lt, ta_le, ta_eq, tnI, tl32 0 (by decide)] at c6)
        refine lv_iload hx hb (dk1 dF_21 DX0_doLine (i := 22) rfl rfl rfl) (lv_at hl 0 rfl) ?_
        refine zn_I hw (zr_S (As := [.int r5]) (rest := []) C0 (c_X11_isInRange l G kc r5  _) cs_X11_isInRange lk_X0_85 (zp_P C0 hRo hw a00 s00) rfl hl.1 rfl ⟨by decide, by decide⟩ (Nat.le_of_ble_eq_true rfl) (dk2 dF_184 DX0_doLine (i := 23) rfl rfl rfl) ⟨Nat.le_refl _, Nat.le_refl _⟩) (fun r8 s8 H locs hp hw => ?_)
        rcases hp with ⟨rfl, hc8⟩ | ⟨rfl, hc8⟩
        · skip
          (try simp (disch := omega) only [ta_lt, ta_le, ta_eq, tb_lt, tb_le, tb_eq, tw, tnI, tn32 1 (by decide), tnj 1 (by decide), tl32 0 (by decide), tl64 0 (by decide), tl32 1 (by decide), tl64 1 (by decide)] at hc8)
          refine lv_if_ne (tgt := 79) hx hb (dkS dF_154 DX0_doLine (i := 24) rfl rfl rfl) (by decide) (fun _ => ?_) (fun h => absurd h (by decide))
          refine lv_aload_n hx hb (dkP dF_42 DX0_doLine (i := 29) rfl rfl) rfl (lv_at hl 2 rfl) ?_
          refine z_gr C0 hw mc 0 (mc + 1) (fk_of (shl_mc_0 mc hmc) rfl) fl_X0_9 (dk2 dF_180 DX0_doLine (i := 30) rfl rfl rfl) ?_
          refine lv_iload hx hb (dk1 dF_21 DX0_doLine (i := 31) rfl rfl rfl) (lv_at hl 1 rfl) ?_
          refine lv_iload hx hb (dk1 dF_21 DX0_doLine (i := 32) rfl rfl rfl) (lv_at hl 0 rfl) ?_
          refine z_iastN (n := 8) C0 hw (mc + 1) n4 (ak_of (shl_mc_1 mc hmc)) (by omega) (by decide) (dkP dF_79 DX0_doLine (i := 33) rfl rfl) (fun H locs hw => ?_)
          have hT9 : TC (sI σ (mc + 1) n4 r5) := TC.w hT (tc0 (tck_mc_1 mc hmc))
          have hF9 : frC (fun x y => (x = mc + 1) ∨ (x = mc + 4) ∨ (x = mc ∧ y = 4) ∨ (x = mc ∧ y = 6)) σ (sI σ (mc + 1) n4 r5) := frC.w frC.refl (by show ((mc + 1) = mc + 1) ∨ ((mc + 1) = mc + 4) ∨ ((mc + 1) = mc ∧ n4 = 4) ∨ ((mc + 1) = mc ∧ n4 = 6); exact Or.inl rfl)
          refine lv_iload_n hx hb (dkP dF_28 DX0_doLine (i := 34) rfl rfl) rfl (lv_at hl 4 rfl) ?_
          refine lv_iconst (v := 1) hx hb (dkP dF_4 DX0_doLine (i := 35) rfl rfl) (by decide) ?_
          refine lv_iadd hx hb (dkP dF_96 DX0_doLine (i := 36) rfl rfl) ?_
          refine z_top (y := nI (line + 1)) (by simp only [fa_lit, nI_add, pk_mul]) ?_
          exact z_iret C0 hr hlk hw (⟨(show 0 ≤ _ ∧ _ ≤ 24 from by (try simp (disch := omega) only [tnI, tn32 1 (by decide), tl32 0 (by decide), tl32 1 (by decide)]); omega), (Or.inl ((rd_n (by omega)).trans hq)), hT9, hF9⟩) (dkP dF_172 DX0_doLine (i := 37) rfl rfl)
        · skip
          (try simp (disch := omega) only [ta_lt, ta_le, ta_eq, tb_lt, tb_le, tb_eq, tw, tnI, tn32 1 (by decide), tnj 1 (by decide), tl32 0 (by decide), tl64 0 (by decide), tl32 1 (by decide), tl64 1 (by decide)] at hc8)
          refine lv_if_ne (tgt := 79) hx hb (dkS dF_154 DX0_doLine (i := 24) rfl rfl rfl) (by decide) (fun h => absurd h (by decide)) (fun _ => ?_)
          refine lv_aload_n hx hb (dkP dF_42 DX0_doLine (i := 25) rfl rfl) rfl (lv_at hl 2 rfl) ?_
          refine lv_iconst (v := 2) hx hb (dkP dF_5 DX0_doLine (i := 26) rfl rfl) (by decide) ?_
          refine z_pi C0 hw mc 6 (fk_of (shl_mc_0 mc hmc) rfl) fp_X0_57 (dk2 dF_181 DX0_doLine (i := 27) rfl rfl rfl) (fun H locs hw => ?_)
          have hT10 : TC (sI σ mc 6 2) := TC.w hT (tcw_8_6 (tck_mc_0 mc hmc))
          have hF10 : frC (fun x y => (x = mc + 1) ∨ (x = mc + 4) ∨ (x = mc ∧ y = 4) ∨ (x = mc ∧ y = 6)) σ (sI σ mc 6 2) := frC.w frC.refl (by show (mc = mc + 1) ∨ (mc = mc + 4) ∨ (mc = mc ∧ 6 = 4) ∨ (mc = mc ∧ 6 = 6); exact Or.inr (Or.inr (Or.inr (⟨rfl, rfl⟩))))
          refine lv_goto (tgt := 88) hx hb (dkS dF_167 DX0_doLine (i := 28) rfl rfl rfl) (by decide) ?_
          refine lv_iload_n hx hb (dkP dF_28 DX0_doLine (i := 34) rfl rfl) rfl (lv_at hl 4 rfl) ?_
          refine lv_iconst (v := 1) hx hb (dkP dF_4 DX0_doLine (i := 35) rfl rfl) (by decide) ?_
          refine lv_iadd hx hb (dkP dF_96 DX0_doLine (i := 36) rfl rfl) ?_
          refine z_top (y := nI (line + 1)) (by simp only [fa_lit, nI_add, pk_mul]) ?_
          exact z_iret C0 hr hlk hw (⟨(show 0 ≤ _ ∧ _ ≤ 24 from by (try simp (disch := omega) only [tnI, tn32 1 (by decide), tl32 0 (by decide), tl32 1 (by decide), tl32 2 (by decide)]); omega), (Or.inl ((rd_n (by omega)).trans hq)), hT10, hF10⟩) (dkP dF_172 DX0_doLine (i := 37) rfl rfl)
    · refine lv_tableIn (x := nI 2) (off := 78) (tgt := 92) hx hb (dX0_doLine_14) (by decide) (by decide) rfl (by decide) ?_
      have hI := (hV.2.2 line hln).2.1 (ev2.trans rfl)
      obtain ⟨n11, hn11, en11⟩ := rngN (x := v1) (h := 7) (by rw [← ev1]; exact hI.1)
      subst en11
      refine lv_aload_n hx hb (dkP dF_42 DX0_doLine (i := 38) rfl rfl) rfl (lv_at hl 1 rfl) ?_
      refine z_gr C0 hw mc 0 (mc + 1) (fk_of (shl_mc_0 mc hmc) rfl) fl_X0_9 (dk2 dF_180 DX0_doLine (i := 39) rfl rfl rfl) ?_
      refine lv_iload hx hb (dk1 dF_21 DX0_doLine (i := 40) rfl rfl rfl) (lv_at hl 0 rfl) ?_
      refine z_ialdN (n := 8) C0 hw (mc + 1) n11 (ak_of (shl_mc_1 mc hmc)) (by omega) (by decide) (dkP dF_46 DX0_doLine (i := 41) rfl rfl) ?_
      obtain ⟨v12, ev12⟩ : ∃ y : Int32, σ.1 (mc + 1) n11 = y := ⟨_, rfl⟩
      refine z_top (y := v12) ev12 ?_
      refine lv_aload_n hx hb (dkP dF_43 DX0_doLine (i := 42) rfl rfl) rfl (lv_at hl 2 rfl) ?_
      refine z_gr C0 hw t 5 (t + 4) (fk_of (shl_ot_0 t ht) rfl) fl_X0_89 (dk2 dF_180 DX0_doLine (i := 43) rfl rfl rfl) ?_
      refine lv_iload_n hx hb (dkP dF_28 DX0_doLine (i := 44) rfl rfl) rfl (lv_at hl 3 rfl) ?_
      refine z_ialdN (n := 24) C0 hw (t + 4) line (ak_of (shl_ot_4 t ht)) (by omega) (by decide) (dkP dF_46 DX0_doLine (i := 45) rfl rfl) ?_
      obtain ⟨v13, ev13⟩ : ∃ y : Int32, σ.1 (t + 4) line = y := ⟨_, rfl⟩
      refine z_top (y := v13) ev13 ?_
      refine lv_aload_n hx hb (dkP dF_43 DX0_doLine (i := 46) rfl rfl) rfl (lv_at hl 2 rfl) ?_
      refine z_gr C0 hw t 6 (t + 5) (fk_of (shl_ot_0 t ht) rfl) fl_X0_92 (dk2 dF_180 DX0_doLine (i := 47) rfl rfl rfl) ?_
      refine lv_iload_n hx hb (dkP dF_28 DX0_doLine (i := 48) rfl rfl) rfl (lv_at hl 3 rfl) ?_
      refine z_ialdN (n := 24) C0 hw (t + 5) line (ak_of (shl_ot_5 t ht)) (by omega) (by decide) (dkP dF_46 DX0_doLine (i := 49) rfl rfl) ?_
      obtain ⟨v14, ev14⟩ : ∃ y : Int32, σ.1 (t + 5) line = y := ⟨_, rfl⟩
      refine z_top (y := v14) ev14 ?_
      refine zn_I hw (zr_S (As := [.int v12, .int v13, .int v14]) (rest := []) C0 (c_X11_holds l G kc v12 v13 v14  _) cs_X11_holds lk_X0_95 (zp_P C0 hRo hw a00 s00) rfl hl.1 rfl ⟨by decide, by decide⟩ (Nat.le_of_ble_eq_true rfl) (dk2 dF_184 DX0_doLine (i := 50) rfl rfl rfl) ⟨Nat.le_refl _, Nat.le_refl _⟩) (fun r15 s15 H locs hp hw => ?_)
      rcases hp with rfl | rfl
      · skip
        refine lv_istore (lv' := [(6, .int 0), (4, .int (nI n11)), (0, .ref (ad mc)), (1, .ref (ad t)), (2, .int (nI line)), (3, .int bd)]) hx hb (dk1 dF_54 DX0_doLine (i := 51) rfl rfl rfl) hl (by decide) rfl (fun ls hl => ?_)
        refine lv_aload_n hx hb (dkP dF_42 DX0_doLine (i := 52) rfl rfl) rfl (lv_at hl 2 rfl) ?_
        refine lv_iload hx hb (dk1 dF_21 DX0_doLine (i := 53) rfl rfl rfl) (lv_at hl 0 rfl) ?_
        refine zk_V hw (zr_V (As := [.int 0]) (rest := []) C0 (c_X0_addTurn l G kc ad σ mc 0 hmc hq hq9 hT _) cv_X0_addTurn lk_X0_99 (zp_V C0 hRo hw mc (shl_mc_0 mc hmc) rfl rfl) rfl hl.1 rfl ⟨by decide, by decide⟩ (Nat.le_of_ble_eq_true rfl) (dk2 dF_182 DX0_doLine (i := 54) rfl rfl rfl) ⟨Nat.le_refl _, Nat.le_refl _⟩) (fun s16 H locs hp hw => ?_)
        obtain ⟨f16_0, hT16, hG16⟩ := hp
        have hF16 : frC (fun x y => (x = mc + 1) ∨ (x = mc + 4) ∨ (x = mc ∧ y = 4) ∨ (x = mc ∧ y = 6)) σ s16 := frC.t frC.refl hG16 (fun x y h => by have h : (x = mc + 4) ∨ (x = mc ∧ y = 4) := h; show (x = mc + 1) ∨ (x = mc + 4) ∨ (x = mc ∧ y = 4) ∨ (x = mc ∧ y = 6); rcases h with h | h; (· exact Or.inr (Or.inl h)); (· exact Or.inr (Or.inr (Or.inl h))))
        refine lv_iload hx hb (dk1 dF_21 DX0_doLine (i := 55) rfl rfl rfl) (lv_at hl 0 rfl) ?_
        refine lv_if_eq (tgt := 140) hx hb (dkS dF_153 DX0_doLine (i := 56) rfl rfl rfl) (by decide) (fun _ => ?_) (fun h => absurd h (by decide))
        refine lv_iload_n hx hb (dkP dF_28 DX0_doLine (i := 64) rfl rfl) rfl (lv_at hl 4 rfl) ?_
        refine lv_iconst (v := 1) hx hb (dkP dF_4 DX0_doLine (i := 65) rfl rfl) (by decide) ?_
        refine lv_iadd hx hb (dkP dF_96 DX0_doLine (i := 66) rfl rfl) ?_
        refine z_top (y := nI (line + 1)) (by simp only [fa_lit, nI_add, pk_mul]) ?_
        exact z_iret C0 hr hlk hw (⟨(show 0 ≤ _ ∧ _ ≤ 24 from by (try simp (disch := omega) only [tnI, tn32 1 (by decide), tl32 0 (by decide), tl32 1 (by decide), tl32 2 (by decide)]); omega), (Or.inr f16_0), hT16, hF16⟩) (dkP dF_172 DX0_doLine (i := 67) rfl rfl)
      · skip
        refine lv_istore (lv' := [(6, .int 1), (4, .int (nI n11)), (0, .ref (ad mc)), (1, .ref (ad t)), (2, .int (nI line)), (3, .int bd)]) hx hb (dk1 dF_54 DX0_doLine (i := 51) rfl rfl rfl) hl (by decide) rfl (fun ls hl => ?_)
        refine lv_aload_n hx hb (dkP dF_42 DX0_doLine (i := 52) rfl rfl) rfl (lv_at hl 2 rfl) ?_
        refine lv_iload hx hb (dk1 dF_21 DX0_doLine (i := 53) rfl rfl rfl) (lv_at hl 0 rfl) ?_
        refine zk_V hw (zr_V (As := [.int 1]) (rest := []) C0 (c_X0_addTurn l G kc ad σ mc 1 hmc hq hq9 hT _) cv_X0_addTurn lk_X0_99 (zp_V C0 hRo hw mc (shl_mc_0 mc hmc) rfl rfl) rfl hl.1 rfl ⟨by decide, by decide⟩ (Nat.le_of_ble_eq_true rfl) (dk2 dF_182 DX0_doLine (i := 54) rfl rfl rfl) ⟨Nat.le_refl _, Nat.le_refl _⟩) (fun s17 H locs hp hw => ?_)
        obtain ⟨f17_0, hT17, hG17⟩ := hp
        have hF17 : frC (fun x y => (x = mc + 1) ∨ (x = mc + 4) ∨ (x = mc ∧ y = 4) ∨ (x = mc ∧ y = 6)) σ s17 := frC.t frC.refl hG17 (fun x y h => by have h : (x = mc + 4) ∨ (x = mc ∧ y = 4) := h; show (x = mc + 1) ∨ (x = mc + 4) ∨ (x = mc ∧ y = 4) ∨ (x = mc ∧ y = 6); rcases h with h | h; (· exact Or.inr (Or.inl h)); (· exact Or.inr (Or.inr (Or.inl h))))
        refine lv_iload hx hb (dk1 dF_21 DX0_doLine (i := 55) rfl rfl rfl) (lv_at hl 0 rfl) ?_
        refine lv_if_eq (tgt := 140) hx hb (dkS dF_153 DX0_doLine (i := 56) rfl rfl rfl) (by decide) (fun h => absurd h (by decide)) (fun _ => ?_)
        refine lv_aload_n hx hb (dkP dF_42 DX0_doLine (i := 57) rfl rfl) rfl (lv_at hl 2 rfl) ?_
        refine lv_aload_n hx hb (dkP dF_43 DX0_doLine (i := 58) rfl rfl) rfl (lv_at hl 3 rfl) ?_
        refine z_gr C0 hw t 7 (t + 6) (fk_of (shl_ot_0 t ht) rfl) fl_X0_103 (dk2 dF_180 DX0_doLine (i := 59) rfl rfl rfl) ?_
        refine lv_iload_n hx hb (dkP dF_28 DX0_doLine (i := 60) rfl rfl) rfl (lv_at hl 4 rfl) ?_
        refine z_ialdN (n := 24) C0 hw (t + 6) line (ak_of (shl_ot_6 t ht)) (by omega) (by decide) (dkP dF_46 DX0_doLine (i := 61) rfl rfl) ?_
        obtain ⟨v18, ev18⟩ : ∃ y : Int32, s17.1 (t + 6) line = y := ⟨_, rfl⟩
        refine z_top (y := v18) ev18 ?_
        refine zk_I hw (zr_V (As := [.int v18]) (rest := []) C0 (c_X0_jump l G kc ad s17 mc v18 hmc (by rw [← ev18, ((hG17.1 (t + 6) line (by show ¬ (((t + 6) = mc + 4) ∨ ((t + 6) = mc ∧ line = 4)); omega)).trans rfl)]; exact hI.2) hT17 _) cv_X0_jump lk_X0_106 (zp_V C0 hRo hw mc (shl_mc_0 mc hmc) rfl rfl) rfl hl.1 rfl ⟨by decide, by decide⟩ (Nat.le_of_ble_eq_true rfl) (dk2 dF_182 DX0_doLine (i := 62) rfl rfl rfl) ⟨Nat.le_refl _, Nat.le_refl _⟩) (fun r19 s19 H locs hp hw => ?_)
        obtain ⟨f19_0, hT19, hG19⟩ := hp
        have hF19 : frC (fun x y => (x = mc + 1) ∨ (x = mc + 4) ∨ (x = mc ∧ y = 4) ∨ (x = mc ∧ y = 6)) σ s19 := frC.t hF17 hG19 (fun x y h => by have h : (x = mc ∧ y = 6) := h; show (x = mc + 1) ∨ (x = mc + 4) ∨ (x = mc ∧ y = 4) ∨ (x = mc ∧ y = 6); exact Or.inr (Or.inr (Or.inr (h))))
        obtain ⟨n19, hn19, rfl⟩ := rngN (h := 23) f19_0
        refine lv_goto (tgt := 143) hx hb (dkS dF_167 DX0_doLine (i := 63) rfl rfl rfl) (by decide) ?_
        exact z_iret C0 hr hlk hw (⟨(show 0 ≤ _ ∧ _ ≤ 24 from by (try simp (disch := omega) only [tnI, tn32 1 (by decide), tl32 0 (by decide), tl32 1 (by decide), tl32 2 (by decide)]); omega), (Or.inr ((hG19.1 mc 4 (by show ¬ ((mc = mc ∧ 4 = 6)); omega)).trans f17_0)), hT19, hF19⟩) (dkP dF_172 DX0_doLine (i := 67) rfl rfl)
    · refine lv_tableIn (x := nI 3) (off := 130) (tgt := 144) hx hb (dX0_doLine_14) (by decide) (by decide) rfl (by decide) ?_
      have hG_ := (hV.2.2 line hln).2.2 (ev2.trans rfl)
      refine lv_aload_n hx hb (dkP dF_42 DX0_doLine (i := 68) rfl rfl) rfl (lv_at hl 1 rfl) ?_
      refine lv_aload_n hx hb (dkP dF_43 DX0_doLine (i := 69) rfl rfl) rfl (lv_at hl 2 rfl) ?_
      refine z_gr C0 hw t 7 (t + 6) (fk_of (shl_ot_0 t ht) rfl) fl_X0_103 (dk2 dF_180 DX0_doLine (i := 70) rfl rfl rfl) ?_
      refine lv_iload_n hx hb (dkP dF_28 DX0_doLine (i := 71) rfl rfl) rfl (lv_at hl 3 rfl) ?_
      refine z_ialdN (n := 24) C0 hw (t + 6) line (ak_of (shl_ot_6 t ht)) (by omega) (by decide) (dkP dF_46 DX0_doLine (i := 72) rfl rfl) ?_
      obtain ⟨v20, ev20⟩ : ∃ y : Int32, σ.1 (t + 6) line = y := ⟨_, rfl⟩
      refine z_top (y := v20) ev20 ?_
      refine zk_I hw (zr_V (As := [.int v20]) (rest := []) C0 (c_X0_jump l G kc ad σ mc v20 hmc (by rw [← ev20]; exact hG_) hT _) cv_X0_jump lk_X0_106 (zp_V C0 hRo hw mc (shl_mc_0 mc hmc) rfl rfl) rfl hl.1 rfl ⟨by decide, by decide⟩ (Nat.le_of_ble_eq_true rfl) (dk2 dF_182 DX0_doLine (i := 73) rfl rfl rfl) ⟨Nat.le_refl _, Nat.le_refl _⟩) (fun r21 s21 H locs hp hw => ?_)
      obtain ⟨f21_0, hT21, hG21⟩ := hp
      have hF21 : frC (fun x y => (x = mc + 1) ∨ (x = mc + 4) ∨ (x = mc ∧ y = 4) ∨ (x = mc ∧ y = 6)) σ s21 := frC.t frC.refl hG21 (fun x y h => by have h : (x = mc ∧ y = 6) := h; show (x = mc + 1) ∨ (x = mc + 4) ∨ (x = mc ∧ y = 4) ∨ (x = mc ∧ y = 6); exact Or.inr (Or.inr (Or.inr (h))))
      obtain ⟨n21, hn21, rfl⟩ := rngN (h := 23) f21_0
      exact z_iret C0 hr hlk hw (⟨(show 0 ≤ _ ∧ _ ≤ 24 from by (try simp (disch := omega) only [tnI, tn32 1 (by decide), tl32 0 (by decide), tl32 1 (by decide), tl32 2 (by decide)]); omega), (Or.inl ((hG21.1 mc 4 (by show ¬ ((mc = mc ∧ 4 = 6)); omega)).trans hq)), hT21, hF21⟩) (dkP dF_172 DX0_doLine (i := 74) rfl rfl)
  · refine lv_tableOut (tgt := 155) hx hb (dX0_doLine_14) (by omega) (by decide) ?_
    refine lv_aload_n hx hb (dkP dF_42 DX0_doLine (i := 75) rfl rfl) rfl (lv_at hl 1 rfl) ?_
    refine lv_iconst (v := 0) hx hb (dkP dF_3 DX0_doLine (i := 76) rfl rfl) (by decide) ?_
    refine z_pi C0 hw mc 6 (fk_of (shl_mc_0 mc hmc) rfl) fp_X0_57 (dk2 dF_181 DX0_doLine (i := 77) rfl rfl rfl) (fun H locs hw => ?_)
    have hT22 : TC (sI σ mc 6 0) := TC.w hT (tcw_8_6 (tck_mc_0 mc hmc))
    have hF22 : frC (fun x y => (x = mc + 1) ∨ (x = mc + 4) ∨ (x = mc ∧ y = 4) ∨ (x = mc ∧ y = 6)) σ (sI σ mc 6 0) := frC.w frC.refl (by show (mc = mc + 1) ∨ (mc = mc + 4) ∨ (mc = mc ∧ 6 = 4) ∨ (mc = mc ∧ 6 = 6); exact Or.inr (Or.inr (Or.inr (⟨rfl, rfl⟩))))
    refine lv_iload_n hx hb (dkP dF_28 DX0_doLine (i := 78) rfl rfl) rfl (lv_at hl 3 rfl) ?_
    exact z_iret C0 hr hlk hw (⟨(show 0 ≤ _ ∧ _ ≤ 24 from by (try simp (disch := omega) only [tnI, tn32 1 (by decide), tl32 0 (by decide), tl32 1 (by decide), tl32 2 (by decide)]); omega), (Or.inl ((rd_n (by omega)).trans hq)), hT22, hF22⟩) (dkP dF_172 DX0_doLine (i := 79) rfl rfl)
