set_option maxRecDepth 20000 in
theorem shl_wk_0 : ∀ d, d ∈ wkL → shC[d + 0]? = some (0, 10, [(1, d + 1), (1, d + 2), (1, d + 3), (1, d + 4), (0, 0), (0, 0), (0, 0), (1, d + 5)]) := by decide +kernel
set_option maxRecDepth 20000 in
theorem shl_wk_2 : ∀ d, d ∈ wkL → shC[d + 2]? = some (1, 64, []) := by decide +kernel
theorem tck_wk_2 : ∀ d, d ∈ wkL → tcL.getD (d + 2) 0 = 15 := by decide +kernel
set_option maxRecDepth 20000 in
theorem shl_wk_3 : ∀ d, d ∈ wkL → shC[d + 3]? = some (1, 8, []) := by decide +kernel
theorem tck_wk_3 : ∀ d, d ∈ wkL → tcL.getD (d + 3) 0 = 14 := by decide +kernel
theorem tck_wk_0 : ∀ d, d ∈ wkL → tcL.getD (d + 0) 0 = 13 := by decide +kernel
set_option maxRecDepth 20000 in
theorem shl_wk_4 : ∀ d, d ∈ wkL → shC[d + 4]? = some (1, 420, []) := by decide +kernel
theorem tck_wk_4 : ∀ d, d ∈ wkL → tcL.getD (d + 4) 0 = 0 := by decide +kernel
set_option maxRecDepth 20000 in
theorem shl_wk_1 : ∀ d, d ∈ wkL → shC[d + 1]? = some (6, 8, [(1, d + 7), (1, d + 29), (1, d + 51), (1, d + 73), (1, d + 95), (1, d + 117), (1, d + 139), (1, d + 161)]) := by decide +kernel
set_option maxRecDepth 100000 in
set_option maxHeartbeats 8000000 in
theorem c_X10_copyFrom (l : Launch) (G : va_G) (kc : KC) (ad : Nat → Nat) (σ : Sg) (wk : Nat) (xk : Nat) {o n p m : Nat → Nat} (hwk : wk ∈ wkL) (hxk : xk ∈ wkL) (hne : wk ≠ xk) (hPo : ∀ i, i < 8 → σ.2.2 (wk + 7 + 22 * i) 2 = some (o i) ∧ o i ∈ otL ∧ σ.2.2 (wk + 7 + 22 * i) 3 = some (n i) ∧ n i ∈ ntL) (hXo : ∀ i, i < 8 → σ.2.2 (xk + 7 + 22 * i) 2 = some (p i) ∧ p i ∈ otL ∧ σ.2.2 (xk + 7 + 22 * i) 3 = some (m i) ∧ m i ∈ ntL) (hdis : ∀ i, i < 8 → o i ≠ p i ∧ n i ≠ m i) (hV : ∀ i, i < 8 → VP σ (xk + 7 + 22 * i) (p i) (m i)) (hXr : ∀ i, i < 8 → ∀ x, ARE (xk + 7 + 22 * i) (p i) (m i) x → ¬ DRG wk x) (hDr : ∀ i, i < 8 → ∀ x, ARE (wk + 7 + 22 * i) (o i) (n i) x → DRG wk x) (hDD : ∀ i, i < 8 → ∀ j, j < 8 → ¬ i = j → ∀ x, ARE (wk + 7 + 22 * i) (o i) (n i) x → ¬ ARE (wk + 7 + 22 * j) (o j) (n j) x) (hDw : ∀ i, i < 8 → ∀ x, ARE (wk + 7 + 22 * i) (o i) (n i) x → ¬ (wk ≤ x ∧ x ≤ wk + 6)) (hT : TC σ) : MV l G kc yX10_copyFrom cX10_copyFrom 3 4 89 [.ref (ad wk), .ref (ad xk)] shC ad σ (fun σ1 => (∀ i, i < 8 → VP σ1 (wk + 7 + 22 * i) (o i) (n i)) ∧ (∀ k, k < 64 → σ1.1 (wk + 2) k = σ.1 (xk + 2) k) ∧ (∀ k, k < 8 → σ1.1 (wk + 3) k = σ.1 (xk + 3) k) ∧ (∀ k, k < 100 → σ1.1 (wk + 6) k = σ.1 (xk + 6) k) ∧ (σ1.1 (wk + 5) 1 = σ.1 (xk + 5) 1) ∧ (σ1.1 (wk + 5) 2 = σ.1 (xk + 5) 2) ∧ TC σ1 ∧ frC (fun x y => (DRG wk x)) σ σ1) := by
  intro sz
  refine z_body (y := yX10_copyFrom) (n := 3) (av := [.ref (ad wk), .ref (ad xk)]) (Qc := fun A => va_Qv (fun σ1 => (∀ i, i < 8 → VP σ1 (wk + 7 + 22 * i) (o i) (n i)) ∧ (∀ k, k < 64 → σ1.1 (wk + 2) k = σ.1 (xk + 2) k) ∧ (∀ k, k < 8 → σ1.1 (wk + 3) k = σ.1 (xk + 3) k) ∧ (∀ k, k < 100 → σ1.1 (wk + 6) k = σ.1 (xk + 6) k) ∧ (σ1.1 (wk + 5) 1 = σ.1 (xk + 5) 1) ∧ (σ1.1 (wk + 5) 2 = σ.1 (xk + 5) 2) ∧ TC σ1 ∧ frC (fun x y => (DRG wk x)) σ σ1) (PoC G kc shC ad A) A) (plainFor_of_name (by decide)) (Nat.le_of_ble_eq_true rfl) (fun pr e s m below meth c A C0 hr hlk hnm hw hRo ls hl => ?_) sz
  have hx := C0.1
  have hb := C0.2.1
  have hown := C0.2.2.2.1
  have hts := C0.2.2.2.2.1
  have hl : lv_has ls 3 [(0, .ref (ad wk)), (1, .ref (ad xk))] := hl
  refine lv_iconst (v := 0) hx hb (dkP dF_3 DX10_copyFrom (i := 0) rfl rfl) (by decide) ?_
  refine lv_istore_n (lv' := [(2, .int 0), (0, .ref (ad wk)), (1, .ref (ad xk))]) hx hb (dkP dF_61 DX10_copyFrom (i := 1) rfl rfl) rfl hl (by decide) rfl (fun ls hl => ?_)
  have lp2 : ∀ (nq : Nat) (q2_2 : Nat) (τ1 : Sg) (H : Heap) (locs : List Loc) (ls : Array Slot), 8 - q2_2 < nq → (q2_2 ≤ 8) → (∀ i, i < q2_2 → VP τ1 (wk + 7 + 22 * i) (o i) (n i)) → (TC τ1) → (frC (fun x y => (DRG wk x)) σ τ1) → St G kc A s.heap shC ad τ1 H locs → lv_has ls 3 [(2, .int (nI q2_2)), (0, .ref (ad wk)), (1, .ref (ad xk))] → W pr l e { frames := 4, cells := 0, slots := 0, locals := 89 } s m ([.ref (ad wk), .ref (ad xk)] : List Value).toArray below meth c H locs 0 0 (MQ below (va_Qv (fun σ1 => (∀ i, i < 8 → VP σ1 (wk + 7 + 22 * i) (o i) (n i)) ∧ (∀ k, k < 64 → σ1.1 (wk + 2) k = σ.1 (xk + 2) k) ∧ (∀ k, k < 8 → σ1.1 (wk + 3) k = σ.1 (xk + 3) k) ∧ (∀ k, k < 100 → σ1.1 (wk + 6) k = σ.1 (xk + 6) k) ∧ (σ1.1 (wk + 5) 1 = σ.1 (xk + 5) 1) ∧ (σ1.1 (wk + 5) 2 = σ.1 (xk + 5) 2) ∧ TC σ1 ∧ frC (fun x y => (DRG wk x)) σ σ1) (PoC G kc shC ad A) A) ([.ref (ad wk), .ref (ad xk)] : List Value).toArray s 0 0 A) (F0 m 2 ls []) := by
    intro nq
    induction nq with
    | zero => intro q2_2 τ1 H locs ls hmu; exact absurd hmu (Nat.not_lt_zero _)
    | succ nq ih2 =>
      intro q2_2 τ1 H locs ls hmu hq2_2 hVd hT_τ1 hF_τ1 hw hl
      refine lv_iload_n hx hb (dkP dF_28 DX10_copyFrom (i := 2) rfl rfl) rfl (lv_at hl 0 rfl) ?_
      refine lv_bipush (v := 8) hx hb (dks dF_16 DX10_copyFrom (i := 3) rfl rfl rfl) (by decide) ?_
      refine lv_icmp_ge (tgt := 29) hx hb (dkS dF_162 DX10_copyFrom (i := 4) rfl rfl rfl) (by decide) (fun c3 => ?_) (fun c3 => ?_)
      · simp (disch := omega) only [ta_lt, ta_le, ta_eq, tnI, tl32 8 (by decide)] at c3
        refine lv_aload_n hx hb (dkP dF_43 DX10_copyFrom (i := 16) rfl rfl) rfl (lv_at hl 2 rfl) ?_
        refine z_gr C0 hw xk 1 (xk + 2) (fk_of (shl_wk_0 xk hxk) rfl) fl_X10_17 (dk2 dF_180 DX10_copyFrom (i := 17) rfl rfl rfl) ?_
        refine lv_iconst (v := 0) hx hb (dkP dF_3 DX10_copyFrom (i := 18) rfl rfl) (by decide) ?_
        refine lv_aload_n hx hb (dkP dF_42 DX10_copyFrom (i := 19) rfl rfl) rfl (lv_at hl 1 rfl) ?_
        refine z_gr C0 hw wk 1 (wk + 2) (fk_of (shl_wk_0 wk hwk) rfl) fl_X10_17 (dk2 dF_180 DX10_copyFrom (i := 20) rfl rfl rfl) ?_
        refine lv_iconst (v := 0) hx hb (dkP dF_3 DX10_copyFrom (i := 21) rfl rfl) (by decide) ?_
        refine lv_aload_n hx hb (dkP dF_42 DX10_copyFrom (i := 22) rfl rfl) rfl (lv_at hl 1 rfl) ?_
        refine z_gr C0 hw wk 1 (wk + 2) (fk_of (shl_wk_0 wk hwk) rfl) fl_X10_17 (dk2 dF_180 DX10_copyFrom (i := 23) rfl rfl rfl) ?_
        refine z_alen (t := 0) (n := 64) C0 hw (wk + 2) (ak_of (shl_wk_2 wk hwk)) (by decide) (dkP dF_190 DX10_copyFrom (i := 24) rfl rfl) ?_
        refine z_top (y := 64) rfl ?_
        refine z_cpi (n0 := 64) (n1 := 64) C0 hw (xk + 2) (wk + 2) 0 0 64 (ak_of (shl_wk_2 xk hxk)) (ak_of (shl_wk_2 wk hwk)) ac_X10_45 hl.1 (by omega) (by omega) (by decide) (by decide) (by decide) (by decide) (Nat.le_of_ble_eq_true rfl) (dk2 dF_184 DX10_copyFrom (i := 25) rfl rfl rfl) (fun H locs hw => ?_)
        have hT4 : TC (sCp τ1 (xk + 2) (wk + 2) 0 0 64) := TC.cp hT_τ1 (fun k k2 x_ h => tcw_15 (tck_wk_2 wk hwk) (by rw [(tck_wk_2 xk hxk)] at h; exact h))
        have hF4 : frC (fun x y => (DRG wk x)) σ (sCp τ1 (xk + 2) (wk + 2) 0 0 64) := frC.cp hF_τ1 (fun k => (by show (DRG wk (wk + 2)); unfold DRG; omega))
        refine lv_aload_n hx hb (dkP dF_43 DX10_copyFrom (i := 26) rfl rfl) rfl (lv_at hl 2 rfl) ?_
        refine z_gr C0 hw xk 2 (xk + 3) (fk_of (shl_wk_0 xk hxk) rfl) fl_X10_21 (dk2 dF_180 DX10_copyFrom (i := 27) rfl rfl rfl) ?_
        refine lv_iconst (v := 0) hx hb (dkP dF_3 DX10_copyFrom (i := 28) rfl rfl) (by decide) ?_
        refine lv_aload_n hx hb (dkP dF_42 DX10_copyFrom (i := 29) rfl rfl) rfl (lv_at hl 1 rfl) ?_
        refine z_gr C0 hw wk 2 (wk + 3) (fk_of (shl_wk_0 wk hwk) rfl) fl_X10_21 (dk2 dF_180 DX10_copyFrom (i := 30) rfl rfl rfl) ?_
        refine lv_iconst (v := 0) hx hb (dkP dF_3 DX10_copyFrom (i := 31) rfl rfl) (by decide) ?_
        refine lv_bipush (v := 8) hx hb (dks dF_16 DX10_copyFrom (i := 32) rfl rfl rfl) (by decide) ?_
        refine z_cpi (n0 := 8) (n1 := 8) C0 hw (xk + 3) (wk + 3) 0 0 8 (ak_of (shl_wk_3 xk hxk)) (ak_of (shl_wk_3 wk hwk)) ac_X10_45 hl.1 (by omega) (by omega) (by decide) (by decide) (by decide) (by decide) (Nat.le_of_ble_eq_true rfl) (dk2 dF_184 DX10_copyFrom (i := 33) rfl rfl rfl) (fun H locs hw => ?_)
        have hT5 : TC (sCp (sCp τ1 (xk + 2) (wk + 2) 0 0 64) (xk + 3) (wk + 3) 0 0 8) := TC.cp hT4 (fun k k2 x_ h => tcw_14 (tck_wk_3 wk hwk) (by rw [(tck_wk_3 xk hxk)] at h; exact h))
        have hF5 : frC (fun x y => (DRG wk x)) σ (sCp (sCp τ1 (xk + 2) (wk + 2) 0 0 64) (xk + 3) (wk + 3) 0 0 8) := frC.cp hF4 (fun k => (by show (DRG wk (wk + 3)); unfold DRG; omega))
        refine lv_aload_n hx hb (dkP dF_42 DX10_copyFrom (i := 34) rfl rfl) rfl (lv_at hl 1 rfl) ?_
        refine lv_aload_n hx hb (dkP dF_43 DX10_copyFrom (i := 35) rfl rfl) rfl (lv_at hl 2 rfl) ?_
        refine z_gi C0 hw xk 4 (fk_of (shl_wk_0 xk hxk) rfl) fl_X10_51 (dk2 dF_180 DX10_copyFrom (i := 36) rfl rfl rfl) ?_
        obtain ⟨n6, hn6, en6⟩ := rngN (x := (sCp (sCp τ1 (xk + 2) (wk + 2) 0 0 64) (xk + 3) (wk + 3) 0 0 8).1 xk 4) (h := 60) (tcr_13_4 hT5 (tck_wk_0 xk hxk))
        refine z_top (y := nI n6) en6 ?_
        refine z_pi C0 hw wk 4 (fk_of (shl_wk_0 wk hwk) rfl) fp_X10_51 (dk2 dF_181 DX10_copyFrom (i := 37) rfl rfl rfl) (fun H locs hw => ?_)
        have hT7 : TC (sI (sCp (sCp τ1 (xk + 2) (wk + 2) 0 0 64) (xk + 3) (wk + 3) 0 0 8) wk 4 (nI n6)) := TC.w hT5 (tcw_13_4 (tck_wk_0 wk hwk) (by (try simp only [lg_cmp_lt, lg_cmp_le, lg_cmp_gt, lg_cmp_ge, lg_cmp_eq] at c3); (try simp (disch := omega) only [ta_lt, ta_le, ta_eq, tb_lt, tb_le, tb_eq, tw, tnI, tsub1, tsv, tsb32, tn32 1 (by decide), tnj 1 (by decide), tl32 0 (by decide), tl64 0 (by decide), tl32 8 (by decide), tl64 8 (by decide)] at c3); (try simp (disch := omega) only [ta_lt, ta_le, ta_eq, tb_lt, tb_le, tb_eq, tw, tnI, tsub1, tsv, tsb32, tn32 1 (by decide), tnj 1 (by decide), tl32 0 (by decide), tl64 0 (by decide), tl32 8 (by decide), tl64 8 (by decide)]); omega))
        have hF7 : frC (fun x y => (DRG wk x)) σ (sI (sCp (sCp τ1 (xk + 2) (wk + 2) 0 0 64) (xk + 3) (wk + 3) 0 0 8) wk 4 (nI n6)) := frC.w hF5 (by show (DRG wk wk); unfold DRG; omega)
        refine lv_aload_n hx hb (dkP dF_43 DX10_copyFrom (i := 38) rfl rfl) rfl (lv_at hl 2 rfl) ?_
        refine z_gr C0 hw xk 3 (xk + 4) (fk_of (shl_wk_0 xk hxk) rfl) fl_X10_24 (dk2 dF_180 DX10_copyFrom (i := 39) rfl rfl rfl) ?_
        refine lv_iconst (v := 0) hx hb (dkP dF_3 DX10_copyFrom (i := 40) rfl rfl) (by decide) ?_
        refine lv_aload_n hx hb (dkP dF_42 DX10_copyFrom (i := 41) rfl rfl) rfl (lv_at hl 1 rfl) ?_
        refine z_gr C0 hw wk 3 (wk + 4) (fk_of (shl_wk_0 wk hwk) rfl) fl_X10_24 (dk2 dF_180 DX10_copyFrom (i := 42) rfl rfl rfl) ?_
        refine lv_iconst (v := 0) hx hb (dkP dF_3 DX10_copyFrom (i := 43) rfl rfl) (by decide) ?_
        refine lv_aload_n hx hb (dkP dF_42 DX10_copyFrom (i := 44) rfl rfl) rfl (lv_at hl 1 rfl) ?_
        refine z_gi C0 hw wk 4 (fk_of (shl_wk_0 wk hwk) rfl) fl_X10_51 (dk2 dF_180 DX10_copyFrom (i := 45) rfl rfl rfl) ?_
        refine z_top (y := (nI n6)) rd_s ?_
        refine lv_bipush (v := 7) hx hb (dks dF_16 DX10_copyFrom (i := 46) rfl rfl rfl) (by decide) ?_
        refine lv_imul hx hb (dkP dF_104 DX10_copyFrom (i := 47) rfl rfl) ?_
        refine z_top (y := nI (n6 * 7)) (by simp only [fa_lit, nI_add, pk_mul]) ?_
        refine z_cpi (n0 := 420) (n1 := 420) C0 hw (xk + 4) (wk + 4) 0 0 (n6 * 7) (ak_of (shl_wk_4 xk hxk)) (ak_of (shl_wk_4 wk hwk)) ac_X10_45 hl.1 (by omega) (by omega) (by decide) (by decide) (by decide) (by decide) (Nat.le_of_ble_eq_true rfl) (dk2 dF_184 DX10_copyFrom (i := 48) rfl rfl rfl) (fun H locs hw => ?_)
        have hT8 : TC (sCp (sI (sCp (sCp τ1 (xk + 2) (wk + 2) 0 0 64) (xk + 3) (wk + 3) 0 0 8) wk 4 (nI n6)) (xk + 4) (wk + 4) 0 0 (n6 * 7)) := TC.cp hT7 (fun k k2 x_ h => tc0 (tck_wk_4 wk hwk))
        have hF8 : frC (fun x y => (DRG wk x)) σ (sCp (sI (sCp (sCp τ1 (xk + 2) (wk + 2) 0 0 64) (xk + 3) (wk + 3) 0 0 8) wk 4 (nI n6)) (xk + 4) (wk + 4) 0 0 (n6 * 7)) := frC.cp hF7 (fun k => (by show (DRG wk (wk + 4)); unfold DRG; omega))
        refine lv_aload_n hx hb (dkP dF_42 DX10_copyFrom (i := 49) rfl rfl) rfl (lv_at hl 1 rfl) ?_
        refine lv_aload_n hx hb (dkP dF_43 DX10_copyFrom (i := 50) rfl rfl) rfl (lv_at hl 2 rfl) ?_
        refine z_gi C0 hw xk 5 (fk_of (shl_wk_0 xk hxk) rfl) fl_X10_55 (dk2 dF_180 DX10_copyFrom (i := 51) rfl rfl rfl) ?_
        obtain ⟨v9, ev9⟩ : ∃ y : Int32, (sCp (sI (sCp (sCp τ1 (xk + 2) (wk + 2) 0 0 64) (xk + 3) (wk + 3) 0 0 8) wk 4 (nI n6)) (xk + 4) (wk + 4) 0 0 (n6 * 7)).1 xk 5 = y := ⟨_, rfl⟩
        refine z_top (y := v9) ev9 ?_
        refine z_pi C0 hw wk 5 (fk_of (shl_wk_0 wk hwk) rfl) fp_X10_55 (dk2 dF_181 DX10_copyFrom (i := 52) rfl rfl rfl) (fun H locs hw => ?_)
        have hT10 : TC (sI (sCp (sI (sCp (sCp τ1 (xk + 2) (wk + 2) 0 0 64) (xk + 3) (wk + 3) 0 0 8) wk 4 (nI n6)) (xk + 4) (wk + 4) 0 0 (n6 * 7)) wk 5 v9) := TC.w hT8 (tcw_13_5 (tck_wk_0 wk hwk))
        have hF10 : frC (fun x y => (DRG wk x)) σ (sI (sCp (sI (sCp (sCp τ1 (xk + 2) (wk + 2) 0 0 64) (xk + 3) (wk + 3) 0 0 8) wk 4 (nI n6)) (xk + 4) (wk + 4) 0 0 (n6 * 7)) wk 5 v9) := frC.w hF8 (by show (DRG wk wk); unfold DRG; omega)
        refine lv_aload_n hx hb (dkP dF_42 DX10_copyFrom (i := 53) rfl rfl) rfl (lv_at hl 1 rfl) ?_
        refine lv_aload_n hx hb (dkP dF_43 DX10_copyFrom (i := 54) rfl rfl) rfl (lv_at hl 2 rfl) ?_
        refine z_gi C0 hw xk 6 (fk_of (shl_wk_0 xk hxk) rfl) fl_X10_58 (dk2 dF_180 DX10_copyFrom (i := 55) rfl rfl rfl) ?_
        obtain ⟨v11, ev11⟩ : ∃ y : Int32, (sI (sCp (sI (sCp (sCp τ1 (xk + 2) (wk + 2) 0 0 64) (xk + 3) (wk + 3) 0 0 8) wk 4 (nI n6)) (xk + 4) (wk + 4) 0 0 (n6 * 7)) wk 5 v9).1 xk 6 = y := ⟨_, rfl⟩
        refine z_top (y := v11) ev11 ?_
        refine z_pi C0 hw wk 6 (fk_of (shl_wk_0 wk hwk) rfl) fp_X10_58 (dk2 dF_181 DX10_copyFrom (i := 56) rfl rfl rfl) (fun H locs hw => ?_)
        have hT12 : TC (sI (sI (sCp (sI (sCp (sCp τ1 (xk + 2) (wk + 2) 0 0 64) (xk + 3) (wk + 3) 0 0 8) wk 4 (nI n6)) (xk + 4) (wk + 4) 0 0 (n6 * 7)) wk 5 v9) wk 6 v11) := TC.w hT10 (tcw_13_6 (tck_wk_0 wk hwk))
        have hF12 : frC (fun x y => (DRG wk x)) σ (sI (sI (sCp (sI (sCp (sCp τ1 (xk + 2) (wk + 2) 0 0 64) (xk + 3) (wk + 3) 0 0 8) wk 4 (nI n6)) (xk + 4) (wk + 4) 0 0 (n6 * 7)) wk 5 v9) wk 6 v11) := frC.w hF10 (by show (DRG wk wk); unfold DRG; omega)
        refine lv_aload_n hx hb (dkP dF_42 DX10_copyFrom (i := 57) rfl rfl) rfl (lv_at hl 1 rfl) ?_
        refine z_gr C0 hw wk 7 (wk + 5) (fk_of (shl_wk_0 wk hwk) rfl) fl_X10_30 (dk2 dF_180 DX10_copyFrom (i := 58) rfl rfl rfl) ?_
        refine lv_aload_n hx hb (dkP dF_43 DX10_copyFrom (i := 59) rfl rfl) rfl (lv_at hl 2 rfl) ?_
        refine z_gr C0 hw xk 7 (xk + 5) (fk_of (shl_wk_0 xk hxk) rfl) fl_X10_30 (dk2 dF_180 DX10_copyFrom (i := 60) rfl rfl rfl) ?_
        refine zk_V hw (zr_V (As := [.ref (ad (xk + 5))]) (rest := []) C0 (c_X6_copyFrom l G kc ad (sI (sI (sCp (sI (sCp (sCp τ1 (xk + 2) (wk + 2) 0 0 64) (xk + 3) (wk + 3) 0 0 8) wk 4 (nI n6)) (xk + 4) (wk + 4) 0 0 (n6 * 7)) wk 5 v9) wk 6 v11) wk xk hwk hxk hne hT12 _) cv_X6_copyFrom lk_X10_61 (zp_V C0 hRo hw (wk + 5) (shl_wk_5 wk hwk) rfl rfl) rfl hl.1 rfl ⟨by decide, by decide⟩ (Nat.le_of_ble_eq_true rfl) (dk2 dF_182 DX10_copyFrom (i := 61) rfl rfl rfl) ⟨Nat.le_refl _, Nat.le_refl _⟩) (fun s13 H locs hp hw => ?_)
        obtain ⟨f13_0, f13_1, f13_2, hT13, hG13⟩ := hp
        have hF13 : frC (fun x y => (DRG wk x)) σ s13 := frC.t hF12 hG13 (fun x y h => by have h : (x = wk + 5 ∧ y = 1) ∨ (x = wk + 5 ∧ y = 2) ∨ (x = wk + 6) := h; show (DRG wk x); rcases h with h | h | h; (· (unfold DRG; omega)); (· (unfold DRG; omega)); (· (unfold DRG; omega)))
        exact z_vret C0 hr hlk hw (⟨(fun i hi => (hVd i (by omega)).c (fun x y hxy => ((hG13.1 x y (by show ¬ ((x = wk + 5 ∧ y = 1) ∨ (x = wk + 5 ∧ y = 2) ∨ (x = wk + 6)); intro h_; rcases h_ with h_ | h_ | h_; (· have hd_ := hDw i hi x hxy; omega); (· have hd_ := hDw i hi x hxy; omega); (· have hd_ := hDw i hi x hxy; omega))).trans ((rd_n (by have hd_ := hDw i hi x hxy; omega)).trans ((rd_n (by have hd_ := hDw i hi x hxy; omega)).trans ((congrFun (sCp_o (by have hd_ := hDw i hi x hxy; omega)) _).trans ((rd_n (by have hd_ := hDw i hi x hxy; omega)).trans ((congrFun (sCp_o (by have hd_ := hDw i hi x hxy; omega)) _).trans ((congrFun (sCp_o (by have hd_ := hDw i hi x hxy; omega)) _).trans rfl))))))))), (fun k hk => ((hG13.1 (wk + 2) k (by show ¬ (((wk + 2) = wk + 5 ∧ k = 1) ∨ ((wk + 2) = wk + 5 ∧ k = 2) ∨ ((wk + 2) = wk + 6)); intro h_; rcases h_ with h_ | h_ | h_; (· omega); (· omega); (· omega))).trans ((rd_n (by omega)).trans ((rd_n (by omega)).trans ((congrFun (sCp_o (by omega)) _).trans ((rd_n (by omega)).trans ((congrFun (sCp_o (by omega)) _).trans ((cp_in (by omega)).trans ((hF_τ1.1 (xk + 2) k (by show ¬ ((DRG wk (xk + 2))); intro h_; (· have hd_ := wkD wk hwk xk hxk; have hd2_ := wkN2 xk hxk; unfold DRG at h_; omega))).trans rfl))))))))), (fun k hk => ((hG13.1 (wk + 3) k (by show ¬ (((wk + 3) = wk + 5 ∧ k = 1) ∨ ((wk + 3) = wk + 5 ∧ k = 2) ∨ ((wk + 3) = wk + 6)); intro h_; rcases h_ with h_ | h_ | h_; (· omega); (· omega); (· omega))).trans ((rd_n (by omega)).trans ((rd_n (by omega)).trans ((congrFun (sCp_o (by omega)) _).trans ((rd_n (by omega)).trans ((cp_in (by omega)).trans ((congrFun (sCp_o (by have hd_ := wkD xk hxk wk hwk; omega)) _).trans ((hF_τ1.1 (xk + 3) k (by show ¬ ((DRG wk (xk + 3))); intro h_; (· have hd_ := wkD wk hwk xk hxk; have hd2_ := wkN2 xk hxk; unfold DRG at h_; omega))).trans rfl))))))))), (fun k hk => (f13_0 k hk).trans ((rd_n (by have hd_ := wkD xk hxk wk hwk; omega)).trans ((rd_n (by have hd_ := wkD xk hxk wk hwk; omega)).trans ((congrFun (sCp_o (by have hd_ := wkD xk hxk wk hwk; omega)) _).trans ((rd_n (by have hd_ := wkD xk hxk wk hwk; omega)).trans ((congrFun (sCp_o (by have hd_ := wkD xk hxk wk hwk; omega)) _).trans ((congrFun (sCp_o (by have hd_ := wkD xk hxk wk hwk; omega)) _).trans ((hF_τ1.1 (xk + 6) k (by show ¬ ((DRG wk (xk + 6))); intro h_; (· have hd_ := wkD wk hwk xk hxk; have hd2_ := wkN2 xk hxk; unfold DRG at h_; omega))).trans rfl)))))))), (f13_1.trans ((rd_n (by have hd_ := wkD xk hxk wk hwk; omega)).trans ((rd_n (by have hd_ := wkD xk hxk wk hwk; omega)).trans ((congrFun (sCp_o (by have hd_ := wkD xk hxk wk hwk; omega)) _).trans ((rd_n (by have hd_ := wkD xk hxk wk hwk; omega)).trans ((congrFun (sCp_o (by have hd_ := wkD xk hxk wk hwk; omega)) _).trans ((congrFun (sCp_o (by have hd_ := wkD xk hxk wk hwk; omega)) _).trans ((hF_τ1.1 (xk + 5) 1 (by show ¬ ((DRG wk (xk + 5))); intro h_; (· have hd_ := wkD wk hwk xk hxk; have hd2_ := wkN2 xk hxk; unfold DRG at h_; omega))).trans rfl)))))))), (f13_2.trans ((rd_n (by have hd_ := wkD xk hxk wk hwk; omega)).trans ((rd_n (by have hd_ := wkD xk hxk wk hwk; omega)).trans ((congrFun (sCp_o (by have hd_ := wkD xk hxk wk hwk; omega)) _).trans ((rd_n (by have hd_ := wkD xk hxk wk hwk; omega)).trans ((congrFun (sCp_o (by have hd_ := wkD xk hxk wk hwk; omega)) _).trans ((congrFun (sCp_o (by have hd_ := wkD xk hxk wk hwk; omega)) _).trans ((hF_τ1.1 (xk + 5) 2 (by show ¬ ((DRG wk (xk + 5))); intro h_; (· have hd_ := wkD wk hwk xk hxk; have hd2_ := wkN2 xk hxk; unfold DRG at h_; omega))).trans rfl)))))))), hT13, hF13⟩) (dkP dF_177 DX10_copyFrom (i := 62) rfl rfl)
      · simp (disch := omega) only [ta_lt, ta_le, ta_eq, tnI, tl32 8 (by decide)] at c3
        refine lv_aload_n hx hb (dkP dF_42 DX10_copyFrom (i := 5) rfl rfl) rfl (lv_at hl 1 rfl) ?_
        refine z_gr C0 hw wk 0 (wk + 1) (fk_of (shl_wk_0 wk hwk) rfl) fl_X10_11 (dk2 dF_180 DX10_copyFrom (i := 6) rfl rfl rfl) ?_
        refine lv_iload_n hx hb (dkP dF_28 DX10_copyFrom (i := 7) rfl rfl) rfl (lv_at hl 0 rfl) ?_
        refine z_aaldN (n := 8) C0 hw (wk + 1) q2_2 (rkwk wk hwk q2_2 (by omega)) (by decide) (by omega) (by decide) (dkP dF_50 DX10_copyFrom (i := 8) rfl rfl) ?_
        refine lv_aload_n hx hb (dkP dF_43 DX10_copyFrom (i := 9) rfl rfl) rfl (lv_at hl 2 rfl) ?_
        refine z_gr C0 hw xk 0 (xk + 1) (fk_of (shl_wk_0 xk hxk) rfl) fl_X10_11 (dk2 dF_180 DX10_copyFrom (i := 10) rfl rfl rfl) ?_
        refine lv_iload_n hx hb (dkP dF_28 DX10_copyFrom (i := 11) rfl rfl) rfl (lv_at hl 0 rfl) ?_
        refine z_aaldN (n := 8) C0 hw (xk + 1) q2_2 (rkwk xk hxk q2_2 (by omega)) (by decide) (by omega) (by decide) (dkP dF_50 DX10_copyFrom (i := 12) rfl rfl) ?_
        refine zk_V hw (zr_V (As := [.ref (ad (xk + 7 + 22 * q2_2))]) (rest := []) C0 (c_X4_copyFrom l G kc ad τ1 (wk + 7 + 22 * q2_2) (xk + 7 + 22 * q2_2) (wkpg wk hwk q2_2 (by omega)) (wkpg xk hxk q2_2 (by omega)) (by omega) ((congrFun (congrFun hF_τ1.2 _) _).trans (hPo q2_2 (by omega)).1) (hPo q2_2 (by omega)).2.1 ((congrFun (congrFun hF_τ1.2 _) _).trans (hPo q2_2 (by omega)).2.2.1) (hPo q2_2 (by omega)).2.2.2 ((congrFun (congrFun hF_τ1.2 _) _).trans (hXo q2_2 (by omega)).1) (hXo q2_2 (by omega)).2.1 ((congrFun (congrFun hF_τ1.2 _) _).trans (hXo q2_2 (by omega)).2.2.1) (hXo q2_2 (by omega)).2.2.2 (hdis q2_2 (by omega)).1 (hdis q2_2 (by omega)).2 ((hV q2_2 (by omega)).c (fun x y hxy => hF_τ1.1 x y (hXr q2_2 (by omega) x hxy))) hT_τ1 _) cv_X4_copyFrom lk_X10_41 (zp_V C0 hRo hw (wk + 7 + 22 * q2_2) (shl_pg_0 (wk + 7 + 22 * q2_2) (wkpg wk hwk q2_2 (by omega))) rfl rfl) rfl hl.1 rfl ⟨by decide, by decide⟩ (Nat.le_of_ble_eq_true rfl) (dk2 dF_182 DX10_copyFrom (i := 13) rfl rfl rfl) ⟨Nat.le_refl _, Nat.le_refl _⟩) (fun s14 H locs hp hw => ?_)
        obtain ⟨f14_0, hT14, hG14⟩ := hp
        have hF14 : frC (fun x y => (DRG wk x)) σ s14 := frC.t hF_τ1 hG14 (fun x y h => by have h : (ARE (wk + 7 + 22 * q2_2) (o q2_2) (n q2_2) x) := h; show (DRG wk x); exact hDr q2_2 (by omega) x h)
        refine lv_iinc (v := nI (q2_2 + 1)) (lv' := [(2, .int (nI (q2_2 + 1))), (0, .ref (ad wk)), (1, .ref (ad xk))]) hx hb (dkI DX10_copyFrom (i := 14) rfl rfl rfl rfl) hl (k := 0) rfl (nI_1 _) (by decide) rfl (fun ls hl => ?_)
        refine lv_goto (tgt := 2) hx hb (dkS dF_167 DX10_copyFrom (i := 15) rfl rfl rfl) (by decide) ?_
        exact ih2 (q2_2 + 1) s14 _ _ _ (by omega) (by (try simp only [lg_cmp_lt, lg_cmp_le, lg_cmp_gt, lg_cmp_ge, lg_cmp_eq] at c3); (try simp (disch := omega) only [ta_lt, ta_le, ta_eq, tb_lt, tb_le, tb_eq, tw, tnI, tsub1, tsv, tsb32, tn32 1 (by decide), tnj 1 (by decide), tl32 0 (by decide), tl64 0 (by decide), tl32 7 (by decide), tl64 7 (by decide), tl32 8 (by decide), tl64 8 (by decide)] at c3); (try simp only [lg_cmp_lt, lg_cmp_le, lg_cmp_gt, lg_cmp_ge, lg_cmp_eq] at f14_0); (try simp (disch := omega) only [ta_lt, ta_le, ta_eq, tb_lt, tb_le, tb_eq, tw, tnI, tsub1, tsv, tsb32, tn32 1 (by decide), tnj 1 (by decide), tl32 0 (by decide), tl64 0 (by decide), tl32 7 (by decide), tl64 7 (by decide), tl32 8 (by decide), tl64 8 (by decide)] at f14_0); (try simp (disch := omega) only [ta_lt, ta_le, ta_eq, tb_lt, tb_le, tb_eq, tw, tnI, tsub1, tsv, tsb32, tn32 1 (by decide), tnj 1 (by decide), tl32 0 (by decide), tl64 0 (by decide), tl32 7 (by decide), tl64 7 (by decide), tl32 8 (by decide), tl64 8 (by decide)]); omega) (fun i hi => by by_cases e_ : i = q2_2; (· rw [e_]; exact f14_0); (· exact (hVd i (by omega)).c (fun x y hxy => hG14.1 x y (hDD i (by omega) q2_2 (by omega) e_ x hxy)))) hT14 hF14 hw (lv_sub hl [0, 1, 2] rfl)
  exact lp2 _ 0 σ _ _ _ (Nat.lt_succ_self _) (by (try simp (disch := omega) only [ta_lt, ta_le, ta_eq, tb_lt, tb_le, tb_eq, tw, tnI, tsub1, tsv, tsb32, tn32 1 (by decide), tnj 1 (by decide), tl32 0 (by decide), tl64 0 (by decide), tl32 7 (by decide), tl64 7 (by decide), tl32 8 (by decide), tl64 8 (by decide)]); omega) (fun i hi => absurd hi (Nat.not_lt_zero i)) hT frC.refl hw (lv_sub hl [0, 1, 2] rfl)
