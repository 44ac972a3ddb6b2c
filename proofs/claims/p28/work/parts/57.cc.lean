set_option maxRecDepth 20000 in
theorem shl_pg_21 : ∀ d, d ∈ pgL → shC[d + 21]? = some (1, 3, []) := by decide +kernel
theorem tck_pg_21 : ∀ d, d ∈ pgL → tcL.getD (d + 21) 0 = 7 := by decide +kernel
set_option maxRecDepth 20000 in
theorem shl_pg_20 : ∀ d, d ∈ pgL → shC[d + 20]? = some (1, 3, []) := by decide +kernel
theorem tck_pg_20 : ∀ d, d ∈ pgL → tcL.getD (d + 20) 0 = 7 := by decide +kernel
set_option maxRecDepth 100000 in
set_option maxHeartbeats 8000000 in
theorem c_X4_beginFields (l : Launch) (G : va_G) (kc : KC) (ad : Nat → Nat) (σ : Sg) (pg : Nat) (inp : Int32) (mc : Nat) (hpg : pg ∈ pgL) (hmc : mc ∈ mcL) (hLH : LH σ pg) (hT : TC σ) : MV l G kc yX4_beginFields cX4_beginFields 6 1 23 [.ref (ad pg), .int inp, .ref (ad (mc + 1))] shC ad σ (fun σ1 => TC σ1 ∧ frC (fun x y => (x = mc + 1)) σ σ1) := by
  intro sz
  refine z_body (y := yX4_beginFields) (n := 6) (av := [.ref (ad pg), .int inp, .ref (ad (mc + 1))]) (Qc := fun A => va_Qv (fun σ1 => TC σ1 ∧ frC (fun x y => (x = mc + 1)) σ σ1) (PoC G kc shC ad A) A) (plainFor_of_name (by decide)) (Nat.le_of_ble_eq_true rfl) (fun pr e s m below meth c A C0 hr hlk hnm hw hRo ls hl => ?_) sz
  have hx := C0.1
  have hb := C0.2.1
  have hown := C0.2.2.2.1
  have hts := C0.2.2.2.2.1
  have hl : lv_has ls 6 [(0, .ref (ad pg)), (1, .int inp), (2, .ref (ad (mc + 1)))] := hl
  have hpgn := pgN pg hpg
  have hmcn := mcN mc hmc
  refine lv_aload_n hx hb (dkP dF_44 DX4_beginFields (i := 0) rfl rfl) rfl (lv_at hl 2 rfl) ?_
  refine lv_iconst (v := 0) hx hb (dkP dF_3 DX4_beginFields (i := 1) rfl rfl) (by decide) ?_
  refine zk_V hw (zr_S (As := [.ref (ad (mc + 1)), .int 0]) (rest := []) C0 (c_J7_fill_53178_f l G kc ad σ mc 0 hmc hT _) cs_J7_fill_53178 lk_X4_76 (zp_S C0 hRo hw) rfl hl.1 rfl ⟨by decide, by decide⟩ (Nat.le_of_ble_eq_true rfl) (dk2 dF_184 DX4_beginFields (i := 2) rfl rfl rfl) ⟨Nat.le_refl _, Nat.le_refl _⟩) (fun s1 H locs hp hw => ?_)
  obtain ⟨f1_0, hT1, hG1⟩ := hp
  have hF1 : frC (fun x y => (x = mc + 1)) σ s1 := frC.t frC.refl hG1 (fun x y h => by have h : (x = mc + 1) := h; show (x = mc + 1); exact h)
  refine lv_iload_n hx hb (dkP dF_27 DX4_beginFields (i := 3) rfl rfl) rfl (lv_at hl 1 rfl) ?_
  refine lv_istore_n (lv' := [(3, .int inp), (0, .ref (ad pg)), (1, .int inp), (2, .ref (ad (mc + 1)))]) hx hb (dkP dF_62 DX4_beginFields (i := 4) rfl rfl) rfl hl (by decide) rfl (fun ls hl => ?_)
  refine lv_aload_n hx hb (dkP dF_42 DX4_beginFields (i := 5) rfl rfl) rfl (lv_at hl 1 rfl) ?_
  refine z_gi C0 hw pg 5 (fk_of (shl_pg_0 pg hpg) rfl) fl_X4_52 (dk2 dF_180 DX4_beginFields (i := 6) rfl rfl rfl) ?_
  obtain ⟨n2, hn2, en2⟩ := rngN (x := s1.1 pg 5) (h := 3) (tcr_5_5 hT1 (tck_pg_0 pg hpg))
  refine z_top (y := nI n2) en2 ?_
  refine lv_iconst (v := 1) hx hb (dkP dF_4 DX4_beginFields (i := 7) rfl rfl) (by decide) ?_
  refine lv_isub hx hb (dkP dF_100 DX4_beginFields (i := 8) rfl rfl) ?_
  refine lv_topi (fun v3 ev3 => ?_)
  refine lv_istore (lv' := [(4, .int v3), (3, .int inp), (0, .ref (ad pg)), (1, .int inp), (2, .ref (ad (mc + 1)))]) hx hb (dk1 dF_54 DX4_beginFields (i := 9) rfl rfl rfl) hl (by decide) rfl (fun ls hl => ?_)
  have lp5 : ∀ (nq : Nat) (q4_15 : Int32) (q3_15 : Int32) (j : Nat) (τ4 : Sg) (H : Heap) (locs : List Loc) (ls : Array Slot), j < nq → (j ≤ 3) → (q4_15 = nI j + (-1)) → (TC τ4) → (frC (fun x y => (x = mc + 1)) σ τ4) → St G kc A s.heap shC ad τ4 H locs → lv_has ls 6 [(4, .int q4_15), (3, .int q3_15), (0, .ref (ad pg)), (1, .int inp), (2, .ref (ad (mc + 1)))] → W pr l e { frames := 1, cells := 0, slots := 0, locals := 23 } s m ([.ref (ad pg), .int inp, .ref (ad (mc + 1))] : List Value).toArray below meth c H locs 0 0 (MQ below (va_Qv (fun σ1 => TC σ1 ∧ frC (fun x y => (x = mc + 1)) σ σ1) (PoC G kc shC ad A) A) ([.ref (ad pg), .int inp, .ref (ad (mc + 1))] : List Value).toArray s 0 0 A) (F0 m 15 ls []) := by
    intro nq
    induction nq with
    | zero => intro q4_15 q3_15 j τ4 H locs ls hmu; exact absurd hmu (Nat.not_lt_zero _)
    | succ nq ih5 =>
      intro q4_15 q3_15 j τ4 H locs ls hmu hj hq4 hT_τ4 hF_τ4 hw hl
      refine lv_iload hx hb (dk1 dF_21 DX4_beginFields (i := 10) rfl rfl rfl) (lv_at hl 0 rfl) ?_
      refine lv_if_lt (tgt := 71) hx hb (dkS dF_155 DX4_beginFields (i := 11) rfl rfl rfl) (by decide) (fun c6 => ?_) (fun c6 => ?_)
      · skip
        exact z_vret C0 hr hlk hw (⟨hT_τ4, hF_τ4⟩) (dkP dF_177 DX4_beginFields (i := 44) rfl rfl)
      · skip
        obtain ⟨i, rfl, rfl⟩ := ndown2 hq4 (by omega) c6
        refine lv_aload_n hx hb (dkP dF_42 DX4_beginFields (i := 12) rfl rfl) rfl (lv_at hl 2 rfl) ?_
        refine z_gr C0 hw pg 8 (pg + 21) (fk_of (shl_pg_0 pg hpg) rfl) fl_X4_42 (dk2 dF_180 DX4_beginFields (i := 13) rfl rfl rfl) ?_
        refine lv_iload hx hb (dk1 dF_21 DX4_beginFields (i := 14) rfl rfl rfl) (lv_at hl 0 rfl) ?_
        refine z_ialdN (n := 3) C0 hw (pg + 21) i (ak_of (shl_pg_21 pg hpg)) (by omega) (by decide) (dkP dF_46 DX4_beginFields (i := 15) rfl rfl) ?_
        obtain ⟨v7, ev7⟩ : ∃ y : Int32, τ4.1 (pg + 21) i = y := ⟨_, rfl⟩
        have hv7 : -99 ≤ v7.toInt ∧ v7.toInt ≤ 99 := by rw [← ev7]; exact (tcr_7 hT_τ4 (tck_pg_21 pg hpg))
        refine z_top (y := v7) ev7 ?_
        refine lv_aload_n hx hb (dkP dF_42 DX4_beginFields (i := 16) rfl rfl) rfl (lv_at hl 2 rfl) ?_
        refine z_gr C0 hw pg 7 (pg + 20) (fk_of (shl_pg_0 pg hpg) rfl) fl_X4_39 (dk2 dF_180 DX4_beginFields (i := 17) rfl rfl rfl) ?_
        refine lv_iload hx hb (dk1 dF_21 DX4_beginFields (i := 18) rfl rfl rfl) (lv_at hl 0 rfl) ?_
        refine z_ialdN (n := 3) C0 hw (pg + 20) i (ak_of (shl_pg_20 pg hpg)) (by omega) (by decide) (dkP dF_46 DX4_beginFields (i := 19) rfl rfl) ?_
        obtain ⟨v8, ev8⟩ : ∃ y : Int32, τ4.1 (pg + 20) i = y := ⟨_, rfl⟩
        have hv8 : -99 ≤ v8.toInt ∧ v8.toInt ≤ 99 := by rw [← ev8]; exact (tcr_7 hT_τ4 (tck_pg_20 pg hpg))
        refine z_top (y := v8) ev8 ?_
        refine lv_isub hx hb (dkP dF_100 DX4_beginFields (i := 20) rfl rfl) ?_
        refine lv_iconst (v := 1) hx hb (dkP dF_4 DX4_beginFields (i := 21) rfl rfl) (by decide) ?_
        refine lv_iadd hx hb (dkP dF_96 DX4_beginFields (i := 22) rfl rfl) ?_
        refine lv_topi (fun v9 ev9 => ?_)
        refine lv_istore (lv' := [(5, .int v9), (4, .int (nI i)), (3, .int q3_15), (0, .ref (ad pg)), (1, .int inp), (2, .ref (ad (mc + 1)))]) hx hb (dk1 dF_54 DX4_beginFields (i := 23) rfl rfl rfl) hl (by decide) rfl (fun ls hl => ?_)
        refine lv_aload_n hx hb (dkP dF_44 DX4_beginFields (i := 24) rfl rfl) rfl (lv_at hl 5 rfl) ?_
        refine lv_aload_n hx hb (dkP dF_42 DX4_beginFields (i := 25) rfl rfl) rfl (lv_at hl 3 rfl) ?_
        refine z_gr C0 hw pg 6 (pg + 19) (fk_of (shl_pg_0 pg hpg) rfl) fl_X4_35 (dk2 dF_180 DX4_beginFields (i := 26) rfl rfl rfl) ?_
        refine lv_iload hx hb (dk1 dF_21 DX4_beginFields (i := 27) rfl rfl rfl) (lv_at hl 1 rfl) ?_
        refine z_ialdN (n := 3) C0 hw (pg + 19) i (ak_of (shl_pg_19 pg hpg)) (by omega) (by decide) (dkP dF_46 DX4_beginFields (i := 28) rfl rfl) ?_
        obtain ⟨n10, hn10, en10⟩ := rngN (x := τ4.1 (pg + 19) i) (h := 7) (tcr_6 hT_τ4 (tck_pg_19 pg hpg))
        refine z_top (y := nI n10) en10 ?_
        refine lv_aload_n hx hb (dkP dF_42 DX4_beginFields (i := 29) rfl rfl) rfl (lv_at hl 3 rfl) ?_
        refine z_gr C0 hw pg 7 (pg + 20) (fk_of (shl_pg_0 pg hpg) rfl) fl_X4_39 (dk2 dF_180 DX4_beginFields (i := 30) rfl rfl rfl) ?_
        refine lv_iload hx hb (dk1 dF_21 DX4_beginFields (i := 31) rfl rfl rfl) (lv_at hl 1 rfl) ?_
        refine z_ialdN (n := 3) C0 hw (pg + 20) i (ak_of (shl_pg_20 pg hpg)) (by omega) (by decide) (dkP dF_46 DX4_beginFields (i := 32) rfl rfl) ?_
        refine z_top (y := v8) ev8 ?_
        refine lv_iload_n hx hb (dkP dF_29 DX4_beginFields (i := 33) rfl rfl) rfl (lv_at hl 2 rfl) ?_
        refine lv_iload hx hb (dk1 dF_21 DX4_beginFields (i := 34) rfl rfl rfl) (lv_at hl 0 rfl) ?_
        refine lv_irem hx hb (dkP dF_112 DX4_beginFields (i := 35) rfl rfl) (wd_ne ev9 (by rw [← ev8, ← ev7, ((hF_τ4.1 (pg + 20) i (by show ¬ (((pg + 20) = mc + 1)); omega)).trans rfl), ((hF_τ4.1 (pg + 21) i (by show ¬ (((pg + 21) = mc + 1)); omega)).trans rfl)]; exact hLH _ (by omega)) (by omega) (by omega)) ?_
        refine lv_iadd hx hb (dkP dF_96 DX4_beginFields (i := 36) rfl rfl) ?_
        refine z_iastN (n := 8) C0 hw (mc + 1) n10 (ak_of (shl_mc_1 mc hmc)) (by omega) (by decide) (dkP dF_79 DX4_beginFields (i := 37) rfl rfl) (fun H locs hw => ?_)
        have hT11 : TC (sI τ4 (mc + 1) n10 (v8 + (q3_15 - q3_15 / v9 * v9))) := TC.w hT_τ4 (tc0 (tck_mc_1 mc hmc))
        have hF11 : frC (fun x y => (x = mc + 1)) σ (sI τ4 (mc + 1) n10 (v8 + (q3_15 - q3_15 / v9 * v9))) := frC.w hF_τ4 (by show ((mc + 1) = mc + 1); exact rfl)
        refine lv_iload_n hx hb (dkP dF_29 DX4_beginFields (i := 38) rfl rfl) rfl (lv_at hl 2 rfl) ?_
        refine lv_iload hx hb (dk1 dF_21 DX4_beginFields (i := 39) rfl rfl rfl) (lv_at hl 0 rfl) ?_
        refine lv_idiv hx hb (dkP dF_108 DX4_beginFields (i := 40) rfl rfl) (wd_ne ev9 (by rw [← ev8, ← ev7, ((hF_τ4.1 (pg + 20) i (by show ¬ (((pg + 20) = mc + 1)); omega)).trans rfl), ((hF_τ4.1 (pg + 21) i (by show ¬ (((pg + 21) = mc + 1)); omega)).trans rfl)]; exact hLH _ (by omega)) (by omega) (by omega)) ?_
        refine lv_topi (fun v12 ev12 => ?_)
        refine lv_istore_n (lv' := [(3, .int v12), (5, .int v9), (4, .int (nI i)), (0, .ref (ad pg)), (1, .int inp), (2, .ref (ad (mc + 1)))]) hx hb (dkP dF_62 DX4_beginFields (i := 41) rfl rfl) rfl hl (by decide) rfl (fun ls hl => ?_)
        refine lv_iinc (v := (nI i) + (-1)) (lv' := [(4, .int ((nI i) + (-1))), (3, .int v12), (5, .int v9), (0, .ref (ad pg)), (1, .int inp), (2, .ref (ad (mc + 1)))]) hx hb (dkI DX4_beginFields (i := 42) rfl rfl rfl rfl) hl (k := 2) rfl rfl (by decide) rfl (fun ls hl => ?_)
        refine lv_goto (tgt := 15) hx hb (dkS dF_167 DX4_beginFields (i := 43) rfl rfl rfl) (by decide) ?_
        exact ih5 ((nI i) + (-1)) v12 i (sI τ4 (mc + 1) n10 (v8 + (q3_15 - q3_15 / v9 * v9))) _ _ _ (by omega) (by omega) rfl hT11 hF11 hw (lv_sub hl [0, 1, 3, 4, 5] rfl)
  exact lp5 _ v3 inp n2 s1 _ _ _ (Nat.lt_succ_self _) (by omega) (ev3.trans (i32_sub1 _)) hT1 hF1 hw (lv_sub hl [0, 1, 2, 3, 4] rfl)
