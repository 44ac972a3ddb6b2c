set_option maxRecDepth 20000 in
theorem ac_X11_367 : ACw RX11 367 := ⟨(gd_t4 51 rfl rfl), (gd_t4 53 rfl rfl), (gd_t4 52 rfl rfl), (gd_t1 20 rfl rfl)⟩
set_option maxRecDepth 20000 in
theorem ac_X0_136 : ACw RX0 136 := ⟨(gd_t4 88 rfl rfl), (gd_t4 53 rfl rfl), (gd_t4 52 rfl rfl), (gd_t1 20 rfl rfl)⟩
set_option maxRecDepth 20000 in
theorem ac_X9_64 : ACw RX9 64 := ⟨(gd_t4 106 rfl rfl), (gd_t4 53 rfl rfl), (gd_t4 52 rfl rfl), (gd_t1 20 rfl rfl)⟩
set_option maxRecDepth 20000 in
theorem ac_X1_54 : ACw RX1 54 := ⟨(gd_t4 139 rfl rfl), (gd_t4 53 rfl rfl), (gd_t4 52 rfl rfl), (gd_t1 20 rfl rfl)⟩
set_option maxRecDepth 20000 in
theorem ac_X2_57 : ACw RX2 57 := ⟨(gd_t5 225 rfl rfl), (gd_t4 53 rfl rfl), (gd_t4 52 rfl rfl), (gd_t1 20 rfl rfl)⟩
set_option maxRecDepth 20000 in
theorem ac_X8_25 : ACw RX8 25 := ⟨(gd_t5 231 rfl rfl), (gd_t4 53 rfl rfl), (gd_t4 52 rfl rfl), (gd_t1 20 rfl rfl)⟩
set_option maxRecDepth 20000 in
theorem ac_X4_55 : ACw RX4 55 := ⟨(gd_t5 237 rfl rfl), (gd_t4 53 rfl rfl), (gd_t4 52 rfl rfl), (gd_t1 20 rfl rfl)⟩
set_option maxRecDepth 20000 in
theorem ac_X10_45 : ACw RX10 45 := ⟨(gd_t5 238 rfl rfl), (gd_t4 53 rfl rfl), (gd_t4 52 rfl rfl), (gd_t1 20 rfl rfl)⟩
set_option maxRecDepth 20000 in
theorem ac_X6_19 : ACw RX6 19 := ⟨(gd_t6 3 rfl rfl), (gd_t4 53 rfl rfl), (gd_t4 52 rfl rfl), (gd_t1 20 rfl rfl)⟩
set_option maxRecDepth 20000 in
theorem ac_X7_32 : ACw RX7 32 := ⟨(gd_t6 36 rfl rfl), (gd_t4 53 rfl rfl), (gd_t4 52 rfl rfl), (gd_t1 20 rfl rfl)⟩
set_option maxRecDepth 20000 in
theorem shl_mc_2 : ∀ d, d ∈ mcL → shC[d + 2]? = some (1, 8, []) := by decide +kernel
theorem tck_mc_2 : ∀ d, d ∈ mcL → tcL.getD (d + 2) 0 = 0 := by decide +kernel
set_option maxRecDepth 100000 in
set_option maxHeartbeats 8000000 in
theorem c_X0_doPuts (l : Launch) (G : va_G) (kc : KC) (ad : Nat → Nat) (σ : Sg) (mc : Nat) (u : Nat) (cs : Nat) {a k us : Nat} {P : Nat → Prop} (hmc : mc ∈ mcL) (hu : u ∈ ntL) (hcs : cs < 40) (hfa : σ.1 (u + 4) cs = nI a) (ha2 : a ≤ 2000) (hfk : σ.1 (u + 3) cs = nI k) (hk1 : k ≤ 9) (hPf : ∀ x, P x → fok (σ.1 (u + 7) x)) (hca : ch (σ.1 (u + 7)) us P k a) (hus : us ≤ 1920) (hT : TC σ) : MV l G kc yX0_doPuts cX0_doPuts 6 1 26 [.ref (ad mc), .ref (ad u), .int (nI cs)] shC ad σ (fun σ1 => TC σ1 ∧ frC (fun x y => (x = mc + 1) ∨ (x = mc + 2) ∨ (x = mc ∧ y = 6)) σ σ1) := by
  intro sz
  refine z_body (y := yX0_doPuts) (n := 6) (av := [.ref (ad mc), .ref (ad u), .int (nI cs)]) (Qc := fun A => va_Qv (fun σ1 => TC σ1 ∧ frC (fun x y => (x = mc + 1) ∨ (x = mc + 2) ∨ (x = mc ∧ y = 6)) σ σ1) (PoC G kc shC ad A) A) (plainFor_of_name (by decide)) (Nat.le_of_ble_eq_true rfl) (fun pr e s m below meth c A C0 hr hlk hnm hw hRo ls hl => ?_) sz
  have hx := C0.1
  have hb := C0.2.1
  have hown := C0.2.2.2.1
  have hts := C0.2.2.2.2.1
  have hl : lv_has ls 6 [(0, .ref (ad mc)), (1, .ref (ad u)), (2, .int (nI cs))] := hl
  have hun_ := ntN u hu
  have hmcn := mcN mc hmc
  refine lv_aload_n hx hb (dkP dF_42 DX0_doPuts (i := 0) rfl rfl) rfl (lv_at hl 0 rfl) ?_
  refine z_gr C0 hw mc 0 (mc + 1) (fk_of (shl_mc_0 mc hmc) rfl) fl_X0_9 (dk2 dF_180 DX0_doPuts (i := 1) rfl rfl rfl) ?_
  refine lv_iconst (v := 0) hx hb (dkP dF_3 DX0_doPuts (i := 2) rfl rfl) (by decide) ?_
  refine lv_aload_n hx hb (dkP dF_42 DX0_doPuts (i := 3) rfl rfl) rfl (lv_at hl 0 rfl) ?_
  refine z_gr C0 hw mc 1 (mc + 2) (fk_of (shl_mc_0 mc hmc) rfl) fl_X0_15 (dk2 dF_180 DX0_doPuts (i := 4) rfl rfl rfl) ?_
  refine lv_iconst (v := 0) hx hb (dkP dF_3 DX0_doPuts (i := 5) rfl rfl) (by decide) ?_
  refine lv_bipush (v := 8) hx hb (dks dF_16 DX0_doPuts (i := 6) rfl rfl rfl) (by decide) ?_
  refine z_cpi (n0 := 8) (n1 := 8) C0 hw (mc + 1) (mc + 2) 0 0 8 (ak_of (shl_mc_1 mc hmc)) (ak_of (shl_mc_2 mc hmc)) ac_X0_136 hl.1 (by omega) (by omega) (by decide) (by decide) (by decide) (by decide) (Nat.le_of_ble_eq_true rfl) (dk2 dF_184 DX0_doPuts (i := 7) rfl rfl rfl) (fun H locs hw => ?_)
  have hT1 : TC (sCp σ (mc + 1) (mc + 2) 0 0 8) := TC.cp hT (fun k k2 x_ h => tc0 (tck_mc_2 mc hmc))
  have hF1 : frC (fun x y => (x = mc + 1) ∨ (x = mc + 2) ∨ (x = mc ∧ y = 6)) σ (sCp σ (mc + 1) (mc + 2) 0 0 8) := frC.cp frC.refl (fun k => (by show ((mc + 2) = mc + 1) ∨ ((mc + 2) = mc + 2) ∨ ((mc + 2) = mc ∧ k = 6); exact Or.inr (Or.inl rfl)))
  refine lv_aload_n hx hb (dkP dF_42 DX0_doPuts (i := 8) rfl rfl) rfl (lv_at hl 0 rfl) ?_
  refine lv_iconst (v := 0) hx hb (dkP dF_3 DX0_doPuts (i := 9) rfl rfl) (by decide) ?_
  refine z_pi C0 hw mc 6 (fk_of (shl_mc_0 mc hmc) rfl) fp_X0_57 (dk2 dF_181 DX0_doPuts (i := 10) rfl rfl rfl) (fun H locs hw => ?_)
  have hT2 : TC (sI (sCp σ (mc + 1) (mc + 2) 0 0 8) mc 6 0) := TC.w hT1 (tcw_8_6 (tck_mc_0 mc hmc))
  have hF2 : frC (fun x y => (x = mc + 1) ∨ (x = mc + 2) ∨ (x = mc ∧ y = 6)) σ (sI (sCp σ (mc + 1) (mc + 2) 0 0 8) mc 6 0) := frC.w hF1 (by show (mc = mc + 1) ∨ (mc = mc + 2) ∨ (mc = mc ∧ 6 = 6); exact Or.inr (Or.inr (⟨rfl, rfl⟩)))
  refine lv_aload_n hx hb (dkP dF_43 DX0_doPuts (i := 11) rfl rfl) rfl (lv_at hl 1 rfl) ?_
  refine z_gr C0 hw u 7 (u + 4) (fk_of (shl_nt_0 u hu) rfl) fl_X0_142 (dk2 dF_180 DX0_doPuts (i := 12) rfl rfl rfl) ?_
  refine lv_iload_n hx hb (dkP dF_28 DX0_doPuts (i := 13) rfl rfl) rfl (lv_at hl 2 rfl) ?_
  refine z_ialdN (n := 40) C0 hw (u + 4) cs (ak_of (shl_nt_4 u hu)) (by omega) (by decide) (dkP dF_46 DX0_doPuts (i := 14) rfl rfl) ?_
  refine z_top (y := (nI a)) ((rd_n (by omega)).trans ((congrFun (sCp_o (by omega)) _).trans hfa)) ?_
  refine lv_istore_n (lv' := [(3, .int (nI a)), (0, .ref (ad mc)), (1, .ref (ad u)), (2, .int (nI cs))]) hx hb (dkP dF_62 DX0_doPuts (i := 15) rfl rfl) rfl hl (by decide) rfl (fun ls hl => ?_)
  refine lv_iconst (v := 0) hx hb (dkP dF_3 DX0_doPuts (i := 16) rfl rfl) (by decide) ?_
  refine lv_istore (lv' := [(4, .int 0), (3, .int (nI a)), (0, .ref (ad mc)), (1, .ref (ad u)), (2, .int (nI cs))]) hx hb (dk1 dF_54 DX0_doPuts (i := 17) rfl rfl rfl) hl (by decide) rfl (fun ls hl => ?_)
  have lp4 : ∀ (nq : Nat) (q4_30 : Nat) (q3_30 : Nat) (τ3 : Sg) (H : Heap) (locs : List Loc) (ls : Array Slot), k - q4_30 < nq → (q4_30 ≤ k) → (q3_30 ≤ 2000) → (ch (σ.1 (u + 7)) us P (k - q4_30) q3_30) → (TC τ3) → (frC (fun x y => (x = mc + 1) ∨ (x = mc + 2) ∨ (x = mc ∧ y = 6)) σ τ3) → St G kc A s.heap shC ad τ3 H locs → lv_has ls 6 [(4, .int (nI q4_30)), (3, .int (nI q3_30)), (0, .ref (ad mc)), (1, .ref (ad u)), (2, .int (nI cs))] → W pr l e { frames := 1, cells := 0, slots := 0, locals := 26 } s m ([.ref (ad mc), .ref (ad u), .int (nI cs)] : List Value).toArray below meth c H locs 0 0 (MQ below (va_Qv (fun σ1 => TC σ1 ∧ frC (fun x y => (x = mc + 1) ∨ (x = mc + 2) ∨ (x = mc ∧ y = 6)) σ σ1) (PoC G kc shC ad A) A) ([.ref (ad mc), .ref (ad u), .int (nI cs)] : List Value).toArray s 0 0 A) (F0 m 30 ls []) := by
    intro nq
    induction nq with
    | zero => intro q4_30 q3_30 τ3 H locs ls hmu; exact absurd hmu (Nat.not_lt_zero _)
    | succ nq ih4 =>
      intro q4_30 q3_30 τ3 H locs ls hmu hq4_30 hq3_30 hcc hT_τ3 hF_τ3 hw hl
      refine lv_iload hx hb (dk1 dF_21 DX0_doPuts (i := 18) rfl rfl rfl) (lv_at hl 0 rfl) ?_
      refine lv_aload_n hx hb (dkP dF_43 DX0_doPuts (i := 19) rfl rfl) rfl (lv_at hl 3 rfl) ?_
      refine z_gr C0 hw u 6 (u + 3) (fk_of (shl_nt_0 u hu) rfl) fl_X0_145 (dk2 dF_180 DX0_doPuts (i := 20) rfl rfl rfl) ?_
      refine lv_iload_n hx hb (dkP dF_28 DX0_doPuts (i := 21) rfl rfl) rfl (lv_at hl 4 rfl) ?_
      refine z_ialdN (n := 40) C0 hw (u + 3) cs (ak_of (shl_nt_3 u hu)) (by omega) (by decide) (dkP dF_46 DX0_doPuts (i := 22) rfl rfl) ?_
      refine z_top (y := (nI k)) ((hF_τ3.1 (u + 3) cs (by show ¬ (((u + 3) = mc + 1) ∨ ((u + 3) = mc + 2) ∨ ((u + 3) = mc ∧ cs = 6)); omega)).trans hfk) ?_
      refine lv_icmp_ge (tgt := 104) hx hb (dkS dF_162 DX0_doPuts (i := 23) rfl rfl rfl) (by decide) (fun c5 => ?_) (fun c5 => ?_)
      · simp (disch := omega) only [ta_lt, ta_le, ta_eq, tnI] at c5
        refine lv_aload_n hx hb (dkP dF_42 DX0_doPuts (i := 58) rfl rfl) rfl (lv_at hl 2 rfl) ?_
        refine z_gr C0 hw mc 1 (mc + 2) (fk_of (shl_mc_0 mc hmc) rfl) fl_X0_15 (dk2 dF_180 DX0_doPuts (i := 59) rfl rfl rfl) ?_
        refine lv_iconst (v := 0) hx hb (dkP dF_3 DX0_doPuts (i := 60) rfl rfl) (by decide) ?_
        refine lv_aload_n hx hb (dkP dF_42 DX0_doPuts (i := 61) rfl rfl) rfl (lv_at hl 2 rfl) ?_
        refine z_gr C0 hw mc 0 (mc + 1) (fk_of (shl_mc_0 mc hmc) rfl) fl_X0_9 (dk2 dF_180 DX0_doPuts (i := 62) rfl rfl rfl) ?_
        refine lv_iconst (v := 0) hx hb (dkP dF_3 DX0_doPuts (i := 63) rfl rfl) (by decide) ?_
        refine lv_bipush (v := 8) hx hb (dks dF_16 DX0_doPuts (i := 64) rfl rfl rfl) (by decide) ?_
        refine z_cpi (n0 := 8) (n1 := 8) C0 hw (mc + 2) (mc + 1) 0 0 8 (ak_of (shl_mc_2 mc hmc)) (ak_of (shl_mc_1 mc hmc)) ac_X0_136 hl.1 (by omega) (by omega) (by decide) (by decide) (by decide) (by decide) (Nat.le_of_ble_eq_true rfl) (dk2 dF_184 DX0_doPuts (i := 65) rfl rfl rfl) (fun H locs hw => ?_)
        have hT6 : TC (sCp τ3 (mc + 2) (mc + 1) 0 0 8) := TC.cp hT_τ3 (fun k k2 x_ h => tc0 (tck_mc_1 mc hmc))
        have hF6 : frC (fun x y => (x = mc + 1) ∨ (x = mc + 2) ∨ (x = mc ∧ y = 6)) σ (sCp τ3 (mc + 2) (mc + 1) 0 0 8) := frC.cp hF_τ3 (fun k => (by show ((mc + 1) = mc + 1) ∨ ((mc + 1) = mc + 2) ∨ ((mc + 1) = mc ∧ k = 6); exact Or.inl rfl))
        exact z_vret C0 hr hlk hw (⟨hT6, hF6⟩) (dkP dF_177 DX0_doPuts (i := 66) rfl rfl)
      · simp (disch := omega) only [ta_lt, ta_le, ta_eq, tnI] at c5
        obtain ⟨hfk0, cj, hcj16, hcj, hcjb, hcn⟩ := ch_s hcc (by omega)
        refine lv_aload_n hx hb (dkP dF_43 DX0_doPuts (i := 24) rfl rfl) rfl (lv_at hl 3 rfl) ?_
        refine z_gr C0 hw u 9 (u + 6) (fk_of (shl_nt_0 u hu) rfl) fl_X0_148 (dk2 dF_180 DX0_doPuts (i := 25) rfl rfl rfl) ?_
        refine lv_iload_n hx hb (dkP dF_29 DX0_doPuts (i := 26) rfl rfl) rfl (lv_at hl 1 rfl) ?_
        refine lv_iconst (v := 1) hx hb (dkP dF_4 DX0_doPuts (i := 27) rfl rfl) (by decide) ?_
        refine lv_iadd hx hb (dkP dF_96 DX0_doPuts (i := 28) rfl rfl) ?_
        refine z_top (y := nI (q3_30 + 1)) (by simp only [fa_lit, nI_add, pk_mul]) ?_
        refine lv_aload_n hx hb (dkP dF_42 DX0_doPuts (i := 29) rfl rfl) rfl (lv_at hl 2 rfl) ?_
        refine z_gr C0 hw mc 0 (mc + 1) (fk_of (shl_mc_0 mc hmc) rfl) fl_X0_9 (dk2 dF_180 DX0_doPuts (i := 30) rfl rfl rfl) ?_
        refine zk_I hw (zr_V (As := [.int (nI (q3_30 + 1)), .ref (ad (mc + 1))]) (rest := []) C0 (c_X8_valueAt_n l G kc ad τ3 (u + 6) (q3_30 + 1) mc (ntsn u hu) hmc (by rw [show u + 6 + 1 = u + 7 from rfl, ((hF_τ3.1 (u + 7) (q3_30 + 1) (by show ¬ (((u + 7) = mc + 1) ∨ ((u + 7) = mc + 2) ∨ ((u + 7) = mc ∧ (q3_30 + 1) = 6)); omega)).trans rfl)]; exact hcj) (by omega) hT_τ3 _) cv_X8_valueAt lk_X0_79 (zp_V C0 hRo hw (u + 6) (shl_nt_6 u hu) rfl rfl) rfl hl.1 rfl ⟨by decide, by decide⟩ (Nat.le_of_ble_eq_true rfl) (dk2 dF_182 DX0_doPuts (i := 31) rfl rfl rfl) ⟨Nat.le_refl _, Nat.le_refl _⟩) (fun r7 s7 H locs hp hw => ?_)
        have hs7 := hp
        (rw [hs7] at hw)
        refine lv_istore (lv' := [(5, .int r7), (4, .int (nI q4_30)), (3, .int (nI q3_30)), (0, .ref (ad mc)), (1, .ref (ad u)), (2, .int (nI cs))]) hx hb (dk1 dF_54 DX0_doPuts (i := 32) rfl rfl rfl) hl (by decide) rfl (fun ls hl => ?_)
        refine lv_iload hx hb (dk1 dF_21 DX0_doPuts (i := 33) rfl rfl rfl) (lv_at hl 0 rfl) ?_
        refine zn_I hw (zr_S (As := [.int r7]) (rest := []) C0 (c_X11_isInRange l G kc r7  _) cs_X11_isInRange lk_X0_85 (zp_P C0 hRo hw a00 s00) rfl hl.1 rfl ⟨by decide, by decide⟩ (Nat.le_of_ble_eq_true rfl) (dk2 dF_184 DX0_doPuts (i := 34) rfl rfl rfl) ⟨Nat.le_refl _, Nat.le_refl _⟩) (fun r8 s8 H locs hp hw => ?_)
        rcases hp with ⟨rfl, hc8⟩ | ⟨rfl, hc8⟩
        · skip
          (try simp (disch := omega) only [ta_lt, ta_le, ta_eq, tb_lt, tb_le, tb_eq, tw, tnI, tn32 1 (by decide), tnj 1 (by decide), tl32 0 (by decide), tl64 0 (by decide), tl32 1 (by decide), tl64 1 (by decide), tl32 8 (by decide), tl64 8 (by decide)] at hc8)
          refine lv_if_ne (tgt := 71) hx hb (dkS dF_154 DX0_doPuts (i := 35) rfl rfl rfl) (by decide) (fun _ => ?_) (fun h => absurd h (by decide))
          refine lv_aload_n hx hb (dkP dF_42 DX0_doPuts (i := 40) rfl rfl) rfl (lv_at hl 3 rfl) ?_
          refine z_gr C0 hw mc 1 (mc + 2) (fk_of (shl_mc_0 mc hmc) rfl) fl_X0_15 (dk2 dF_180 DX0_doPuts (i := 41) rfl rfl rfl) ?_
          refine lv_aload_n hx hb (dkP dF_43 DX0_doPuts (i := 42) rfl rfl) rfl (lv_at hl 4 rfl) ?_
          refine z_gr C0 hw u 9 (u + 6) (fk_of (shl_nt_0 u hu) rfl) fl_X0_148 (dk2 dF_180 DX0_doPuts (i := 43) rfl rfl rfl) ?_
          refine z_gr C0 hw (u + 6) 0 (u + 7) (fk_of (shl_nt_6 u hu) rfl) fl_X0_149 (dk2 dF_180 DX0_doPuts (i := 44) rfl rfl rfl) ?_
          refine lv_iload_n hx hb (dkP dF_29 DX0_doPuts (i := 45) rfl rfl) rfl (lv_at hl 2 rfl) ?_
          refine z_ialdN (n := 1920) C0 hw (u + 7) q3_30 (ak_of (shl_nt_7 u hu)) (by omega) (by decide) (dkP dF_46 DX0_doPuts (i := 46) rfl rfl) ?_
          obtain ⟨v9, ev9⟩ : ∃ y : Int32, τ3.1 (u + 7) q3_30 = y := ⟨_, rfl⟩
          refine z_top (y := v9) ev9 ?_
          obtain ⟨n10, hn10, en10⟩ := rngN (x := v9) (h := 7) (by rw [← ev9, ((hF_τ3.1 (u + 7) q3_30 (by show ¬ (((u + 7) = mc + 1) ∨ ((u + 7) = mc + 2) ∨ ((u + 7) = mc ∧ q3_30 = 6)); omega)).trans rfl)]; exact hPf _ hfk0)
          subst en10
          refine lv_iload hx hb (dk1 dF_21 DX0_doPuts (i := 47) rfl rfl rfl) (lv_at hl 0 rfl) ?_
          refine z_iastN (n := 8) C0 hw (mc + 2) n10 (ak_of (shl_mc_2 mc hmc)) (by omega) (by decide) (dkP dF_79 DX0_doPuts (i := 48) rfl rfl) (fun H locs hw => ?_)
          have hT11 : TC (sI τ3 (mc + 2) n10 r7) := TC.w hT_τ3 (tc0 (tck_mc_2 mc hmc))
          have hF11 : frC (fun x y => (x = mc + 1) ∨ (x = mc + 2) ∨ (x = mc ∧ y = 6)) σ (sI τ3 (mc + 2) n10 r7) := frC.w hF_τ3 (by show ((mc + 2) = mc + 1) ∨ ((mc + 2) = mc + 2) ∨ ((mc + 2) = mc ∧ n10 = 6); exact Or.inr (Or.inl rfl))
          refine lv_aload_n hx hb (dkP dF_43 DX0_doPuts (i := 49) rfl rfl) rfl (lv_at hl 4 rfl) ?_
          refine z_gr C0 hw u 9 (u + 6) (fk_of (shl_nt_0 u hu) rfl) fl_X0_148 (dk2 dF_180 DX0_doPuts (i := 50) rfl rfl rfl) ?_
          refine lv_iload_n hx hb (dkP dF_29 DX0_doPuts (i := 51) rfl rfl) rfl (lv_at hl 2 rfl) ?_
          refine lv_iconst (v := 1) hx hb (dkP dF_4 DX0_doPuts (i := 52) rfl rfl) (by decide) ?_
          refine lv_iadd hx hb (dkP dF_96 DX0_doPuts (i := 53) rfl rfl) ?_
          refine z_top (y := nI (q3_30 + 1)) (by simp only [fa_lit, nI_add, pk_mul]) ?_
          refine zk_I hw (zr_V (As := [.int (nI (q3_30 + 1))]) (rest := []) C0 (c_X8_behind_n l G kc ad (sI τ3 (mc + 2) n10 r7) (u + 6) (q3_30 + 1) (ntsn u hu) (by rw [show u + 6 + 1 = u + 7 from rfl, ((rd_n (by omega)).trans ((hF_τ3.1 (u + 7) (q3_30 + 1) (by show ¬ (((u + 7) = mc + 1) ∨ ((u + 7) = mc + 2) ∨ ((u + 7) = mc ∧ (q3_30 + 1) = 6)); omega)).trans rfl))]; exact hcj) (by omega) hT11 _) cv_X8_behind lk_X0_152 (zp_V C0 hRo hw (u + 6) (shl_nt_6 u hu) rfl rfl) rfl hl.1 rfl ⟨by decide, by decide⟩ (Nat.le_of_ble_eq_true rfl) (dk2 dF_182 DX0_doPuts (i := 54) rfl rfl rfl) ⟨Nat.le_refl _, Nat.le_refl _⟩) (fun r12 s12 H locs hp hw => ?_)
          obtain ⟨f12_0, hs12⟩ := hp
          (rw [hs12] at hw)
          subst f12_0
          refine lv_istore_n (lv' := [(3, .int (nI (q3_30 + 1 + 2 + cj))), (5, .int r7), (4, .int (nI q4_30)), (0, .ref (ad mc)), (1, .ref (ad u)), (2, .int (nI cs))]) hx hb (dkP dF_62 DX0_doPuts (i := 55) rfl rfl) rfl hl (by decide) rfl (fun ls hl => ?_)
          refine lv_iinc (v := nI (q4_30 + 1)) (lv' := [(4, .int (nI (q4_30 + 1))), (3, .int (nI (q3_30 + 1 + 2 + cj))), (5, .int r7), (0, .ref (ad mc)), (1, .ref (ad u)), (2, .int (nI cs))]) hx hb (dkI DX0_doPuts (i := 56) rfl rfl rfl rfl) hl (k := 2) rfl (nI_1 _) (by decide) rfl (fun ls hl => ?_)
          refine lv_goto (tgt := 30) hx hb (dkS dF_167 DX0_doPuts (i := 57) rfl rfl rfl) (by decide) ?_
          exact ih4 (q4_30 + 1) (q3_30 + 1 + 2 + cj) (sI τ3 (mc + 2) n10 r7) _ _ _ (by omega) (by (try simp only [lg_cmp_lt, lg_cmp_le, lg_cmp_gt, lg_cmp_ge, lg_cmp_eq] at c5); (try simp (disch := omega) only [ta_lt, ta_le, ta_eq, tb_lt, tb_le, tb_eq, tw, tnI, tsub1, tsv, tsb32, tn32 1 (by decide), tnj 1 (by decide), tl32 0 (by decide), tl64 0 (by decide), tl32 1 (by decide), tl64 1 (by decide), tl32 8 (by decide), tl64 8 (by decide)] at c5); (try simp only [lg_cmp_lt, lg_cmp_le, lg_cmp_gt, lg_cmp_ge, lg_cmp_eq] at hc8); (try simp (disch := omega) only [ta_lt, ta_le, ta_eq, tb_lt, tb_le, tb_eq, tw, tnI, tsub1, tsv, tsb32, tn32 1 (by decide), tnj 1 (by decide), tl32 0 (by decide), tl64 0 (by decide), tl32 1 (by decide), tl64 1 (by decide), tl32 8 (by decide), tl64 8 (by decide)] at hc8); (try simp only [lg_cmp_lt, lg_cmp_le, lg_cmp_gt, lg_cmp_ge, lg_cmp_eq] at f12_0); (try simp (disch := omega) only [ta_lt, ta_le, ta_eq, tb_lt, tb_le, tb_eq, tw, tnI, tsub1, tsv, tsb32, tn32 1 (by decide), tnj 1 (by decide), tl32 0 (by decide), tl64 0 (by decide), tl32 1 (by decide), tl64 1 (by decide), tl32 8 (by decide), tl64 8 (by decide)] at f12_0); (try simp (disch := omega) only [ta_lt, ta_le, ta_eq, tb_lt, tb_le, tb_eq, tw, tnI, tsub1, tsv, tsb32, tn32 1 (by decide), tnj 1 (by decide), tl32 0 (by decide), tl64 0 (by decide), tl32 1 (by decide), tl64 1 (by decide), tl32 8 (by decide), tl64 8 (by decide)]); omega) (by (try simp only [lg_cmp_lt, lg_cmp_le, lg_cmp_gt, lg_cmp_ge, lg_cmp_eq] at c5); (try simp (disch := omega) only [ta_lt, ta_le, ta_eq, tb_lt, tb_le, tb_eq, tw, tnI, tsub1, tsv, tsb32, tn32 1 (by decide), tnj 1 (by decide), tl32 0 (by decide), tl64 0 (by decide), tl32 1 (by decide), tl64 1 (by decide), tl32 8 (by decide), tl64 8 (by decide)] at c5); (try simp only [lg_cmp_lt, lg_cmp_le, lg_cmp_gt, lg_cmp_ge, lg_cmp_eq] at hc8); (try simp (disch := omega) only [ta_lt, ta_le, ta_eq, tb_lt, tb_le, tb_eq, tw, tnI, tsub1, tsv, tsb32, tn32 1 (by decide), tnj 1 (by decide), tl32 0 (by decide), tl64 0 (by decide), tl32 1 (by decide), tl64 1 (by decide), tl32 8 (by decide), tl64 8 (by decide)] at hc8); (try simp only [lg_cmp_lt, lg_cmp_le, lg_cmp_gt, lg_cmp_ge, lg_cmp_eq] at f12_0); (try simp (disch := omega) only [ta_lt, ta_le, ta_eq, tb_lt, tb_le, tb_eq, tw, tnI, tsub1, tsv, tsb32, tn32 1 (by decide), tnj 1 (by decide), tl32 0 (by decide), tl64 0 (by decide), tl32 1 (by decide), tl64 1 (by decide), tl32 8 (by decide), tl64 8 (by decide)] at f12_0); (try simp (disch := omega) only [ta_lt, ta_le, ta_eq, tb_lt, tb_le, tb_eq, tw, tnI, tsub1, tsv, tsb32, tn32 1 (by decide), tnj 1 (by decide), tl32 0 (by decide), tl64 0 (by decide), tl32 1 (by decide), tl64 1 (by decide), tl32 8 (by decide), tl64 8 (by decide)]); omega) (by have e1 : k - (q4_30 + 1) = k - q4_30 - 1 := (by omega); have e2 : q3_30 + 1 + 2 + cj = q3_30 + 3 + cj := (by omega); rw [e1, e2]; exact hcn) hT11 hF11 hw (lv_sub hl [0, 1, 3, 4, 5] rfl)
        · skip
          (try simp (disch := omega) only [ta_lt, ta_le, ta_eq, tb_lt, tb_le, tb_eq, tw, tnI, tn32 1 (by decide), tnj 1 (by decide), tl32 0 (by decide), tl64 0 (by decide), tl32 1 (by decide), tl64 1 (by decide), tl32 8 (by decide), tl64 8 (by decide)] at hc8)
          refine lv_if_ne (tgt := 71) hx hb (dkS dF_154 DX0_doPuts (i := 35) rfl rfl rfl) (by decide) (fun h => absurd h (by decide)) (fun _ => ?_)
          refine lv_aload_n hx hb (dkP dF_42 DX0_doPuts (i := 36) rfl rfl) rfl (lv_at hl 3 rfl) ?_
          refine lv_iconst (v := 2) hx hb (dkP dF_5 DX0_doPuts (i := 37) rfl rfl) (by decide) ?_
          refine z_pi C0 hw mc 6 (fk_of (shl_mc_0 mc hmc) rfl) fp_X0_57 (dk2 dF_181 DX0_doPuts (i := 38) rfl rfl rfl) (fun H locs hw => ?_)
          have hT13 : TC (sI τ3 mc 6 2) := TC.w hT_τ3 (tcw_8_6 (tck_mc_0 mc hmc))
          have hF13 : frC (fun x y => (x = mc + 1) ∨ (x = mc + 2) ∨ (x = mc ∧ y = 6)) σ (sI τ3 mc 6 2) := frC.w hF_τ3 (by show (mc = mc + 1) ∨ (mc = mc + 2) ∨ (mc = mc ∧ 6 = 6); exact Or.inr (Or.inr (⟨rfl, rfl⟩)))
          exact z_vret C0 hr hlk hw (⟨hT13, hF13⟩) (dkP dF_177 DX0_doPuts (i := 39) rfl rfl)
  exact lp4 _ 0 a (sI (sCp σ (mc + 1) (mc + 2) 0 0 8) mc 6 0) _ _ _ (Nat.lt_succ_self _) (by (try simp (disch := omega) only [ta_lt, ta_le, ta_eq, tb_lt, tb_le, tb_eq, tw, tnI, tsub1, tsv, tsb32, tn32 1 (by decide), tnj 1 (by decide), tl32 0 (by decide), tl64 0 (by decide), tl32 1 (by decide), tl64 1 (by decide), tl32 2 (by decide), tl64 2 (by decide), tl32 8 (by decide), tl64 8 (by decide)]); omega) (by (try simp (disch := omega) only [ta_lt, ta_le, ta_eq, tb_lt, tb_le, tb_eq, tw, tnI, tsub1, tsv, tsb32, tn32 1 (by decide), tnj 1 (by decide), tl32 0 (by decide), tl64 0 (by decide), tl32 1 (by decide), tl64 1 (by decide), tl32 2 (by decide), tl64 2 (by decide), tl32 8 (by decide), tl64 8 (by decide)]); omega) hca hT2 hF2 hw (lv_sub hl [0, 1, 2, 3, 4] rfl)
