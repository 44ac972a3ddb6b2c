set_option maxRecDepth 100000 in
set_option maxHeartbeats 8000000 in
theorem c_X11_count (l : Launch) (G : va_G) (kc : KC) (ad : Nat → Nat) (σ : Sg) (what : Int32) (hJ : JC σ) (hT : TC σ) : MI l G kc yX11_count cX11_count 2 (some .int) 2 43 [.ref (ad 0), .int what] shC ad σ (fun r σ1 => (JC σ1) ∧ σ1 = σ) := by
  intro sz
  refine z_body (y := yX11_count) (n := 2) (av := [.ref (ad 0), .int what]) (Qc := fun A => va_Qi (fun r σ1 => (JC σ1) ∧ σ1 = σ) (PoC G kc shC ad A) A) (plainFor_of_name (by decide)) (Nat.le_of_ble_eq_true rfl) (fun pr e s m below meth c A C0 hr hlk hnm hw hRo ls hl => ?_) sz
  have hx := C0.1
  have hb := C0.2.1
  have hown := C0.2.2.2.1
  have hts := C0.2.2.2.2.1
  have hl : lv_has ls 2 [(0, .ref (ad 0)), (1, .int what)] := hl
  obtain ⟨t, u, hto, ht, hun, hu⟩ := hJ.rdr
  obtain ⟨wa, wb, hwa_, hwa, hwb_, hwb, hwab⟩ := hJ.wts
  refine lv_iload_n hx hb (dkP dF_27 DX11_count (i := 0) rfl rfl) rfl (lv_at hl 1 rfl) ?_
  by_cases hsw1 : 0 ≤ what.toInt ∧ what.toInt ≤ 10
  · obtain ⟨j1, hj1, rfl⟩ := to_nat (x := what) (n := 11) (by omega)
    match j1, hj1 with
    | 0, _ =>
      refine lv_tableIn (x := nI 0) (off := 59) (tgt := 60) hx hb (dX11_count_1) (by decide) (by decide) rfl (by decide) ?_
      refine lv_aload_n hx hb (dkP dF_42 DX11_count (i := 2) rfl rfl) rfl (lv_at hl 0 rfl) ?_
      refine z_gr C0 hw 0 0 1 (fk_of shc_0 rfl) fl_X11_10 (dk2 dF_180 DX11_count (i := 3) rfl rfl rfl) ?_
      refine zk_I hw (zr_V (As := []) (rest := []) C0 (c_X10_linesOfAll l G kc ad σ hJ hT _) cv_X10_linesOfAll lk_X11_324 (zp_V C0 hRo hw 1 shc_1 rfl rfl) rfl hl.1 rfl ⟨by decide, by decide⟩ (Nat.le_of_ble_eq_true rfl) (dk2 dF_182 DX11_count (i := 4) rfl rfl rfl) ⟨Nat.le_refl _, Nat.le_refl _⟩) (fun r2 s2 H locs hp hw => ?_)
      have hs2 := hp
      (rw [hs2] at hw)
      exact z_iret C0 hr hlk hw (⟨hJ, rfl⟩) (dkP dF_172 DX11_count (i := 5) rfl rfl)
    | 1, _ =>
      refine lv_tableIn (x := nI 1) (off := 67) (tgt := 68) hx hb (dX11_count_1) (by decide) (by decide) rfl (by decide) ?_
      refine lv_aload_n hx hb (dkP dF_42 DX11_count (i := 6) rfl rfl) rfl (lv_at hl 0 rfl) ?_
      refine z_gr C0 hw 0 0 1 (fk_of shc_0 rfl) fl_X11_10 (dk2 dF_180 DX11_count (i := 7) rfl rfl rfl) ?_
      refine zk_I hw (zr_V (As := []) (rest := []) C0 (c_X10_casesOfAll l G kc ad σ hJ hT _) cv_X10_casesOfAll lk_X11_327 (zp_V C0 hRo hw 1 shc_1 rfl rfl) rfl hl.1 rfl ⟨by decide, by decide⟩ (Nat.le_of_ble_eq_true rfl) (dk2 dF_182 DX11_count (i := 8) rfl rfl rfl) ⟨Nat.le_refl _, Nat.le_refl _⟩) (fun r3 s3 H locs hp hw => ?_)
      have hs3 := hp
      (rw [hs3] at hw)
      exact z_iret C0 hr hlk hw (⟨hJ, rfl⟩) (dkP dF_172 DX11_count (i := 9) rfl rfl)
    | 2, _ =>
      refine lv_tableIn (x := nI 2) (off := 75) (tgt := 76) hx hb (dX11_count_1) (by decide) (by decide) rfl (by decide) ?_
      refine lv_aload_n hx hb (dkP dF_42 DX11_count (i := 10) rfl rfl) rfl (lv_at hl 0 rfl) ?_
      refine z_gr C0 hw 0 0 1 (fk_of shc_0 rfl) fl_X11_10 (dk2 dF_180 DX11_count (i := 11) rfl rfl rfl) ?_
      refine lv_iconst (v := 2) hx hb (dkP dF_5 DX11_count (i := 12) rfl rfl) (by decide) ?_
      refine zk_I hw (zr_V (As := [.int 2]) (rest := []) C0 (c_X10_bitsOf l G kc ad σ 2 hT _) cv_X10_bitsOf lk_X11_276 (zp_V C0 hRo hw 1 shc_1 rfl rfl) rfl hl.1 rfl ⟨by decide, by decide⟩ (Nat.le_of_ble_eq_true rfl) (dk2 dF_182 DX11_count (i := 13) rfl rfl rfl) ⟨Nat.le_refl _, Nat.le_refl _⟩) (fun r4 s4 H locs hp hw => ?_)
      obtain ⟨f4_0, hs4⟩ := hp
      (rw [hs4] at hw)
      obtain ⟨b2, hb2, eb2⟩ := f4_0
      refine z_top (y := nI b2) eb2 ?_
      refine zn_I hw (zr_S (As := [.int (nI b2)]) (rest := []) C0 (c_J6_bitCount_0f7a4 l G kc b2 (by omega) _) cs_J6_bitCount_0f7a4 lk_X11_282 (zp_P C0 hRo hw a00 s00) rfl hl.1 rfl ⟨by decide, by decide⟩ (Nat.le_of_ble_eq_true rfl) (dk2 dF_184 DX11_count (i := 14) rfl rfl rfl) ⟨Nat.le_refl _, Nat.le_refl _⟩) (fun r5 s5 H locs hp hw => ?_)
      subst hp
      exact z_iret C0 hr hlk hw (⟨hJ, rfl⟩) (dkP dF_172 DX11_count (i := 15) rfl rfl)
    | 3, _ =>
      refine lv_tableIn (x := nI 3) (off := 87) (tgt := 88) hx hb (dX11_count_1) (by decide) (by decide) rfl (by decide) ?_
      refine lv_aload_n hx hb (dkP dF_42 DX11_count (i := 16) rfl rfl) rfl (lv_at hl 0 rfl) ?_
      refine z_gr C0 hw 0 0 1 (fk_of shc_0 rfl) fl_X11_10 (dk2 dF_180 DX11_count (i := 17) rfl rfl rfl) ?_
      refine lv_iconst (v := 4) hx hb (dkP dF_7 DX11_count (i := 18) rfl rfl) (by decide) ?_
      refine zk_I hw (zr_V (As := [.int 4]) (rest := []) C0 (c_X10_bitsOf l G kc ad σ 4 hT _) cv_X10_bitsOf lk_X11_276 (zp_V C0 hRo hw 1 shc_1 rfl rfl) rfl hl.1 rfl ⟨by decide, by decide⟩ (Nat.le_of_ble_eq_true rfl) (dk2 dF_182 DX11_count (i := 19) rfl rfl rfl) ⟨Nat.le_refl _, Nat.le_refl _⟩) (fun r6 s6 H locs hp hw => ?_)
      obtain ⟨f6_0, hs6⟩ := hp
      (rw [hs6] at hw)
      obtain ⟨b3, hb3, eb3⟩ := f6_0
      refine z_top (y := nI b3) eb3 ?_
      refine zn_I hw (zr_S (As := [.int (nI b3)]) (rest := []) C0 (c_J6_bitCount_0f7a4 l G kc b3 (by omega) _) cs_J6_bitCount_0f7a4 lk_X11_282 (zp_P C0 hRo hw a00 s00) rfl hl.1 rfl ⟨by decide, by decide⟩ (Nat.le_of_ble_eq_true rfl) (dk2 dF_184 DX11_count (i := 20) rfl rfl rfl) ⟨Nat.le_refl _, Nat.le_refl _⟩) (fun r7 s7 H locs hp hw => ?_)
      subst hp
      exact z_iret C0 hr hlk hw (⟨hJ, rfl⟩) (dkP dF_172 DX11_count (i := 21) rfl rfl)
    | 4, _ =>
      refine lv_tableIn (x := nI 4) (off := 99) (tgt := 100) hx hb (dX11_count_1) (by decide) (by decide) rfl (by decide) ?_
      refine lv_aload_n hx hb (dkP dF_42 DX11_count (i := 22) rfl rfl) rfl (lv_at hl 0 rfl) ?_
      refine z_gr C0 hw 0 0 1 (fk_of shc_0 rfl) fl_X11_10 (dk2 dF_180 DX11_count (i := 23) rfl rfl rfl) ?_
      refine lv_iconst (v := 1) hx hb (dkP dF_4 DX11_count (i := 24) rfl rfl) (by decide) ?_
      refine zk_I hw (zr_V (As := [.int 1]) (rest := []) C0 (c_X10_bitsOf l G kc ad σ 1 hT _) cv_X10_bitsOf lk_X11_276 (zp_V C0 hRo hw 1 shc_1 rfl rfl) rfl hl.1 rfl ⟨by decide, by decide⟩ (Nat.le_of_ble_eq_true rfl) (dk2 dF_182 DX11_count (i := 25) rfl rfl rfl) ⟨Nat.le_refl _, Nat.le_refl _⟩) (fun r8 s8 H locs hp hw => ?_)
      obtain ⟨f8_0, hs8⟩ := hp
      (rw [hs8] at hw)
      obtain ⟨b4, hb4, eb4⟩ := f8_0
      refine z_top (y := nI b4) eb4 ?_
      refine zn_I hw (zr_S (As := [.int (nI b4)]) (rest := []) C0 (c_J6_bitCount_0f7a4 l G kc b4 (by omega) _) cs_J6_bitCount_0f7a4 lk_X11_282 (zp_P C0 hRo hw a00 s00) rfl hl.1 rfl ⟨by decide, by decide⟩ (Nat.le_of_ble_eq_true rfl) (dk2 dF_184 DX11_count (i := 26) rfl rfl rfl) ⟨Nat.le_refl _, Nat.le_refl _⟩) (fun r9 s9 H locs hp hw => ?_)
      subst hp
      exact z_iret C0 hr hlk hw (⟨hJ, rfl⟩) (dkP dF_172 DX11_count (i := 27) rfl rfl)
    | 5, _ =>
      refine lv_tableIn (x := nI 5) (off := 111) (tgt := 112) hx hb (dX11_count_1) (by decide) (by decide) rfl (by decide) ?_
      refine lv_aload_n hx hb (dkP dF_42 DX11_count (i := 28) rfl rfl) rfl (lv_at hl 0 rfl) ?_
      refine z_gr C0 hw 0 3 186 (fk_of shc_0 rfl) fl_X11_27 (dk2 dF_180 DX11_count (i := 29) rfl rfl rfl) ?_
      refine z_gi C0 hw 186 1 (fk_of shc_186 rfl) fl_X11_81 (dk2 dF_180 DX11_count (i := 30) rfl rfl rfl) ?_
      obtain ⟨n10, hn10, en10⟩ := rngN (x := σ.1 186 1) (h := 600) (tcr_10_1 hT tcl_186)
      refine z_top (y := nI n10) en10 ?_
      exact z_iret C0 hr hlk hw (⟨hJ, rfl⟩) (dkP dF_172 DX11_count (i := 31) rfl rfl)
    | 6, _ =>
      refine lv_tableIn (x := nI 6) (off := 119) (tgt := 120) hx hb (dX11_count_1) (by decide) (by decide) rfl (by decide) ?_
      refine lv_aload_n hx hb (dkP dF_42 DX11_count (i := 32) rfl rfl) rfl (lv_at hl 0 rfl) ?_
      refine z_gr C0 hw 0 0 1 (fk_of shc_0 rfl) fl_X11_10 (dk2 dF_180 DX11_count (i := 33) rfl rfl rfl) ?_
      refine z_gi C0 hw 1 5 (fk_of shc_1 rfl) fl_X11_245 (dk2 dF_180 DX11_count (i := 34) rfl rfl rfl) ?_
      obtain ⟨v11, ev11⟩ : ∃ y : Int32, σ.1 1 5 = y := ⟨_, rfl⟩
      refine z_top (y := v11) ev11 ?_
      exact z_iret C0 hr hlk hw (⟨hJ, rfl⟩) (dkP dF_172 DX11_count (i := 35) rfl rfl)
    | 7, _ =>
      refine lv_tableIn (x := nI 7) (off := 127) (tgt := 128) hx hb (dX11_count_1) (by decide) (by decide) rfl (by decide) ?_
      refine lv_aload_n hx hb (dkP dF_42 DX11_count (i := 36) rfl rfl) rfl (lv_at hl 0 rfl) ?_
      refine z_gr C0 hw 0 0 1 (fk_of shc_0 rfl) fl_X11_10 (dk2 dF_180 DX11_count (i := 37) rfl rfl rfl) ?_
      refine z_gi C0 hw 1 6 (fk_of shc_1 rfl) fl_X11_214 (dk2 dF_180 DX11_count (i := 38) rfl rfl rfl) ?_
      obtain ⟨v12, ev12⟩ : ∃ y : Int32, σ.1 1 6 = y := ⟨_, rfl⟩
      refine z_top (y := v12) ev12 ?_
      exact z_iret C0 hr hlk hw (⟨hJ, rfl⟩) (dkP dF_172 DX11_count (i := 39) rfl rfl)
    | 8, _ =>
      refine lv_tableIn (x := nI 8) (off := 135) (tgt := 136) hx hb (dX11_count_1) (by decide) (by decide) rfl (by decide) ?_
      refine lv_aload_n hx hb (dkP dF_42 DX11_count (i := 40) rfl rfl) rfl (lv_at hl 0 rfl) ?_
      refine z_gr C0 hw 0 0 1 (fk_of shc_0 rfl) fl_X11_10 (dk2 dF_180 DX11_count (i := 41) rfl rfl rfl) ?_
      refine zk_I hw (zr_V (As := []) (rest := []) C0 (c_X10_heapsNotJudged l G kc ad σ hT _) cv_X10_heapsNotJudged lk_X11_330 (zp_V C0 hRo hw 1 shc_1 rfl rfl) rfl hl.1 rfl ⟨by decide, by decide⟩ (Nat.le_of_ble_eq_true rfl) (dk2 dF_182 DX11_count (i := 42) rfl rfl rfl) ⟨Nat.le_refl _, Nat.le_refl _⟩) (fun r13 s13 H locs hp hw => ?_)
      have hs13 := hp
      (rw [hs13] at hw)
      exact z_iret C0 hr hlk hw (⟨hJ, rfl⟩) (dkP dF_172 DX11_count (i := 43) rfl rfl)
    | 9, _ =>
      refine lv_tableIn (x := nI 9) (off := 143) (tgt := 144) hx hb (dX11_count_1) (by decide) (by decide) rfl (by decide) ?_
      refine lv_aload_n hx hb (dkP dF_42 DX11_count (i := 44) rfl rfl) rfl (lv_at hl 0 rfl) ?_
      refine z_gr C0 hw 0 7 223 (fk_of shc_0 rfl) fl_X11_51 (dk2 dF_180 DX11_count (i := 45) rfl rfl rfl) ?_
      refine zk_I hw (zr_V (As := []) (rest := []) C0 (c_X7_filled l G kc ad σ hT _) cv_X7_filled lk_X11_333 (zp_V C0 hRo hw 223 shc_223 rfl rfl) rfl hl.1 rfl ⟨by decide, by decide⟩ (Nat.le_of_ble_eq_true rfl) (dk2 dF_182 DX11_count (i := 46) rfl rfl rfl) ⟨Nat.le_refl _, Nat.le_refl _⟩) (fun r14 s14 H locs hp hw => ?_)
      have hs14 := hp
      (rw [hs14] at hw)
      exact z_iret C0 hr hlk hw (⟨hJ, rfl⟩) (dkP dF_172 DX11_count (i := 47) rfl rfl)
    | 10, _ =>
      refine lv_tableIn (x := nI 10) (off := 151) (tgt := 152) hx hb (dX11_count_1) (by decide) (by decide) rfl (by decide) ?_
      refine lv_aload_n hx hb (dkP dF_42 DX11_count (i := 48) rfl rfl) rfl (lv_at hl 0 rfl) ?_
      refine z_gr C0 hw 0 0 1 (fk_of shc_0 rfl) fl_X11_10 (dk2 dF_180 DX11_count (i := 49) rfl rfl rfl) ?_
      refine z_gr C0 hw 1 7 6 (fk_of shc_1 rfl) fl_X11_301 (dk2 dF_180 DX11_count (i := 50) rfl rfl rfl) ?_
      refine zk_I hw (zr_V (As := []) (rest := []) C0 (c_X6_lostOfAll l G kc ad σ hT _) cv_X6_lostOfAll lk_X11_336 (zp_V C0 hRo hw 6 shc_6 rfl rfl) rfl hl.1 rfl ⟨by decide, by decide⟩ (Nat.le_of_ble_eq_true rfl) (dk2 dF_182 DX11_count (i := 51) rfl rfl rfl) ⟨Nat.le_refl _, Nat.le_refl _⟩) (fun r15 s15 H locs hp hw => ?_)
      have hs15 := hp
      (rw [hs15] at hw)
      exact z_iret C0 hr hlk hw (⟨hJ, rfl⟩) (dkP dF_172 DX11_count (i := 52) rfl rfl)
    | j + 11, hj => exact absurd hj (by omega)
  · refine lv_tableOut (tgt := 163) hx hb (dX11_count_1) (by omega) (by decide) ?_
    refine lv_iconst (v := (-1)) hx hb (dkP dF_2 DX11_count (i := 53) rfl rfl) (by decide) ?_
    exact z_iret C0 hr hlk hw (⟨hJ, rfl⟩) (dkP dF_172 DX11_count (i := 54) rfl rfl)
set_option maxRecDepth 20000 in
theorem shc_184 : shC[184]? = some (5, 3, [(1, 250), (1, 433), (1, 616)]) := by rfl
set_option maxRecDepth 20000 in
theorem rks_184 : ∀ k, k < 3 → rk shC 184 k = some (5, 3, 250 + 183 * k) := by
  intro k hk
  match k, hk with
  | 0, _ => rfl
  | 1, _ => rfl
  | 2, _ => rfl
  | k + 3, hk => exact absurd hk (by omega)
set_option maxRecDepth 20000 in
theorem shw_250 : ∀ k, k < 3 → shC[250 + 183 * k]? = some (0, 10, [(1, 251 + 183 * k), (1, 252 + 183 * k), (1, 253 + 183 * k), (1, 254 + 183 * k), (0, 0), (0, 0), (0, 0), (1, 255 + 183 * k)]) := by
  intro k hk
  match k, hk with
  | 0, _ => rfl
  | 1, _ => rfl
  | 2, _ => rfl
  | k + 3, hk => exact absurd hk (by omega)
set_option maxRecDepth 20000 in
theorem shc_185 : shC[185]? = some (3, 3, []) := by rfl
theorem tcl_185 : tcL.getD 185 0 = 19 := by decide +kernel
set_option maxRecDepth 100000 in
set_option maxHeartbeats 8000000 in
theorem c_X11_keep (l : Launch) (G : va_G) (kc : KC) (ad : Nat → Nat) (σ : Sg) (ik : Int32) (hJ : JC σ) (hT : TC σ) : MI l G kc yX11_keep cX11_keep 2 (some .int) 5 111 [.ref (ad 0), .int ik] shC ad σ (fun r σ1 => (KQ ik r) ∧ (JC σ1) ∧ TC σ1 ∧ frC (fun x y => (250 ≤ x) ∨ (x = 185)) σ σ1) := by
  intro sz
  refine z_body (y := yX11_keep) (n := 2) (av := [.ref (ad 0), .int ik]) (Qc := fun A => va_Qi (fun r σ1 => (KQ ik r) ∧ (JC σ1) ∧ TC σ1 ∧ frC (fun x y => (250 ≤ x) ∨ (x = 185)) σ σ1) (PoC G kc shC ad A) A) (plainFor_of_name (by decide)) (Nat.le_of_ble_eq_true rfl) (fun pr e s m below meth c A C0 hr hlk hnm hw hRo ls hl => ?_) sz
  have hx := C0.1
  have hb := C0.2.1
  have hown := C0.2.2.2.1
  have hts := C0.2.2.2.2.1
  have hl : lv_has ls 2 [(0, .ref (ad 0)), (1, .int ik)] := hl
  obtain ⟨t, u, hto, ht, hun, hu⟩ := hJ.rdr
  obtain ⟨wa, wb, hwa_, hwa, hwb_, hwb, hwab⟩ := hJ.wts
  refine lv_iload_n hx hb (dkP dF_27 DX11_keep (i := 0) rfl rfl) rfl (lv_at hl 1 rfl) ?_
  refine lv_if_lt (tgt := 9) hx hb (dkS dF_155 DX11_keep (i := 1) rfl rfl rfl) (by decide) (fun c1 => ?_) (fun c1 => ?_)
  · (try simp (disch := omega) only [ta_lt, ta_le, ta_eq, tnI, tl32 0 (by decide)] at c1)
    refine lv_bipush (v := (-2)) hx hb (dks dF_16 DX11_keep (i := 5) rfl rfl rfl) (by decide) ?_
    exact z_iret C0 hr hlk hw (⟨(by unfold KQ; left; refine ⟨?_, rfl⟩; (try simp only [lg_cmp_lt, lg_cmp_le, lg_cmp_gt, lg_cmp_ge, lg_cmp_eq] at c1); (try simp (disch := omega) only [ta_lt, ta_le, ta_eq, tb_lt, tb_le, tb_eq, tw, tnI, tsub1, tsv, tsb32, tn32 2 (by decide), tnj 2 (by decide), tn32 1 (by decide), tnj 1 (by decide), tl32 0 (by decide), tl64 0 (by decide)] at c1); (try simp (disch := omega) only [ta_lt, ta_le, ta_eq, tb_lt, tb_le, tb_eq, tw, tnI, tsub1, tsv, tsb32, tn32 2 (by decide), tnj 2 (by decide), tn32 1 (by decide), tnj 1 (by decide), tl32 0 (by decide), tl64 0 (by decide)]); omega), hJ, hT, frC.refl⟩) (dkP dF_172 DX11_keep (i := 6) rfl rfl)
  · (try simp (disch := omega) only [ta_lt, ta_le, ta_eq, tnI, tl32 0 (by decide)] at c1)
    refine lv_iload_n hx hb (dkP dF_27 DX11_keep (i := 2) rfl rfl) rfl (lv_at hl 1 rfl) ?_
    refine lv_iconst (v := 3) hx hb (dkP dF_6 DX11_keep (i := 3) rfl rfl) (by decide) ?_
    refine lv_icmp_lt (tgt := 12) hx hb (dkS dF_161 DX11_keep (i := 4) rfl rfl rfl) (by decide) (fun c2 => ?_) (fun c2 => ?_)
    · (try simp (disch := omega) only [ta_lt, ta_le, ta_eq, tnI, tl32 3 (by decide)] at c2)
      obtain ⟨kn, hkn, rfl⟩ := to_nat (x := ik) (n := 3) (by (try simp only [lg_cmp_lt, lg_cmp_le, lg_cmp_gt, lg_cmp_ge, lg_cmp_eq] at c1); (try simp (disch := omega) only [ta_lt, ta_le, ta_eq, tb_lt, tb_le, tb_eq, tw, tnI, tsub1, tsv, tsb32, tn32 2 (by decide), tnj 2 (by decide), tn32 1 (by decide), tnj 1 (by decide), tl32 0 (by decide), tl64 0 (by decide), tl32 3 (by decide), tl64 3 (by decide)] at c1); (try simp only [lg_cmp_lt, lg_cmp_le, lg_cmp_gt, lg_cmp_ge, lg_cmp_eq] at c2); (try simp (disch := omega) only [ta_lt, ta_le, ta_eq, tb_lt, tb_le, tb_eq, tw, tnI, tsub1, tsv, tsb32, tn32 2 (by decide), tnj 2 (by decide), tn32 1 (by decide), tnj 1 (by decide), tl32 0 (by decide), tl64 0 (by decide), tl32 3 (by decide), tl64 3 (by decide)] at c2); (try simp (disch := omega) only [ta_lt, ta_le, ta_eq, tb_lt, tb_le, tb_eq, tw, tnI, tsub1, tsv, tsb32, tn32 2 (by decide), tnj 2 (by decide), tn32 1 (by decide), tnj 1 (by decide), tl32 0 (by decide), tl64 0 (by decide), tl32 3 (by decide), tl64 3 (by decide)]); omega)
      obtain ⟨o, n, p_, m_, q1, q2, q3, q4, q5, q6, q7, q8, q9⟩ := hJ.kp (w := kn) hkn
      refine lv_aload_n hx hb (dkP dF_42 DX11_keep (i := 7) rfl rfl) rfl (lv_at hl 0 rfl) ?_
      refine z_gr C0 hw 0 1 184 (fk_of shc_0 rfl) fl_X11_16 (dk2 dF_180 DX11_keep (i := 8) rfl rfl rfl) ?_
      refine lv_iload_n hx hb (dkP dF_27 DX11_keep (i := 9) rfl rfl) rfl (lv_at hl 1 rfl) ?_
      refine z_aaldN (n := 3) C0 hw 184 kn (rks_184 kn (by omega)) (by decide) (by omega) (by decide) (dkP dF_50 DX11_keep (i := 10) rfl rfl) ?_
      refine lv_aload_n hx hb (dkP dF_42 DX11_keep (i := 11) rfl rfl) rfl (lv_at hl 0 rfl) ?_
      refine z_gr C0 hw 0 0 1 (fk_of shc_0 rfl) fl_X11_10 (dk2 dF_180 DX11_keep (i := 12) rfl rfl rfl) ?_
      refine zk_V hw (zr_V (As := [.ref (ad 1)]) (rest := []) C0 (c_X10_copyFrom l G kc ad σ (250 + 183 * kn) 1 (wkm kn (by omega)) (by decide) (by omega) q1 q2 q3 q4 q5 q6 q7 q8 hT _) cv_X10_copyFrom lk_X11_339 (zp_V C0 hRo hw (250 + 183 * kn) (shw_250 kn (by omega)) rfl rfl) rfl hl.1 rfl ⟨by decide, by decide⟩ (Nat.le_of_ble_eq_true rfl) (dk2 dF_182 DX11_keep (i := 13) rfl rfl rfl) ⟨Nat.le_refl _, Nat.le_refl _⟩) (fun s3 H locs hp hw => ?_)
      obtain ⟨f3_0, f3_1, f3_2, f3_3, f3_4, f3_5, hT3, hG3⟩ := hp
      have hF3 : frC (fun x y => (250 ≤ x) ∨ (x = 185)) σ s3 := frC.t frC.refl hG3 (fun x y h => by have h : (DRG (250 + 183 * kn) x) := h; show (250 ≤ x) ∨ (x = 185); exact Or.inl (by show 250 ≤ x; unfold DRG at h; omega))
      refine lv_aload_n hx hb (dkP dF_42 DX11_keep (i := 14) rfl rfl) rfl (lv_at hl 0 rfl) ?_
      refine z_gr C0 hw 0 2 185 (fk_of shc_0 rfl) fl_X11_20 (dk2 dF_180 DX11_keep (i := 15) rfl rfl rfl) ?_
      refine lv_iload_n hx hb (dkP dF_27 DX11_keep (i := 16) rfl rfl) rfl (lv_at hl 1 rfl) ?_
      refine lv_iconst (v := 1) hx hb (dkP dF_4 DX11_keep (i := 17) rfl rfl) (by decide) ?_
      refine z_zastN (n := 3) C0 hw 185 kn (ak_of shc_185) (by decide) (by omega) (by decide) (dkP dF_84 DX11_keep (i := 18) rfl rfl) (fun H locs hw => ?_)
      have hT4 : TC (sI s3 185 kn 1) := TC.w hT3 (tcw_19 tcl_185 (by (try simp only [lg_cmp_lt, lg_cmp_le, lg_cmp_gt, lg_cmp_ge, lg_cmp_eq] at c1); (try simp (disch := omega) only [ta_lt, ta_le, ta_eq, tb_lt, tb_le, tb_eq, tw, tnI, tsub1, tsv, tsb32, tn32 2 (by decide), tnj 2 (by decide), tn32 1 (by decide), tnj 1 (by decide), tl32 0 (by decide), tl64 0 (by decide), tl32 1 (by decide), tl64 1 (by decide), tl32 3 (by decide), tl64 3 (by decide)] at c1); (try simp only [lg_cmp_lt, lg_cmp_le, lg_cmp_gt, lg_cmp_ge, lg_cmp_eq] at c2); (try simp (disch := omega) only [ta_lt, ta_le, ta_eq, tb_lt, tb_le, tb_eq, tw, tnI, tsub1, tsv, tsb32, tn32 2 (by decide), tnj 2 (by decide), tn32 1 (by decide), tnj 1 (by decide), tl32 0 (by decide), tl64 0 (by decide), tl32 1 (by decide), tl64 1 (by decide), tl32 3 (by decide), tl64 3 (by decide)] at c2); (try simp only [lg_cmp_lt, lg_cmp_le, lg_cmp_gt, lg_cmp_ge, lg_cmp_eq] at f3_0); (try simp (disch := omega) only [ta_lt, ta_le, ta_eq, tb_lt, tb_le, tb_eq, tw, tnI, tsub1, tsv, tsb32, tn32 2 (by decide), tnj 2 (by decide), tn32 1 (by decide), tnj 1 (by decide), tl32 0 (by decide), tl64 0 (by decide), tl32 1 (by decide), tl64 1 (by decide), tl32 3 (by decide), tl64 3 (by decide)] at f3_0); (try simp only [lg_cmp_lt, lg_cmp_le, lg_cmp_gt, lg_cmp_ge, lg_cmp_eq] at f3_1); (try simp (disch := omega) only [ta_lt, ta_le, ta_eq, tb_lt, tb_le, tb_eq, tw, tnI, tsub1, tsv, tsb32, tn32 2 (by decide), tnj 2 (by decide), tn32 1 (by decide), tnj 1 (by decide), tl32 0 (by decide), tl64 0 (by decide), tl32 1 (by decide), tl64 1 (by decide), tl32 3 (by decide), tl64 3 (by decide)] at f3_1); (try simp only [lg_cmp_lt, lg_cmp_le, lg_cmp_gt, lg_cmp_ge, lg_cmp_eq] at f3_2); (try simp (disch := omega) only [ta_lt, ta_le, ta_eq, tb_lt, tb_le, tb_eq, tw, tnI, tsub1, tsv, tsb32, tn32 2 (by decide), tnj 2 (by decide), tn32 1 (by decide), tnj 1 (by decide), tl32 0 (by decide), tl64 0 (by decide), tl32 1 (by decide), tl64 1 (by decide), tl32 3 (by decide), tl64 3 (by decide)] at f3_2); (try simp only [lg_cmp_lt, lg_cmp_le, lg_cmp_gt, lg_cmp_ge, lg_cmp_eq] at f3_3); (try simp (disch := omega) only [ta_lt, ta_le, ta_eq, tb_lt, tb_le, tb_eq, tw, tnI, tsub1, tsv, tsb32, tn32 2 (by decide), tnj 2 (by decide), tn32 1 (by decide), tnj 1 (by decide), tl32 0 (by decide), tl64 0 (by decide), tl32 1 (by decide), tl64 1 (by decide), tl32 3 (by decide), tl64 3 (by decide)] at f3_3); (try simp only [lg_cmp_lt, lg_cmp_le, lg_cmp_gt, lg_cmp_ge, lg_cmp_eq] at f3_4); (try simp (disch := omega) only [ta_lt, ta_le, ta_eq, tb_lt, tb_le, tb_eq, tw, tnI, tsub1, tsv, tsb32, tn32 2 (by decide), tnj 2 (by decide), tn32 1 (by decide), tnj 1 (by decide), tl32 0 (by decide), tl64 0 (by decide), tl32 1 (by decide), tl64 1 (by decide), tl32 3 (by decide), tl64 3 (by decide)] at f3_4); (try simp only [lg_cmp_lt, lg_cmp_le, lg_cmp_gt, lg_cmp_ge, lg_cmp_eq] at f3_5); (try simp (disch := omega) only [ta_lt, ta_le, ta_eq, tb_lt, tb_le, tb_eq, tw, tnI, tsub1, tsv, tsb32, tn32 2 (by decide), tnj 2 (by decide), tn32 1 (by decide), tnj 1 (by decide), tl32 0 (by decide), tl64 0 (by decide), tl32 1 (by decide), tl64 1 (by decide), tl32 3 (by decide), tl64 3 (by decide)] at f3_5); (try simp (disch := omega) only [ta_lt, ta_le, ta_eq, tb_lt, tb_le, tb_eq, tw, tnI, tsub1, tsv, tsb32, tn32 2 (by decide), tnj 2 (by decide), tn32 1 (by decide), tnj 1 (by decide), tl32 0 (by decide), tl64 0 (by decide), tl32 1 (by decide), tl64 1 (by decide), tl32 3 (by decide), tl64 3 (by decide)]); omega))
      have hF4 : frC (fun x y => (250 ≤ x) ∨ (x = 185)) σ (sI s3 185 kn 1) := frC.w hF3 (by show (250 ≤ 185) ∨ (185 = 185); exact Or.inr (rfl))
      refine lv_iconst (v := 0) hx hb (dkP dF_3 DX11_keep (i := 19) rfl rfl) (by decide) ?_
      exact z_iret C0 hr hlk hw (⟨(by unfold KQ; right; refine ⟨?_, ?_, rfl⟩ <;> ((try simp only [lg_cmp_lt, lg_cmp_le, lg_cmp_gt, lg_cmp_ge, lg_cmp_eq] at c1); (try simp (disch := omega) only [ta_lt, ta_le, ta_eq, tb_lt, tb_le, tb_eq, tw, tnI, tsub1, tsv, tsb32, tn32 2 (by decide), tnj 2 (by decide), tn32 1 (by decide), tnj 1 (by decide), tl32 0 (by decide), tl64 0 (by decide), tl32 1 (by decide), tl64 1 (by decide), tl32 3 (by decide), tl64 3 (by decide)] at c1); (try simp only [lg_cmp_lt, lg_cmp_le, lg_cmp_gt, lg_cmp_ge, lg_cmp_eq] at c2); (try simp (disch := omega) only [ta_lt, ta_le, ta_eq, tb_lt, tb_le, tb_eq, tw, tnI, tsub1, tsv, tsb32, tn32 2 (by decide), tnj 2 (by decide), tn32 1 (by decide), tnj 1 (by decide), tl32 0 (by decide), tl64 0 (by decide), tl32 1 (by decide), tl64 1 (by decide), tl32 3 (by decide), tl64 3 (by decide)] at c2); (try simp only [lg_cmp_lt, lg_cmp_le, lg_cmp_gt, lg_cmp_ge, lg_cmp_eq] at f3_0); (try simp (disch := omega) only [ta_lt, ta_le, ta_eq, tb_lt, tb_le, tb_eq, tw, tnI, tsub1, tsv, tsb32, tn32 2 (by decide), tnj 2 (by decide), tn32 1 (by decide), tnj 1 (by decide), tl32 0 (by decide), tl64 0 (by decide), tl32 1 (by decide), tl64 1 (by decide), tl32 3 (by decide), tl64 3 (by decide)] at f3_0); (try simp only [lg_cmp_lt, lg_cmp_le, lg_cmp_gt, lg_cmp_ge, lg_cmp_eq] at f3_1); (try simp (disch := omega) only [ta_lt, ta_le, ta_eq, tb_lt, tb_le, tb_eq, tw, tnI, tsub1, tsv, tsb32, tn32 2 (by decide), tnj 2 (by decide), tn32 1 (by decide), tnj 1 (by decide), tl32 0 (by decide), tl64 0 (by decide), tl32 1 (by decide), tl64 1 (by decide), tl32 3 (by decide), tl64 3 (by decide)] at f3_1); (try simp only [lg_cmp_lt, lg_cmp_le, lg_cmp_gt, lg_cmp_ge, lg_cmp_eq] at f3_2); (try simp (disch := omega) only [ta_lt, ta_le, ta_eq, tb_lt, tb_le, tb_eq, tw, tnI, tsub1, tsv, tsb32, tn32 2 (by decide), tnj 2 (by decide), tn32 1 (by decide), tnj 1 (by decide), tl32 0 (by decide), tl64 0 (by decide), tl32 1 (by decide), tl64 1 (by decide), tl32 3 (by decide), tl64 3 (by decide)] at f3_2); (try simp only [lg_cmp_lt, lg_cmp_le, lg_cmp_gt, lg_cmp_ge, lg_cmp_eq] at f3_3); (try simp (disch := omega) only [ta_lt, ta_le, ta_eq, tb_lt, tb_le, tb_eq, tw, tnI, tsub1, tsv, tsb32, tn32 2 (by decide), tnj 2 (by decide), tn32 1 (by decide), tnj 1 (by decide), tl32 0 (by decide), tl64 0 (by decide), tl32 1 (by decide), tl64 1 (by decide), tl32 3 (by decide), tl64 3 (by decide)] at f3_3); (try simp only [lg_cmp_lt, lg_cmp_le, lg_cmp_gt, lg_cmp_ge, lg_cmp_eq] at f3_4); (try simp (disch := omega) only [ta_lt, ta_le, ta_eq, tb_lt, tb_le, tb_eq, tw, tnI, tsub1, tsv, tsb32, tn32 2 (by decide), tnj 2 (by decide), tn32 1 (by decide), tnj 1 (by decide), tl32 0 (by decide), tl64 0 (by decide), tl32 1 (by decide), tl64 1 (by decide), tl32 3 (by decide), tl64 3 (by decide)] at f3_4); (try simp only [lg_cmp_lt, lg_cmp_le, lg_cmp_gt, lg_cmp_ge, lg_cmp_eq] at f3_5); (try simp (disch := omega) only [ta_lt, ta_le, ta_eq, tb_lt, tb_le, tb_eq, tw, tnI, tsub1, tsv, tsb32, tn32 2 (by decide), tnj 2 (by decide), tn32 1 (by decide), tnj 1 (by decide), tl32 0 (by decide), tl64 0 (by decide), tl32 1 (by decide), tl64 1 (by decide), tl32 3 (by decide), tl64 3 (by decide)] at f3_5); (try simp (disch := omega) only [ta_lt, ta_le, ta_eq, tb_lt, tb_le, tb_eq, tw, tnI, tsub1, tsv, tsb32, tn32 2 (by decide), tnj 2 (by decide), tn32 1 (by decide), tnj 1 (by decide), tl32 0 (by decide), tl64 0 (by decide), tl32 1 (by decide), tl64 1 (by decide), tl32 3 (by decide), tl64 3 (by decide)]); omega)), (q9 _ hF4.2 (fun i hi => (f3_0 i hi).c (fun x y hx => rd_n (Or.inl (fun e_ => by have h9 := q6 i hi x hx; rw [e_] at h9; unfold DRG at h9; omega)))) (fun k hk => ((rd_n (by have hd0_ := wkN2 (250 + 183 * kn) (wkm kn (by omega)); omega)).trans rfl).trans (f3_2 k hk)) (fun x y hj hd => ((rd_n (Or.inl (fun e_ => by rw [e_] at hj; unfold jcq at hj; omega))).trans (hG3.1 x y hd)))), hT4, hF4⟩) (dkP dF_172 DX11_keep (i := 20) rfl rfl)
    · (try simp (disch := omega) only [ta_lt, ta_le, ta_eq, tnI, tl32 3 (by decide)] at c2)
      refine lv_bipush (v := (-2)) hx hb (dks dF_16 DX11_keep (i := 5) rfl rfl rfl) (by decide) ?_
      exact z_iret C0 hr hlk hw (⟨(by unfold KQ; left; refine ⟨?_, rfl⟩; (try simp only [lg_cmp_lt, lg_cmp_le, lg_cmp_gt, lg_cmp_ge, lg_cmp_eq] at c1); (try simp (disch := omega) only [ta_lt, ta_le, ta_eq, tb_lt, tb_le, tb_eq, tw, tnI, tsub1, tsv, tsb32, tn32 2 (by decide), tnj 2 (by decide), tn32 1 (by decide), tnj 1 (by decide), tl32 0 (by decide), tl64 0 (by decide), tl32 1 (by decide), tl64 1 (by decide), tl32 3 (by decide), tl64 3 (by decide)] at c1); (try simp only [lg_cmp_lt, lg_cmp_le, lg_cmp_gt, lg_cmp_ge, lg_cmp_eq] at c2); (try simp (disch := omega) only [ta_lt, ta_le, ta_eq, tb_lt, tb_le, tb_eq, tw, tnI, tsub1, tsv, tsb32, tn32 2 (by decide), tnj 2 (by decide), tn32 1 (by decide), tnj 1 (by decide), tl32 0 (by decide), tl64 0 (by decide), tl32 1 (by decide), tl64 1 (by decide), tl32 3 (by decide), tl64 3 (by decide)] at c2); (try simp (disch := omega) only [ta_lt, ta_le, ta_eq, tb_lt, tb_le, tb_eq, tw, tnI, tsub1, tsv, tsb32, tn32 2 (by decide), tnj 2 (by decide), tn32 1 (by decide), tnj 1 (by decide), tl32 0 (by decide), tl64 0 (by decide), tl32 1 (by decide), tl64 1 (by decide), tl32 3 (by decide), tl64 3 (by decide)]); omega), hJ, hT, frC.refl⟩) (dkP dF_172 DX11_keep (i := 6) rfl rfl)
set_option maxRecDepth 100000 in
set_option maxHeartbeats 8000000 in
theorem c_X11_restore (l : Launch) (G : va_G) (kc : KC) (ad : Nat → Nat) (σ : Sg) (ik : Int32) (hJ : JC σ) (hT : TC σ) : MI l G kc yX11_restore cX11_restore 2 (some .int) 5 111 [.ref (ad 0), .int ik] shC ad σ (fun r σ1 => (JC σ1) ∧ TC σ1 ∧ frC (fun x y => ((1 ≤ x ∧ x < 184) ∨ (192 ≤ x ∧ x < 210))) σ σ1) := by
  intro sz
  refine z_body (y := yX11_restore) (n := 2) (av := [.ref (ad 0), .int ik]) (Qc := fun A => va_Qi (fun r σ1 => (JC σ1) ∧ TC σ1 ∧ frC (fun x y => ((1 ≤ x ∧ x < 184) ∨ (192 ≤ x ∧ x < 210))) σ σ1) (PoC G kc shC ad A) A) (plainFor_of_name (by decide)) (Nat.le_of_ble_eq_true rfl) (fun pr e s m below meth c A C0 hr hlk hnm hw hRo ls hl => ?_) sz
  have hx := C0.1
  have hb := C0.2.1
  have hown := C0.2.2.2.1
  have hts := C0.2.2.2.2.1
  have hl : lv_has ls 2 [(0, .ref (ad 0)), (1, .int ik)] := hl
  obtain ⟨t, u, hto, ht, hun, hu⟩ := hJ.rdr
  obtain ⟨wa, wb, hwa_, hwa, hwb_, hwb, hwab⟩ := hJ.wts
  refine lv_iload_n hx hb (dkP dF_27 DX11_restore (i := 0) rfl rfl) rfl (lv_at hl 1 rfl) ?_
  refine lv_if_lt (tgt := 9) hx hb (dkS dF_155 DX11_restore (i := 1) rfl rfl rfl) (by decide) (fun c1 => ?_) (fun c1 => ?_)
  · (try simp (disch := omega) only [ta_lt, ta_le, ta_eq, tnI, tl32 0 (by decide)] at c1)
    refine lv_bipush (v := (-2)) hx hb (dks dF_16 DX11_restore (i := 5) rfl rfl rfl) (by decide) ?_
    exact z_iret C0 hr hlk hw (⟨hJ, hT, frC.refl⟩) (dkP dF_172 DX11_restore (i := 6) rfl rfl)
  · (try simp (disch := omega) only [ta_lt, ta_le, ta_eq, tnI, tl32 0 (by decide)] at c1)
    refine lv_iload_n hx hb (dkP dF_27 DX11_restore (i := 2) rfl rfl) rfl (lv_at hl 1 rfl) ?_
    refine lv_iconst (v := 3) hx hb (dkP dF_6 DX11_restore (i := 3) rfl rfl) (by decide) ?_
    refine lv_icmp_lt (tgt := 12) hx hb (dkS dF_161 DX11_restore (i := 4) rfl rfl rfl) (by decide) (fun c2 => ?_) (fun c2 => ?_)
    · (try simp (disch := omega) only [ta_lt, ta_le, ta_eq, tnI, tl32 3 (by decide)] at c2)
      obtain ⟨kn, hkn, rfl⟩ := to_nat (x := ik) (n := 3) (by (try simp only [lg_cmp_lt, lg_cmp_le, lg_cmp_gt, lg_cmp_ge, lg_cmp_eq] at c1); (try simp (disch := omega) only [ta_lt, ta_le, ta_eq, tb_lt, tb_le, tb_eq, tw, tnI, tsub1, tsv, tsb32, tn32 2 (by decide), tnj 2 (by decide), tn32 1 (by decide), tnj 1 (by decide), tl32 0 (by decide), tl64 0 (by decide), tl32 3 (by decide), tl64 3 (by decide)] at c1); (try simp only [lg_cmp_lt, lg_cmp_le, lg_cmp_gt, lg_cmp_ge, lg_cmp_eq] at c2); (try simp (disch := omega) only [ta_lt, ta_le, ta_eq, tb_lt, tb_le, tb_eq, tw, tnI, tsub1, tsv, tsb32, tn32 2 (by decide), tnj 2 (by decide), tn32 1 (by decide), tnj 1 (by decide), tl32 0 (by decide), tl64 0 (by decide), tl32 3 (by decide), tl64 3 (by decide)] at c2); (try simp (disch := omega) only [ta_lt, ta_le, ta_eq, tb_lt, tb_le, tb_eq, tw, tnI, tsub1, tsv, tsb32, tn32 2 (by decide), tnj 2 (by decide), tn32 1 (by decide), tnj 1 (by decide), tl32 0 (by decide), tl64 0 (by decide), tl32 3 (by decide), tl64 3 (by decide)]); omega)
      obtain ⟨o, n, p_, m_, q1, q2, q3, q4, q5, q6, q7, q8, q9⟩ := hJ.rs (w := kn) hkn
      refine lv_aload_n hx hb (dkP dF_42 DX11_restore (i := 7) rfl rfl) rfl (lv_at hl 0 rfl) ?_
      refine z_gr C0 hw 0 2 185 (fk_of shc_0 rfl) fl_X11_20 (dk2 dF_180 DX11_restore (i := 8) rfl rfl rfl) ?_
      refine lv_iload_n hx hb (dkP dF_27 DX11_restore (i := 9) rfl rfl) rfl (lv_at hl 1 rfl) ?_
      refine z_zaldN (n := 3) C0 hw 185 kn (ak_of shc_185) (by omega) (by decide) (dkP dF_51 DX11_restore (i := 10) rfl rfl) ?_
      obtain ⟨n3, hn3, en3⟩ := rngN (x := σ.1 185 kn) (h := 1) (tcr_19 hT tcl_185)
      refine z_top (y := nI n3) en3 ?_
      refine lv_if_ne (tgt := 24) hx hb (dkS dF_154 DX11_restore (i := 11) rfl rfl rfl) (by decide) (fun c4 => ?_) (fun c4 => ?_)
      · simp (disch := omega) only [ta_lt, ta_le, ta_eq, tnI, tl32 0 (by decide)] at c4
        refine lv_aload_n hx hb (dkP dF_42 DX11_restore (i := 14) rfl rfl) rfl (lv_at hl 0 rfl) ?_
        refine z_gr C0 hw 0 0 1 (fk_of shc_0 rfl) fl_X11_10 (dk2 dF_180 DX11_restore (i := 15) rfl rfl rfl) ?_
        refine lv_aload_n hx hb (dkP dF_42 DX11_restore (i := 16) rfl rfl) rfl (lv_at hl 0 rfl) ?_
        refine z_gr C0 hw 0 1 184 (fk_of shc_0 rfl) fl_X11_16 (dk2 dF_180 DX11_restore (i := 17) rfl rfl rfl) ?_
        refine lv_iload_n hx hb (dkP dF_27 DX11_restore (i := 18) rfl rfl) rfl (lv_at hl 1 rfl) ?_
        refine z_aaldN (n := 3) C0 hw 184 kn (rks_184 kn (by omega)) (by decide) (by omega) (by decide) (dkP dF_50 DX11_restore (i := 19) rfl rfl) ?_
        refine zk_V hw (zr_V (As := [.ref (ad (250 + 183 * kn))]) (rest := []) C0 (c_X10_copyFrom l G kc ad σ 1 (250 + 183 * kn) (by decide) (wkm kn (by omega)) (by omega) q1 q2 q3 q4 q5 q6 q7 q8 hT _) cv_X10_copyFrom lk_X11_339 (zp_V C0 hRo hw 1 shc_1 rfl rfl) rfl hl.1 rfl ⟨by decide, by decide⟩ (Nat.le_of_ble_eq_true rfl) (dk2 dF_182 DX11_restore (i := 20) rfl rfl rfl) ⟨Nat.le_refl _, Nat.le_refl _⟩) (fun s5 H locs hp hw => ?_)
        obtain ⟨f5_0, f5_1, f5_2, f5_3, f5_4, f5_5, hT5, hG5⟩ := hp
        have hF5 : frC (fun x y => ((1 ≤ x ∧ x < 184) ∨ (192 ≤ x ∧ x < 210))) σ s5 := frC.t frC.refl hG5 (fun x y h => by have h : (DRG 1 x) := h; show ((1 ≤ x ∧ x < 184) ∨ (192 ≤ x ∧ x < 210)); exact (by show (1 ≤ x ∧ x < 184) ∨ (192 ≤ x ∧ x < 210); unfold DRG at h; omega))
        refine lv_iconst (v := 0) hx hb (dkP dF_3 DX11_restore (i := 21) rfl rfl) (by decide) ?_
        exact z_iret C0 hr hlk hw (⟨(q9 _ hF5.2 f5_0 f5_2 (fun x y hj hd => hG5.1 x y hd)), hT5, hF5⟩) (dkP dF_172 DX11_restore (i := 22) rfl rfl)
      · simp (disch := omega) only [ta_lt, ta_le, ta_eq, tnI, tl32 0 (by decide)] at c4
        refine lv_bipush (v := (-6)) hx hb (dks dF_16 DX11_restore (i := 12) rfl rfl rfl) (by decide) ?_
        exact z_iret C0 hr hlk hw (⟨hJ, hT, frC.refl⟩) (dkP dF_172 DX11_restore (i := 13) rfl rfl)
    · (try simp (disch := omega) only [ta_lt, ta_le, ta_eq, tnI, tl32 3 (by decide)] at c2)
      refine lv_bipush (v := (-2)) hx hb (dks dF_16 DX11_restore (i := 5) rfl rfl rfl) (by decide) ?_
      exact z_iret C0 hr hlk hw (⟨hJ, hT, frC.refl⟩) (dkP dF_172 DX11_restore (i := 6) rfl rfl)
