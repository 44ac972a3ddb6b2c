set_option maxRecDepth 100000 in
set_option maxHeartbeats 8000000 in
theorem c_X12_readAct (l : Launch) (G : va_G) (kc : KC) (ad : Nat → Nat) (σ : Sg) (k : Nat) (hk16 : k % 16 = 0) (hk : k ≤ 368) (hT : TM σ) : MV l G kc yX12_readAct cX12_readAct 2 7 151 [.ref (ad 0), .int (nI k)] shM ad σ (fun σ1 => TM σ1 ∧ fr true [6, 7] [8, 9, 10, 11, 12, 13] σ σ1) := by
  intro sz
  refine z_body (y := yX12_readAct) (n := 2) (av := [.ref (ad 0), .int (nI k)]) (Qc := fun A => va_Qv (fun σ1 => TM σ1 ∧ fr true [6, 7] [8, 9, 10, 11, 12, 13] σ σ1) (PoC G kc shM ad A) A) (plainFor_of_name (by decide)) (Nat.le_of_ble_eq_true rfl) (fun pr e s m below meth c A C0 hr hlk hnm hw hRo ls hl => ?_) sz
  have hx := C0.1
  have hb := C0.2.1
  have hown := C0.2.2.2.1
  have hts := C0.2.2.2.2.1
  have hl : lv_has ls 2 [(0, .ref (ad 0)), (1, .int (nI k))] := hl
  refine lv_aload_n hx hb (dkP dF_42 DX12_readAct (i := 0) rfl rfl) rfl (lv_at hl 0 rfl) ?_
  refine va_ldcS hx hb hown (C0.2.2.2.2.2.2.2.2.2 0 (250, "set") rfl) (dk1 dF_18 DX12_readAct (i := 1) rfl rfl rfl) ?_
  refine zk_I hw (zr_V (As := [.ref (kc.2.1 0)]) (rest := []) C0 (c_X12_takes l G kc ad σ 0 (by first | omega | assumption | decide | rfl) hT _) cv_X12_takes lk_X12_211 (zp_V C0 hRo hw 0 rfl rfl rfl) rfl hl.1 rfl ⟨by decide, by decide⟩ (Nat.le_of_ble_eq_true rfl) (dk2 dF_182 DX12_readAct (i := 2) rfl rfl rfl) ⟨Nat.le_refl _, Nat.le_refl _⟩) (fun r1 s1 H locs hp hw => ?_)
  obtain ⟨f1_0, hT1, hG1⟩ := hp
  have hF1 : fr true [6, 7] [8, 9, 10, 11, 12, 13] σ s1 := fr.t fr.refl hG1 (by decide) (by decide) (by decide)
  rcases f1_0 with ⟨rfl, hc1⟩ | ⟨rfl, hc1⟩
  · skip
    refine lv_if_eq (tgt := 61) hx hb (dkS dF_153 DX12_readAct (i := 3) rfl rfl rfl) (by decide) (fun h => absurd h (by decide)) (fun _ => ?_)
    refine lv_aload_n hx hb (dkP dF_42 DX12_readAct (i := 4) rfl rfl) rfl (lv_at hl 0 rfl) ?_
    refine z_gr C0 hw 0 15 7 rfl fl_X12_45 (dk2 dF_180 DX12_readAct (i := 5) rfl rfl rfl) ?_
    refine lv_iload_n hx hb (dkP dF_27 DX12_readAct (i := 6) rfl rfl) rfl (lv_at hl 1 rfl) ?_
    refine lv_iconst (v := 1) hx hb (dkP dF_4 DX12_readAct (i := 7) rfl rfl) (by decide) ?_
    refine lv_iadd hx hb (dkP dF_96 DX12_readAct (i := 8) rfl rfl) ?_
    refine z_top (y := nI (k + 1)) (by simp only [fa_lit, nI_add, pk_mul]) ?_
    refine lv_iconst (v := 0) hx hb (dkP dF_3 DX12_readAct (i := 9) rfl rfl) (by decide) ?_
    refine z_iastN (n := 384) C0 hw 7 (k + 1) rfl (by omega) (by decide) (dkP dF_79 DX12_readAct (i := 10) rfl rfl) (fun H locs hw => ?_)
    have hT2 : TM (sI s1 7 (k + 1) 0) := TM.w hT1 (by simp only [tyM, wTy]; (repeat' split) <;> first | trivial | omega | (simp (disch := omega) only [tnI, tn32 1 (by decide), tl32 0 (by decide), tl32 1 (by decide)]; omega))
    have hF2 : fr true [6, 7] [8, 9, 10, 11, 12, 13] σ (sI s1 7 (k + 1) 0) := fr.w hF1 (Or.inl ⟨by decide, by decide⟩) (fun _ h => absurd h (by decide))
    refine lv_aload_n hx hb (dkP dF_42 DX12_readAct (i := 11) rfl rfl) rfl (lv_at hl 0 rfl) ?_
    refine z_gr C0 hw 0 15 7 rfl fl_X12_45 (dk2 dF_180 DX12_readAct (i := 12) rfl rfl rfl) ?_
    refine lv_iload_n hx hb (dkP dF_27 DX12_readAct (i := 13) rfl rfl) rfl (lv_at hl 1 rfl) ?_
    refine lv_iconst (v := 2) hx hb (dkP dF_5 DX12_readAct (i := 14) rfl rfl) (by decide) ?_
    refine lv_iadd hx hb (dkP dF_96 DX12_readAct (i := 15) rfl rfl) ?_
    refine z_top (y := nI (k + 2)) (by simp only [fa_lit, nI_add, pk_mul]) ?_
    refine lv_aload_n hx hb (dkP dF_42 DX12_readAct (i := 16) rfl rfl) rfl (lv_at hl 0 rfl) ?_
    refine zk_I hw (zr_V (As := []) (rest := [.int (nI (k + 2)), .ref (ad 7)]) C0 (c_X12_fieldThere l G kc ad (sI s1 7 (k + 1) 0) hT2 _) cv_X12_fieldThere lk_X12_235 (zp_V C0 hRo hw 0 rfl rfl rfl) rfl hl.1 rfl ⟨by decide, by decide⟩ (Nat.le_of_ble_eq_true rfl) (dk2 dF_182 DX12_readAct (i := 17) rfl rfl rfl) ⟨Nat.le_refl _, Nat.le_refl _⟩) (fun r3 s3 H locs hp hw => ?_)
    obtain ⟨f3_0, hT3, hG3⟩ := hp
    have hF3 : fr true [6, 7] [8, 9, 10, 11, 12, 13] σ s3 := fr.t hF2 hG3 (by decide) (by decide) (by decide)
    obtain ⟨n3, hn3, rfl⟩ := rngN (h := 7) f3_0
    refine z_iastN (n := 384) C0 hw 7 (k + 2) rfl (by omega) (by decide) (dkP dF_79 DX12_readAct (i := 18) rfl rfl) (fun H locs hw => ?_)
    have hT4 : TM (sI s3 7 (k + 2) (nI n3)) := TM.w hT3 (by simp only [tyM, wTy]; (repeat' split) <;> first | trivial | omega | (simp (disch := omega) only [tnI, tn32 1 (by decide), tl32 0 (by decide), tl32 1 (by decide), tl32 2 (by decide)]; omega))
    have hF4 : fr true [6, 7] [8, 9, 10, 11, 12, 13] σ (sI s3 7 (k + 2) (nI n3)) := fr.w hF3 (Or.inl ⟨by decide, by decide⟩) (fun _ h => absurd h (by decide))
    refine lv_aload_n hx hb (dkP dF_42 DX12_readAct (i := 19) rfl rfl) rfl (lv_at hl 0 rfl) ?_
    refine lv_bipush (v := 61) hx hb (dks dF_16 DX12_readAct (i := 20) rfl rfl rfl) (by decide) ?_
    refine zk_V hw (zr_V (As := [.int 61]) (rest := []) C0 (c_X12_needsSign l G kc ad (sI s3 7 (k + 2) (nI n3)) 61 hT4 _) cv_X12_needsSign lk_X12_244 (zp_V C0 hRo hw 0 rfl rfl rfl) rfl hl.1 rfl ⟨by decide, by decide⟩ (Nat.le_of_ble_eq_true rfl) (dk2 dF_182 DX12_readAct (i := 21) rfl rfl rfl) ⟨Nat.le_refl _, Nat.le_refl _⟩) (fun s5 H locs hp hw => ?_)
    obtain ⟨hT5, hG5⟩ := hp
    have hF5 : fr true [6, 7] [8, 9, 10, 11, 12, 13] σ s5 := fr.t hF4 hG5 (by decide) (by decide) (by decide)
    refine lv_aload_n hx hb (dkP dF_42 DX12_readAct (i := 22) rfl rfl) rfl (lv_at hl 0 rfl) ?_
    refine zk_V hw (zr_V (As := []) (rest := []) C0 (c_X12_readSum l G kc ad s5 hT5 _) cv_X12_readSum lk_X12_252 (zp_V C0 hRo hw 0 rfl rfl rfl) rfl hl.1 rfl ⟨by decide, by decide⟩ (Nat.le_of_ble_eq_true rfl) (dk2 dF_182 DX12_readAct (i := 23) rfl rfl rfl) ⟨Nat.le_refl _, Nat.le_refl _⟩) (fun s6 H locs hp hw => ?_)
    obtain ⟨hT6, hG6⟩ := hp
    have hF6 : fr true [6, 7] [8, 9, 10, 11, 12, 13] σ s6 := fr.t hF5 hG6 (by decide) (by decide) (by decide)
    refine lv_aload_n hx hb (dkP dF_42 DX12_readAct (i := 24) rfl rfl) rfl (lv_at hl 0 rfl) ?_
    refine z_gr C0 hw 0 14 6 rfl fl_X12_42 (dk2 dF_180 DX12_readAct (i := 25) rfl rfl rfl) ?_
    refine lv_iconst (v := 0) hx hb (dkP dF_3 DX12_readAct (i := 26) rfl rfl) (by decide) ?_
    refine lv_aload_n hx hb (dkP dF_42 DX12_readAct (i := 27) rfl rfl) rfl (lv_at hl 0 rfl) ?_
    refine z_gr C0 hw 0 15 7 rfl fl_X12_45 (dk2 dF_180 DX12_readAct (i := 28) rfl rfl rfl) ?_
    refine lv_iload_n hx hb (dkP dF_27 DX12_readAct (i := 29) rfl rfl) rfl (lv_at hl 1 rfl) ?_
    refine lv_bipush (v := 6) hx hb (dks dF_16 DX12_readAct (i := 30) rfl rfl rfl) (by decide) ?_
    refine lv_iadd hx hb (dkP dF_96 DX12_readAct (i := 31) rfl rfl) ?_
    refine z_top (y := nI (k + 6)) (by simp only [fa_lit, nI_add, pk_mul]) ?_
    refine lv_bipush (v := 9) hx hb (dks dF_16 DX12_readAct (i := 32) rfl rfl rfl) (by decide) ?_
    refine zk_V hw (zr_S (As := [.ref (ad 6), .int 0, .ref (ad 7), .int (nI (k + 6)), .int 9]) (rest := []) C0 (c_X12_lays_6_7 l G kc ad s6 0 (k + 6) 9 (by omega) (by omega) (fun i hi v _ => ty_fl (by omega)) hT6 _) cs_X12_lays lk_X12_255 (zp_S C0 hRo hw) rfl hl.1 rfl ⟨by decide, by decide⟩ (Nat.le_of_ble_eq_true rfl) (dk2 dF_184 DX12_readAct (i := 33) rfl rfl rfl) ⟨Nat.le_refl _, Nat.le_refl _⟩) (fun s7 H locs hp hw => ?_)
    obtain ⟨f7_0, hT7, hG7⟩ := hp
    have hF7 : fr true [6, 7] [8, 9, 10, 11, 12, 13] σ s7 := fr.t hF6 hG7 (by decide) (by decide) (by decide)
    refine lv_goto (tgt := 200) hx hb (dkS dF_167 DX12_readAct (i := 34) rfl rfl rfl) (by decide) ?_
    exact z_vret C0 hr hlk hw (⟨hT7, hF7⟩) (dkP dF_177 DX12_readAct (i := 118) rfl rfl)
  · skip
    refine lv_if_eq (tgt := 61) hx hb (dkS dF_153 DX12_readAct (i := 3) rfl rfl rfl) (by decide) (fun _ => ?_) (fun h => absurd h (by decide))
    refine lv_aload_n hx hb (dkP dF_42 DX12_readAct (i := 35) rfl rfl) rfl (lv_at hl 0 rfl) ?_
    refine va_ldcSW hx hb hown (C0.2.2.2.2.2.2.2.2.2 1 (259, "if") rfl) (dk2 dF_19 DX12_readAct (i := 36) rfl rfl rfl) ?_
    refine zk_I hw (zr_V (As := [.ref (kc.2.1 1)]) (rest := []) C0 (c_X12_takes l G kc ad s1 1 (by first | omega | assumption | decide | rfl) hT1 _) cv_X12_takes lk_X12_211 (zp_V C0 hRo hw 0 rfl rfl rfl) rfl hl.1 rfl ⟨by decide, by decide⟩ (Nat.le_of_ble_eq_true rfl) (dk2 dF_182 DX12_readAct (i := 37) rfl rfl rfl) ⟨Nat.le_refl _, Nat.le_refl _⟩) (fun r8 s8 H locs hp hw => ?_)
    obtain ⟨f8_0, hT8, hG8⟩ := hp
    have hF8 : fr true [6, 7] [8, 9, 10, 11, 12, 13] σ s8 := fr.t hF1 hG8 (by decide) (by decide) (by decide)
    rcases f8_0 with ⟨rfl, hc8⟩ | ⟨rfl, hc8⟩
    · skip
      refine lv_if_eq (tgt := 146) hx hb (dkS dF_153 DX12_readAct (i := 38) rfl rfl rfl) (by decide) (fun h => absurd h (by decide)) (fun _ => ?_)
      refine lv_aload_n hx hb (dkP dF_42 DX12_readAct (i := 39) rfl rfl) rfl (lv_at hl 0 rfl) ?_
      refine z_gr C0 hw 0 15 7 rfl fl_X12_45 (dk2 dF_180 DX12_readAct (i := 40) rfl rfl rfl) ?_
      refine lv_iload_n hx hb (dkP dF_27 DX12_readAct (i := 41) rfl rfl) rfl (lv_at hl 1 rfl) ?_
      refine lv_iconst (v := 1) hx hb (dkP dF_4 DX12_readAct (i := 42) rfl rfl) (by decide) ?_
      refine lv_iadd hx hb (dkP dF_96 DX12_readAct (i := 43) rfl rfl) ?_
      refine z_top (y := nI (k + 1)) (by simp only [fa_lit, nI_add, pk_mul]) ?_
      refine lv_iconst (v := 1) hx hb (dkP dF_4 DX12_readAct (i := 44) rfl rfl) (by decide) ?_
      refine z_iastN (n := 384) C0 hw 7 (k + 1) rfl (by omega) (by decide) (dkP dF_79 DX12_readAct (i := 45) rfl rfl) (fun H locs hw => ?_)
      have hT9 : TM (sI s8 7 (k + 1) 1) := TM.w hT8 (by simp only [tyM, wTy]; (repeat' split) <;> first | trivial | omega | (simp (disch := omega) only [tnI, tn32 1 (by decide), tl32 0 (by decide), tl32 1 (by decide), tl32 2 (by decide), tl32 6 (by decide), tl32 9 (by decide), tl32 61 (by decide)]; omega))
      have hF9 : fr true [6, 7] [8, 9, 10, 11, 12, 13] σ (sI s8 7 (k + 1) 1) := fr.w hF8 (Or.inl ⟨by decide, by decide⟩) (fun _ h => absurd h (by decide))
      refine lv_aload_n hx hb (dkP dF_42 DX12_readAct (i := 46) rfl rfl) rfl (lv_at hl 0 rfl) ?_
      refine z_gr C0 hw 0 15 7 rfl fl_X12_45 (dk2 dF_180 DX12_readAct (i := 47) rfl rfl rfl) ?_
      refine lv_iload_n hx hb (dkP dF_27 DX12_readAct (i := 48) rfl rfl) rfl (lv_at hl 1 rfl) ?_
      refine lv_iconst (v := 2) hx hb (dkP dF_5 DX12_readAct (i := 49) rfl rfl) (by decide) ?_
      refine lv_iadd hx hb (dkP dF_96 DX12_readAct (i := 50) rfl rfl) ?_
      refine z_top (y := nI (k + 2)) (by simp only [fa_lit, nI_add, pk_mul]) ?_
      refine lv_aload_n hx hb (dkP dF_42 DX12_readAct (i := 51) rfl rfl) rfl (lv_at hl 0 rfl) ?_
      refine zk_I hw (zr_V (As := []) (rest := [.int (nI (k + 2)), .ref (ad 7)]) C0 (c_X12_fieldThere l G kc ad (sI s8 7 (k + 1) 1) hT9 _) cv_X12_fieldThere lk_X12_235 (zp_V C0 hRo hw 0 rfl rfl rfl) rfl hl.1 rfl ⟨by decide, by decide⟩ (Nat.le_of_ble_eq_true rfl) (dk2 dF_182 DX12_readAct (i := 52) rfl rfl rfl) ⟨Nat.le_refl _, Nat.le_refl _⟩) (fun r10 s10 H locs hp hw => ?_)
      obtain ⟨f10_0, hT10, hG10⟩ := hp
      have hF10 : fr true [6, 7] [8, 9, 10, 11, 12, 13] σ s10 := fr.t hF9 hG10 (by decide) (by decide) (by decide)
      obtain ⟨n10, hn10, rfl⟩ := rngN (h := 7) f10_0
      refine z_iastN (n := 384) C0 hw 7 (k + 2) rfl (by omega) (by decide) (dkP dF_79 DX12_readAct (i := 53) rfl rfl) (fun H locs hw => ?_)
      have hT11 : TM (sI s10 7 (k + 2) (nI n10)) := TM.w hT10 (by simp only [tyM, wTy]; (repeat' split) <;> first | trivial | omega | (simp (disch := omega) only [tnI, tn32 1 (by decide), tl32 0 (by decide), tl32 1 (by decide), tl32 2 (by decide), tl32 6 (by decide), tl32 9 (by decide), tl32 61 (by decide)]; omega))
      have hF11 : fr true [6, 7] [8, 9, 10, 11, 12, 13] σ (sI s10 7 (k + 2) (nI n10)) := fr.w hF10 (Or.inl ⟨by decide, by decide⟩) (fun _ h => absurd h (by decide))
      refine lv_aload_n hx hb (dkP dF_42 DX12_readAct (i := 54) rfl rfl) rfl (lv_at hl 0 rfl) ?_
      refine z_gr C0 hw 0 15 7 rfl fl_X12_45 (dk2 dF_180 DX12_readAct (i := 55) rfl rfl rfl) ?_
      refine lv_iload_n hx hb (dkP dF_27 DX12_readAct (i := 56) rfl rfl) rfl (lv_at hl 1 rfl) ?_
      refine lv_iconst (v := 3) hx hb (dkP dF_6 DX12_readAct (i := 57) rfl rfl) (by decide) ?_
      refine lv_iadd hx hb (dkP dF_96 DX12_readAct (i := 58) rfl rfl) ?_
      refine z_top (y := nI (k + 3)) (by simp only [fa_lit, nI_add, pk_mul]) ?_
      refine lv_aload_n hx hb (dkP dF_42 DX12_readAct (i := 59) rfl rfl) rfl (lv_at hl 0 rfl) ?_
      refine zk_I hw (zr_V (As := []) (rest := [.int (nI (k + 3)), .ref (ad 7)]) C0 (c_X12_compared l G kc ad (sI s10 7 (k + 2) (nI n10)) hT11 _) cv_X12_compared lk_X12_261 (zp_V C0 hRo hw 0 rfl rfl rfl) rfl hl.1 rfl ⟨by decide, by decide⟩ (Nat.le_of_ble_eq_true rfl) (dk2 dF_182 DX12_readAct (i := 60) rfl rfl rfl) ⟨Nat.le_refl _, Nat.le_refl _⟩) (fun r12 s12 H locs hp hw => ?_)
      obtain ⟨hT12, hG12⟩ := hp
      have hF12 : fr true [6, 7] [8, 9, 10, 11, 12, 13] σ s12 := fr.t hF11 hG12 (by decide) (by decide) (by decide)
      refine z_iastN (n := 384) C0 hw 7 (k + 3) rfl (by omega) (by decide) (dkP dF_79 DX12_readAct (i := 61) rfl rfl) (fun H locs hw => ?_)
      have hT13 : TM (sI s12 7 (k + 3) r12) := TM.w hT12 (by simp only [tyM, wTy]; (repeat' split) <;> first | trivial | omega | (simp (disch := omega) only [tnI, tn32 1 (by decide), tl32 0 (by decide), tl32 1 (by decide), tl32 2 (by decide), tl32 3 (by decide), tl32 6 (by decide), tl32 9 (by decide), tl32 61 (by decide)]; omega))
      have hF13 : fr true [6, 7] [8, 9, 10, 11, 12, 13] σ (sI s12 7 (k + 3) r12) := fr.w hF12 (Or.inl ⟨by decide, by decide⟩) (fun _ h => absurd h (by decide))
      refine lv_aload_n hx hb (dkP dF_42 DX12_readAct (i := 62) rfl rfl) rfl (lv_at hl 0 rfl) ?_
      refine z_gr C0 hw 0 15 7 rfl fl_X12_45 (dk2 dF_180 DX12_readAct (i := 63) rfl rfl rfl) ?_
      refine lv_iload_n hx hb (dkP dF_27 DX12_readAct (i := 64) rfl rfl) rfl (lv_at hl 1 rfl) ?_
      refine lv_iconst (v := 4) hx hb (dkP dF_7 DX12_readAct (i := 65) rfl rfl) (by decide) ?_
      refine lv_iadd hx hb (dkP dF_96 DX12_readAct (i := 66) rfl rfl) ?_
      refine z_top (y := nI (k + 4)) (by simp only [fa_lit, nI_add, pk_mul]) ?_
      refine lv_aload_n hx hb (dkP dF_42 DX12_readAct (i := 67) rfl rfl) rfl (lv_at hl 0 rfl) ?_
      refine lv_iconst (v := 0) hx hb (dkP dF_3 DX12_readAct (i := 68) rfl rfl) (by decide) ?_
      refine lv_sipush (v := 9999) hx hb (dkS dF_17 DX12_readAct (i := 69) rfl rfl rfl) (by decide) ?_
      refine zk_I hw (zr_V (As := [.int 0, .int 9999]) (rest := [.int (nI (k + 4)), .ref (ad 7)]) C0 (c_X12_number l G kc ad (sI s12 7 (k + 3) r12) 0 9999 hT13 _) cv_X12_number lk_X12_232 (zp_V C0 hRo hw 0 rfl rfl rfl) rfl hl.1 rfl ⟨by decide, by decide⟩ (Nat.le_of_ble_eq_true rfl) (dk2 dF_182 DX12_readAct (i := 70) rfl rfl rfl) ⟨Nat.le_refl _, Nat.le_refl _⟩) (fun r14 s14 H locs hp hw => ?_)
      obtain ⟨hT14, hG14⟩ := hp
      have hF14 : fr true [6, 7] [8, 9, 10, 11, 12, 13] σ s14 := fr.t hF13 hG14 (by decide) (by decide) (by decide)
      refine z_iastN (n := 384) C0 hw 7 (k + 4) rfl (by omega) (by decide) (dkP dF_79 DX12_readAct (i := 71) rfl rfl) (fun H locs hw => ?_)
      have hT15 : TM (sI s14 7 (k + 4) r14) := TM.w hT14 (by simp only [tyM, wTy]; (repeat' split) <;> first | trivial | omega | (simp (disch := omega) only [tnI, tn32 1 (by decide), tl32 0 (by decide), tl32 1 (by decide), tl32 2 (by decide), tl32 3 (by decide), tl32 4 (by decide), tl32 6 (by decide), tl32 9 (by decide), tl32 61 (by decide), tl32 9999 (by decide)]; omega))
      have hF15 : fr true [6, 7] [8, 9, 10, 11, 12, 13] σ (sI s14 7 (k + 4) r14) := fr.w hF14 (Or.inl ⟨by decide, by decide⟩) (fun _ h => absurd h (by decide))
      refine lv_aload_n hx hb (dkP dF_42 DX12_readAct (i := 72) rfl rfl) rfl (lv_at hl 0 rfl) ?_
      refine va_ldcSW hx hb hown (C0.2.2.2.2.2.2.2.2.2 2 (264, "go") rfl) (dk2 dF_19 DX12_readAct (i := 73) rfl rfl rfl) ?_
      refine zk_V hw (zr_V (As := [.ref (kc.2.1 2)]) (rest := []) C0 (c_X12_needs l G kc ad (sI s14 7 (k + 4) r14) 2 (by first | omega | assumption | decide | rfl) hT15 _) cv_X12_needs lk_X12_266 (zp_V C0 hRo hw 0 rfl rfl rfl) rfl hl.1 rfl ⟨by decide, by decide⟩ (Nat.le_of_ble_eq_true rfl) (dk2 dF_182 DX12_readAct (i := 74) rfl rfl rfl) ⟨Nat.le_refl _, Nat.le_refl _⟩) (fun s16 H locs hp hw => ?_)
      obtain ⟨hT16, hG16⟩ := hp
      have hF16 : fr true [6, 7] [8, 9, 10, 11, 12, 13] σ s16 := fr.t hF15 hG16 (by decide) (by decide) (by decide)
      refine lv_aload_n hx hb (dkP dF_42 DX12_readAct (i := 75) rfl rfl) rfl (lv_at hl 0 rfl) ?_
      refine z_gr C0 hw 0 15 7 rfl fl_X12_45 (dk2 dF_180 DX12_readAct (i := 76) rfl rfl rfl) ?_
      refine lv_iload_n hx hb (dkP dF_27 DX12_readAct (i := 77) rfl rfl) rfl (lv_at hl 1 rfl) ?_
      refine lv_iconst (v := 5) hx hb (dkP dF_8 DX12_readAct (i := 78) rfl rfl) (by decide) ?_
      refine lv_iadd hx hb (dkP dF_96 DX12_readAct (i := 79) rfl rfl) ?_
      refine z_top (y := nI (k + 5)) (by simp only [fa_lit, nI_add, pk_mul]) ?_
      refine lv_aload_n hx hb (dkP dF_42 DX12_readAct (i := 80) rfl rfl) rfl (lv_at hl 0 rfl) ?_
      refine lv_iconst (v := 0) hx hb (dkP dF_3 DX12_readAct (i := 81) rfl rfl) (by decide) ?_
      refine lv_sipush (v := 9999) hx hb (dkS dF_17 DX12_readAct (i := 82) rfl rfl rfl) (by decide) ?_
      refine zk_I hw (zr_V (As := [.int 0, .int 9999]) (rest := [.int (nI (k + 5)), .ref (ad 7)]) C0 (c_X12_number l G kc ad s16 0 9999 hT16 _) cv_X12_number lk_X12_232 (zp_V C0 hRo hw 0 rfl rfl rfl) rfl hl.1 rfl ⟨by decide, by decide⟩ (Nat.le_of_ble_eq_true rfl) (dk2 dF_182 DX12_readAct (i := 83) rfl rfl rfl) ⟨Nat.le_refl _, Nat.le_refl _⟩) (fun r17 s17 H locs hp hw => ?_)
      obtain ⟨hT17, hG17⟩ := hp
      have hF17 : fr true [6, 7] [8, 9, 10, 11, 12, 13] σ s17 := fr.t hF16 hG17 (by decide) (by decide) (by decide)
      refine z_iastN (n := 384) C0 hw 7 (k + 5) rfl (by omega) (by decide) (dkP dF_79 DX12_readAct (i := 84) rfl rfl) (fun H locs hw => ?_)
      have hT18 : TM (sI s17 7 (k + 5) r17) := TM.w hT17 (by simp only [tyM, wTy]; (repeat' split) <;> first | trivial | omega | (simp (disch := omega) only [tnI, tn32 1 (by decide), tl32 0 (by decide), tl32 1 (by decide), tl32 2 (by decide), tl32 3 (by decide), tl32 4 (by decide), tl32 5 (by decide), tl32 6 (by decide), tl32 9 (by decide), tl32 61 (by decide), tl32 9999 (by decide)]; omega))
      have hF18 : fr true [6, 7] [8, 9, 10, 11, 12, 13] σ (sI s17 7 (k + 5) r17) := fr.w hF17 (Or.inl ⟨by decide, by decide⟩) (fun _ h => absurd h (by decide))
      refine lv_goto (tgt := 200) hx hb (dkS dF_167 DX12_readAct (i := 85) rfl rfl rfl) (by decide) ?_
      exact z_vret C0 hr hlk hw (⟨hT18, hF18⟩) (dkP dF_177 DX12_readAct (i := 118) rfl rfl)
    · skip
      refine lv_if_eq (tgt := 146) hx hb (dkS dF_153 DX12_readAct (i := 38) rfl rfl rfl) (by decide) (fun _ => ?_) (fun h => absurd h (by decide))
      refine lv_aload_n hx hb (dkP dF_42 DX12_readAct (i := 86) rfl rfl) rfl (lv_at hl 0 rfl) ?_
      refine va_ldcSW hx hb hown (C0.2.2.2.2.2.2.2.2.2 2 (264, "go") rfl) (dk2 dF_19 DX12_readAct (i := 87) rfl rfl rfl) ?_
      refine zk_I hw (zr_V (As := [.ref (kc.2.1 2)]) (rest := []) C0 (c_X12_takes l G kc ad s8 2 (by first | omega | assumption | decide | rfl) hT8 _) cv_X12_takes lk_X12_211 (zp_V C0 hRo hw 0 rfl rfl rfl) rfl hl.1 rfl ⟨by decide, by decide⟩ (Nat.le_of_ble_eq_true rfl) (dk2 dF_182 DX12_readAct (i := 88) rfl rfl rfl) ⟨Nat.le_refl _, Nat.le_refl _⟩) (fun r19 s19 H locs hp hw => ?_)
      obtain ⟨f19_0, hT19, hG19⟩ := hp
      have hF19 : fr true [6, 7] [8, 9, 10, 11, 12, 13] σ s19 := fr.t hF8 hG19 (by decide) (by decide) (by decide)
      rcases f19_0 with ⟨rfl, hc19⟩ | ⟨rfl, hc19⟩
      · skip
        refine lv_if_eq (tgt := 184) hx hb (dkS dF_153 DX12_readAct (i := 89) rfl rfl rfl) (by decide) (fun h => absurd h (by decide)) (fun _ => ?_)
        refine lv_aload_n hx hb (dkP dF_42 DX12_readAct (i := 90) rfl rfl) rfl (lv_at hl 0 rfl) ?_
        refine z_gr C0 hw 0 15 7 rfl fl_X12_45 (dk2 dF_180 DX12_readAct (i := 91) rfl rfl rfl) ?_
        refine lv_iload_n hx hb (dkP dF_27 DX12_readAct (i := 92) rfl rfl) rfl (lv_at hl 1 rfl) ?_
        refine lv_iconst (v := 1) hx hb (dkP dF_4 DX12_readAct (i := 93) rfl rfl) (by decide) ?_
        refine lv_iadd hx hb (dkP dF_96 DX12_readAct (i := 94) rfl rfl) ?_
        refine z_top (y := nI (k + 1)) (by simp only [fa_lit, nI_add, pk_mul]) ?_
        refine lv_iconst (v := 2) hx hb (dkP dF_5 DX12_readAct (i := 95) rfl rfl) (by decide) ?_
        refine z_iastN (n := 384) C0 hw 7 (k + 1) rfl (by omega) (by decide) (dkP dF_79 DX12_readAct (i := 96) rfl rfl) (fun H locs hw => ?_)
        have hT20 : TM (sI s19 7 (k + 1) 2) := TM.w hT19 (by simp only [tyM, wTy]; (repeat' split) <;> first | trivial | omega | (simp (disch := omega) only [tnI, tn32 1 (by decide), tl32 0 (by decide), tl32 1 (by decide), tl32 2 (by decide), tl32 3 (by decide), tl32 4 (by decide), tl32 5 (by decide), tl32 6 (by decide), tl32 9 (by decide), tl32 61 (by decide), tl32 9999 (by decide)]; omega))
        have hF20 : fr true [6, 7] [8, 9, 10, 11, 12, 13] σ (sI s19 7 (k + 1) 2) := fr.w hF19 (Or.inl ⟨by decide, by decide⟩) (fun _ h => absurd h (by decide))
        refine lv_aload_n hx hb (dkP dF_42 DX12_readAct (i := 97) rfl rfl) rfl (lv_at hl 0 rfl) ?_
        refine z_gr C0 hw 0 15 7 rfl fl_X12_45 (dk2 dF_180 DX12_readAct (i := 98) rfl rfl rfl) ?_
        refine lv_iload_n hx hb (dkP dF_27 DX12_readAct (i := 99) rfl rfl) rfl (lv_at hl 1 rfl) ?_
        refine lv_iconst (v := 5) hx hb (dkP dF_8 DX12_readAct (i := 100) rfl rfl) (by decide) ?_
        refine lv_iadd hx hb (dkP dF_96 DX12_readAct (i := 101) rfl rfl) ?_
        refine z_top (y := nI (k + 5)) (by simp only [fa_lit, nI_add, pk_mul]) ?_
        refine lv_aload_n hx hb (dkP dF_42 DX12_readAct (i := 102) rfl rfl) rfl (lv_at hl 0 rfl) ?_
        refine lv_iconst (v := 0) hx hb (dkP dF_3 DX12_readAct (i := 103) rfl rfl) (by decide) ?_
        refine lv_sipush (v := 9999) hx hb (dkS dF_17 DX12_readAct (i := 104) rfl rfl rfl) (by decide) ?_
        refine zk_I hw (zr_V (As := [.int 0, .int 9999]) (rest := [.int (nI (k + 5)), .ref (ad 7)]) C0 (c_X12_number l G kc ad (sI s19 7 (k + 1) 2) 0 9999 hT20 _) cv_X12_number lk_X12_232 (zp_V C0 hRo hw 0 rfl rfl rfl) rfl hl.1 rfl ⟨by decide, by decide⟩ (Nat.le_of_ble_eq_true rfl) (dk2 dF_182 DX12_readAct (i := 105) rfl rfl rfl) ⟨Nat.le_refl _, Nat.le_refl _⟩) (fun r21 s21 H locs hp hw => ?_)
        obtain ⟨hT21, hG21⟩ := hp
        have hF21 : fr true [6, 7] [8, 9, 10, 11, 12, 13] σ s21 := fr.t hF20 hG21 (by decide) (by decide) (by decide)
        refine z_iastN (n := 384) C0 hw 7 (k + 5) rfl (by omega) (by decide) (dkP dF_79 DX12_readAct (i := 106) rfl rfl) (fun H locs hw => ?_)
        have hT22 : TM (sI s21 7 (k + 5) r21) := TM.w hT21 (by simp only [tyM, wTy]; (repeat' split) <;> first | trivial | omega | (simp (disch := omega) only [tnI, tn32 1 (by decide), tl32 0 (by decide), tl32 1 (by decide), tl32 2 (by decide), tl32 3 (by decide), tl32 4 (by decide), tl32 5 (by decide), tl32 6 (by decide), tl32 9 (by decide), tl32 61 (by decide), tl32 9999 (by decide)]; omega))
        have hF22 : fr true [6, 7] [8, 9, 10, 11, 12, 13] σ (sI s21 7 (k + 5) r21) := fr.w hF21 (Or.inl ⟨by decide, by decide⟩) (fun _ h => absurd h (by decide))
        refine lv_goto (tgt := 200) hx hb (dkS dF_167 DX12_readAct (i := 107) rfl rfl rfl) (by decide) ?_
        exact z_vret C0 hr hlk hw (⟨hT22, hF22⟩) (dkP dF_177 DX12_readAct (i := 118) rfl rfl)
      · skip
        refine lv_if_eq (tgt := 184) hx hb (dkS dF_153 DX12_readAct (i := 89) rfl rfl rfl) (by decide) (fun _ => ?_) (fun h => absurd h (by decide))
        refine lv_aload_n hx hb (dkP dF_42 DX12_readAct (i := 108) rfl rfl) rfl (lv_at hl 0 rfl) ?_
        refine va_ldcSW hx hb hown (C0.2.2.2.2.2.2.2.2.2 3 (270, "stop") rfl) (dk2 dF_19 DX12_readAct (i := 109) rfl rfl rfl) ?_
        refine zk_V hw (zr_V (As := [.ref (kc.2.1 3)]) (rest := []) C0 (c_X12_needs l G kc ad s19 3 (by first | omega | assumption | decide | rfl) hT19 _) cv_X12_needs lk_X12_266 (zp_V C0 hRo hw 0 rfl rfl rfl) rfl hl.1 rfl ⟨by decide, by decide⟩ (Nat.le_of_ble_eq_true rfl) (dk2 dF_182 DX12_readAct (i := 110) rfl rfl rfl) ⟨Nat.le_refl _, Nat.le_refl _⟩) (fun s23 H locs hp hw => ?_)
        obtain ⟨hT23, hG23⟩ := hp
        have hF23 : fr true [6, 7] [8, 9, 10, 11, 12, 13] σ s23 := fr.t hF19 hG23 (by decide) (by decide) (by decide)
        refine lv_aload_n hx hb (dkP dF_42 DX12_readAct (i := 111) rfl rfl) rfl (lv_at hl 0 rfl) ?_
        refine z_gr C0 hw 0 15 7 rfl fl_X12_45 (dk2 dF_180 DX12_readAct (i := 112) rfl rfl rfl) ?_
        refine lv_iload_n hx hb (dkP dF_27 DX12_readAct (i := 113) rfl rfl) rfl (lv_at hl 1 rfl) ?_
        refine lv_iconst (v := 1) hx hb (dkP dF_4 DX12_readAct (i := 114) rfl rfl) (by decide) ?_
        refine lv_iadd hx hb (dkP dF_96 DX12_readAct (i := 115) rfl rfl) ?_
        refine z_top (y := nI (k + 1)) (by simp only [fa_lit, nI_add, pk_mul]) ?_
        refine lv_iconst (v := 3) hx hb (dkP dF_6 DX12_readAct (i := 116) rfl rfl) (by decide) ?_
        refine z_iastN (n := 384) C0 hw 7 (k + 1) rfl (by omega) (by decide) (dkP dF_79 DX12_readAct (i := 117) rfl rfl) (fun H locs hw => ?_)
        have hT24 : TM (sI s23 7 (k + 1) 3) := TM.w hT23 (by simp only [tyM, wTy]; (repeat' split) <;> first | trivial | omega | (simp (disch := omega) only [tnI, tn32 1 (by decide), tl32 0 (by decide), tl32 1 (by decide), tl32 2 (by decide), tl32 3 (by decide), tl32 4 (by decide), tl32 5 (by decide), tl32 6 (by decide), tl32 9 (by decide), tl32 61 (by decide), tl32 9999 (by decide)]; omega))
        have hF24 : fr true [6, 7] [8, 9, 10, 11, 12, 13] σ (sI s23 7 (k + 1) 3) := fr.w hF23 (Or.inl ⟨by decide, by decide⟩) (fun _ h => absurd h (by decide))
        exact z_vret C0 hr hlk hw (⟨hT24, hF24⟩) (dkP dF_177 DX12_readAct (i := 118) rfl rfl)
set_option maxRecDepth 100000 in
set_option maxHeartbeats 8000000 in
theorem c_X12_readLine (l : Launch) (G : va_G) (kc : KC) (ad : Nat → Nat) (σ : Sg) (ln : Nat) (hln : ln ≤ 24) (hT : TM σ) : MV l G kc yX12_readLine cX12_readLine 4 8 172 [.ref (ad 0), .int (nI ln)] shM ad σ (fun σ1 => (ln = 24 → ¬ σ1.1 0 12 = 0) ∧ TM σ1 ∧ fr true [6, 7] [8, 9, 10, 11, 12, 13] σ σ1) := by
  intro sz
  refine z_body (y := yX12_readLine) (n := 4) (av := [.ref (ad 0), .int (nI ln)]) (Qc := fun A => va_Qv (fun σ1 => (ln = 24 → ¬ σ1.1 0 12 = 0) ∧ TM σ1 ∧ fr true [6, 7] [8, 9, 10, 11, 12, 13] σ σ1) (PoC G kc shM ad A) A) (plainFor_of_name (by decide)) (Nat.le_of_ble_eq_true rfl) (fun pr e s m below meth c A C0 hr hlk hnm hw hRo ls hl => ?_) sz
  have hx := C0.1
  have hb := C0.2.1
  have hown := C0.2.2.2.1
  have hts := C0.2.2.2.2.1
  have hl : lv_has ls 4 [(0, .ref (ad 0)), (1, .int (nI ln))] := hl
  have jp1 : ∀  (σb : Sg) (H : Heap) (locs : List Loc) (ls : Array Slot), (ln = 24 → ¬ σb.1 0 12 = 0) → (TM σb) → (fr true [6, 7] [8, 9, 10, 11, 12, 13] σ σb) → St G kc A s.heap shM ad σb H locs → lv_has ls 4 [(0, .ref (ad 0)), (1, .int (nI ln)), (2, .int (nI (16 * ln)))] → W pr l e { frames := 8, cells := 0, slots := 0, locals := 172 } s m ([.ref (ad 0), .int (nI ln)] : List Value).toArray below meth c H locs 0 0 (MQ below (va_Qv (fun σ1 => (ln = 24 → ¬ σ1.1 0 12 = 0) ∧ TM σ1 ∧ fr true [6, 7] [8, 9, 10, 11, 12, 13] σ σ1) (PoC G kc shM ad A) A) ([.ref (ad 0), .int (nI ln)] : List Value).toArray s 0 0 A) (F0 m 74 ls []) := by
    intro  σb H locs ls h24 hT_σb hF_σb hw hl
    refine lv_aload_n hx hb (dkP dF_42 DX12_readLine (i := 41) rfl rfl) rfl (lv_at hl 0 rfl) ?_
    refine zk_I hw (zr_V (As := []) (rest := []) C0 (c_X12_good l G kc ad σb  _) cv_X12_good lk_X12_190 (zp_V C0 hRo hw 0 rfl rfl rfl) rfl hl.1 rfl ⟨by decide, by decide⟩ (Nat.le_of_ble_eq_true rfl) (dk2 dF_182 DX12_readLine (i := 42) rfl rfl rfl) ⟨Nat.le_refl _, Nat.le_refl _⟩) (fun r2 s2 H locs hp hw => ?_)
    obtain ⟨hq2, hs2⟩ := hp
    (rw [hs2] at hw; clear hs2)
    rcases hq2 with ⟨rfl, hc2⟩ | ⟨rfl, hc2⟩
    · skip
      refine lv_if_ne (tgt := 82) hx hb (dkS dF_154 DX12_readLine (i := 43) rfl rfl rfl) (by decide) (fun _ => ?_) (fun h => absurd h (by decide))
      have h23 : ln ≠ 24 := fun h => h24 h hc2
      refine lv_iconst (v := 0) hx hb (dkP dF_3 DX12_readLine (i := 45) rfl rfl) (by decide) ?_
      refine lv_istore_n (lv' := [(3, .int 0), (0, .ref (ad 0)), (1, .int (nI ln)), (2, .int (nI (16 * ln)))]) hx hb (dkP dF_62 DX12_readLine (i := 46) rfl rfl) rfl hl (by decide) rfl (fun ls hl => ?_)
      have lp4 : ∀ (nq : Nat) (q3_84 : Nat) (τ3 : Sg) (H : Heap) (locs : List Loc) (ls : Array Slot), 16 - q3_84 < nq → (q3_84 ≤ 16) → (TM τ3) → (fr true [6, 7] [8, 9, 10, 11, 12, 13] σ τ3) → St G kc A s.heap shM ad τ3 H locs → lv_has ls 4 [(3, .int (nI q3_84)), (0, .ref (ad 0)), (1, .int (nI ln)), (2, .int (nI (16 * ln)))] → W pr l e { frames := 8, cells := 0, slots := 0, locals := 172 } s m ([.ref (ad 0), .int (nI ln)] : List Value).toArray below meth c H locs 0 0 (MQ below (va_Qv (fun σ1 => (ln = 24 → ¬ σ1.1 0 12 = 0) ∧ TM σ1 ∧ fr true [6, 7] [8, 9, 10, 11, 12, 13] σ σ1) (PoC G kc shM ad A) A) ([.ref (ad 0), .int (nI ln)] : List Value).toArray s 0 0 A) (F0 m 84 ls []) := by
        intro nq
        induction nq with
        | zero => intro q3_84 τ3 H locs ls hmu; exact absurd hmu (Nat.not_lt_zero _)
        | succ nq ih4 =>
          intro q3_84 τ3 H locs ls hmu hq3_84 hT_τ3 hF_τ3 hw hl
          refine lv_iload_n hx hb (dkP dF_29 DX12_readLine (i := 47) rfl rfl) rfl (lv_at hl 0 rfl) ?_
          refine lv_bipush (v := 16) hx hb (dks dF_16 DX12_readLine (i := 48) rfl rfl rfl) (by decide) ?_
          refine lv_icmp_ge (tgt := 105) hx hb (dkS dF_162 DX12_readLine (i := 49) rfl rfl rfl) (by decide) (fun c5 => ?_) (fun c5 => ?_)
          · simp (disch := omega) only [ta_lt, ta_le, ta_eq, tnI, tl32 16 (by decide)] at c5
            refine lv_aload_n hx hb (dkP dF_42 DX12_readLine (i := 59) rfl rfl) rfl (lv_at hl 1 rfl) ?_
            refine z_gr C0 hw 0 15 7 rfl fl_X12_45 (dk2 dF_180 DX12_readLine (i := 60) rfl rfl rfl) ?_
            refine lv_iload_n hx hb (dkP dF_28 DX12_readLine (i := 61) rfl rfl) rfl (lv_at hl 3 rfl) ?_
            refine lv_aload_n hx hb (dkP dF_42 DX12_readLine (i := 62) rfl rfl) rfl (lv_at hl 1 rfl) ?_
            refine z_gi C0 hw 0 11 rfl fl_X12_173 (dk2 dF_180 DX12_readLine (i := 63) rfl rfl rfl) ?_
            obtain ⟨v6, ev6⟩ : ∃ y : Int32, τ3.1 0 11 = y := ⟨_, rfl⟩
            refine z_top (y := v6) ev6 ?_
            refine z_iastN (n := 384) C0 hw 7 (16 * ln) rfl (by omega) (by decide) (dkP dF_79 DX12_readLine (i := 64) rfl rfl) (fun H locs hw => ?_)
            have hT7 : TM (sI τ3 7 (16 * ln) v6) := TM.w hT_τ3 (by simp only [tyM, wTy]; (repeat' split) <;> first | trivial | omega | (simp (disch := omega) only [tnI, tn32 1 (by decide), tl32 0 (by decide), tl32 16 (by decide)]; omega))
            have hF7 : fr true [6, 7] [8, 9, 10, 11, 12, 13] σ (sI τ3 7 (16 * ln) v6) := fr.w hF_τ3 (Or.inl ⟨by decide, by decide⟩) (fun _ h => absurd h (by decide))
            refine lv_aload_n hx hb (dkP dF_42 DX12_readLine (i := 65) rfl rfl) rfl (lv_at hl 1 rfl) ?_
            refine zk_V hw (zr_V (As := []) (rest := []) C0 (c_X12_step l G kc ad (sI τ3 7 (16 * ln) v6) hT7 _) cv_X12_step lk_X12_208 (zp_V C0 hRo hw 0 rfl rfl rfl) rfl hl.1 rfl ⟨by decide, by decide⟩ (Nat.le_of_ble_eq_true rfl) (dk2 dF_182 DX12_readLine (i := 66) rfl rfl rfl) ⟨Nat.le_refl _, Nat.le_refl _⟩) (fun s8 H locs hp hw => ?_)
            obtain ⟨hT8, hG8⟩ := hp
            have hF8 : fr true [6, 7] [8, 9, 10, 11, 12, 13] σ s8 := fr.t hF7 hG8 (by decide) (by decide) (by decide)
            refine lv_aload_n hx hb (dkP dF_42 DX12_readLine (i := 67) rfl rfl) rfl (lv_at hl 1 rfl) ?_
            refine lv_bipush (v := 58) hx hb (dks dF_16 DX12_readLine (i := 68) rfl rfl rfl) (by decide) ?_
            refine zk_V hw (zr_V (As := [.int 58]) (rest := []) C0 (c_X12_needsSign l G kc ad s8 58 hT8 _) cv_X12_needsSign lk_X12_244 (zp_V C0 hRo hw 0 rfl rfl rfl) rfl hl.1 rfl ⟨by decide, by decide⟩ (Nat.le_of_ble_eq_true rfl) (dk2 dF_182 DX12_readLine (i := 69) rfl rfl rfl) ⟨Nat.le_refl _, Nat.le_refl _⟩) (fun s9 H locs hp hw => ?_)
            obtain ⟨hT9, hG9⟩ := hp
            have hF9 : fr true [6, 7] [8, 9, 10, 11, 12, 13] σ s9 := fr.t hF8 hG9 (by decide) (by decide) (by decide)
            refine lv_aload_n hx hb (dkP dF_42 DX12_readLine (i := 70) rfl rfl) rfl (lv_at hl 1 rfl) ?_
            refine lv_iload_n hx hb (dkP dF_28 DX12_readLine (i := 71) rfl rfl) rfl (lv_at hl 3 rfl) ?_
            refine zk_V hw (zr_V (As := [.int (nI (16 * ln))]) (rest := []) C0 (c_X12_readAct l G kc ad s9 (16 * ln) (by first | omega | assumption | decide | rfl) (by first | omega | assumption | decide | rfl) hT9 _) cv_X12_readAct lk_X12_247 (zp_V C0 hRo hw 0 rfl rfl rfl) rfl hl.1 rfl ⟨by decide, by decide⟩ (Nat.le_of_ble_eq_true rfl) (dk2 dF_182 DX12_readLine (i := 72) rfl rfl rfl) ⟨Nat.le_refl _, Nat.le_refl _⟩) (fun s10 H locs hp hw => ?_)
            obtain ⟨hT10, hG10⟩ := hp
            have hF10 : fr true [6, 7] [8, 9, 10, 11, 12, 13] σ s10 := fr.t hF9 hG10 (by decide) (by decide) (by decide)
            refine lv_aload_n hx hb (dkP dF_42 DX12_readLine (i := 73) rfl rfl) rfl (lv_at hl 1 rfl) ?_
            refine lv_bipush (v := 59) hx hb (dks dF_16 DX12_readLine (i := 74) rfl rfl rfl) (by decide) ?_
            refine zk_V hw (zr_V (As := [.int 59]) (rest := []) C0 (c_X12_needsSign l G kc ad s10 59 hT10 _) cv_X12_needsSign lk_X12_244 (zp_V C0 hRo hw 0 rfl rfl rfl) rfl hl.1 rfl ⟨by decide, by decide⟩ (Nat.le_of_ble_eq_true rfl) (dk2 dF_182 DX12_readLine (i := 75) rfl rfl rfl) ⟨Nat.le_refl _, Nat.le_refl _⟩) (fun s11 H locs hp hw => ?_)
            obtain ⟨hT11, hG11⟩ := hp
            have hF11 : fr true [6, 7] [8, 9, 10, 11, 12, 13] σ s11 := fr.t hF10 hG11 (by decide) (by decide) (by decide)
            exact z_vret C0 hr hlk hw (⟨(fun h => absurd h h23), hT11, hF11⟩) (dkP dF_177 DX12_readLine (i := 76) rfl rfl)
          · simp (disch := omega) only [ta_lt, ta_le, ta_eq, tnI, tl32 16 (by decide)] at c5
            refine lv_aload_n hx hb (dkP dF_42 DX12_readLine (i := 50) rfl rfl) rfl (lv_at hl 1 rfl) ?_
            refine z_gr C0 hw 0 15 7 rfl fl_X12_45 (dk2 dF_180 DX12_readLine (i := 51) rfl rfl rfl) ?_
            refine lv_iload_n hx hb (dkP dF_28 DX12_readLine (i := 52) rfl rfl) rfl (lv_at hl 3 rfl) ?_
            refine lv_iload_n hx hb (dkP dF_29 DX12_readLine (i := 53) rfl rfl) rfl (lv_at hl 0 rfl) ?_
            refine lv_iadd hx hb (dkP dF_96 DX12_readLine (i := 54) rfl rfl) ?_
            refine z_top (y := nI ((16 * ln) + q3_84)) (by simp only [fa_lit, nI_add, pk_mul]) ?_
            refine lv_iconst (v := 0) hx hb (dkP dF_3 DX12_readLine (i := 55) rfl rfl) (by decide) ?_
            refine z_iastN (n := 384) C0 hw 7 ((16 * ln) + q3_84) rfl (by omega) (by decide) (dkP dF_79 DX12_readLine (i := 56) rfl rfl) (fun H locs hw => ?_)
            have hT12 : TM (sI τ3 7 ((16 * ln) + q3_84) 0) := TM.w hT_τ3 (by simp only [tyM, wTy]; (repeat' split) <;> first | trivial | omega | (simp (disch := omega) only [tnI, tn32 1 (by decide), tl32 0 (by decide), tl32 16 (by decide), tl32 58 (by decide), tl32 59 (by decide)]; omega))
            have hF12 : fr true [6, 7] [8, 9, 10, 11, 12, 13] σ (sI τ3 7 ((16 * ln) + q3_84) 0) := fr.w hF_τ3 (Or.inl ⟨by decide, by decide⟩) (fun _ h => absurd h (by decide))
            refine lv_iinc (v := nI (q3_84 + 1)) (lv' := [(3, .int (nI (q3_84 + 1))), (0, .ref (ad 0)), (1, .int (nI ln)), (2, .int (nI (16 * ln)))]) hx hb (dkI DX12_readLine (i := 57) rfl rfl rfl rfl) hl (k := 0) rfl (nI_1 _) (by decide) rfl (fun ls hl => ?_)
            refine lv_goto (tgt := 84) hx hb (dkS dF_167 DX12_readLine (i := 58) rfl rfl rfl) (by decide) ?_
            exact ih4 (q3_84 + 1) (sI τ3 7 ((16 * ln) + q3_84) 0) _ _ _ (by omega) (by (try simp only [lg_cmp_lt, lg_cmp_le, lg_cmp_gt, lg_cmp_ge, lg_cmp_eq] at hc2); (try simp (disch := omega) only [ta_lt, ta_le, ta_eq, tb_lt, tb_le, tb_eq, tw, tnI, tsub1, tsv, tn32 1 (by decide), tnj 1 (by decide), tl32 0 (by decide), tl64 0 (by decide), tl32 16 (by decide), tl64 16 (by decide), tl32 58 (by decide), tl64 58 (by decide), tl32 59 (by decide), tl64 59 (by decide)] at hc2); (try simp only [lg_cmp_lt, lg_cmp_le, lg_cmp_gt, lg_cmp_ge, lg_cmp_eq] at c5); (try simp (disch := omega) only [ta_lt, ta_le, ta_eq, tb_lt, tb_le, tb_eq, tw, tnI, tsub1, tsv, tn32 1 (by decide), tnj 1 (by decide), tl32 0 (by decide), tl64 0 (by decide), tl32 16 (by decide), tl64 16 (by decide), tl32 58 (by decide), tl64 58 (by decide), tl32 59 (by decide), tl64 59 (by decide)] at c5); (try simp (disch := omega) only [ta_lt, ta_le, ta_eq, tb_lt, tb_le, tb_eq, tw, tnI, tsub1, tsv, tn32 1 (by decide), tnj 1 (by decide), tl32 0 (by decide), tl64 0 (by decide), tl32 16 (by decide), tl64 16 (by decide), tl32 58 (by decide), tl64 58 (by decide), tl32 59 (by decide), tl64 59 (by decide)]); omega) hT12 hF12 hw (lv_sub hl [0, 1, 2, 3] rfl)
      exact lp4 _ 0 σb _ _ _ (Nat.lt_succ_self _) (by (try simp only [lg_cmp_lt, lg_cmp_le, lg_cmp_gt, lg_cmp_ge, lg_cmp_eq] at hc2); (try simp (disch := omega) only [ta_lt, ta_le, ta_eq, tb_lt, tb_le, tb_eq, tw, tnI, tsub1, tsv, tn32 1 (by decide), tnj 1 (by decide), tl32 0 (by decide), tl64 0 (by decide), tl32 16 (by decide), tl64 16 (by decide), tl32 58 (by decide), tl64 58 (by decide), tl32 59 (by decide), tl64 59 (by decide)] at hc2); (try simp (disch := omega) only [ta_lt, ta_le, ta_eq, tb_lt, tb_le, tb_eq, tw, tnI, tsub1, tsv, tn32 1 (by decide), tnj 1 (by decide), tl32 0 (by decide), tl64 0 (by decide), tl32 16 (by decide), tl64 16 (by decide), tl32 58 (by decide), tl64 58 (by decide), tl32 59 (by decide), tl64 59 (by decide)]); omega) hT_σb hF_σb hw (lv_sub hl [0, 1, 2, 3] rfl)
    · skip
      refine lv_if_ne (tgt := 82) hx hb (dkS dF_154 DX12_readLine (i := 43) rfl rfl rfl) (by decide) (fun h => absurd h (by decide)) (fun _ => ?_)
      exact z_vret C0 hr hlk hw (⟨h24, hT_σb, hF_σb⟩) (dkP dF_177 DX12_readLine (i := 44) rfl rfl)
  refine lv_bipush (v := 16) hx hb (dks dF_16 DX12_readLine (i := 0) rfl rfl rfl) (by decide) ?_
  refine lv_iload_n hx hb (dkP dF_27 DX12_readLine (i := 1) rfl rfl) rfl (lv_at hl 1 rfl) ?_
  refine lv_imul hx hb (dkP dF_104 DX12_readLine (i := 2) rfl rfl) ?_
  refine z_top (y := nI (16 * ln)) (by simp only [fa_lit, nI_add, pk_mul]) ?_
  refine lv_istore_n (lv' := [(2, .int (nI (16 * ln))), (0, .ref (ad 0)), (1, .int (nI ln))]) hx hb (dkP dF_61 DX12_readLine (i := 3) rfl rfl) rfl hl (by decide) rfl (fun ls hl => ?_)
  refine lv_aload_n hx hb (dkP dF_42 DX12_readLine (i := 4) rfl rfl) rfl (lv_at hl 1 rfl) ?_
  refine z_gi C0 hw 0 10 rfl fl_X12_162 (dk2 dF_180 DX12_readLine (i := 5) rfl rfl rfl) ?_
  obtain ⟨v13, ev13⟩ : ∃ y : Int32, σ.1 0 10 = y := ⟨_, rfl⟩
  refine z_top (y := v13) ev13 ?_
  refine lv_iconst (v := 2) hx hb (dkP dF_5 DX12_readLine (i := 6) rfl rfl) (by decide) ?_
  refine lv_icmp_eq (tgt := 21) hx hb (dkS dF_159 DX12_readLine (i := 7) rfl rfl rfl) (by decide) (fun c14 => ?_) (fun c14 => ?_)
  · (try simp (disch := omega) only [ta_lt, ta_le, ta_eq, tnI, tl32 2 (by decide)] at c14)
    refine lv_aload_n hx hb (dkP dF_42 DX12_readLine (i := 12) rfl rfl) rfl (lv_at hl 1 rfl) ?_
    refine z_gi C0 hw 0 11 rfl fl_X12_173 (dk2 dF_180 DX12_readLine (i := 13) rfl rfl rfl) ?_
    obtain ⟨v15, ev15⟩ : ∃ y : Int32, σ.1 0 11 = y := ⟨_, rfl⟩
    refine z_top (y := v15) ev15 ?_
    refine lv_i2l hx hb (dkP dF_133 DX12_readLine (i := 14) rfl rfl) rfl ?_
    refine lv_iload_n hx hb (dkP dF_27 DX12_readLine (i := 15) rfl rfl) rfl (lv_at hl 2 rfl) ?_
    refine lv_if_ne (tgt := 34) hx hb (dkS dF_154 DX12_readLine (i := 16) rfl rfl rfl) (by decide) (fun c16 => ?_) (fun c16 => ?_)
    · simp (disch := omega) only [ta_lt, ta_le, ta_eq, tnI, tl32 0 (by decide)] at c16
      refine lv_aload_n hx hb (dkP dF_42 DX12_readLine (i := 19) rfl rfl) rfl (lv_at hl 1 rfl) ?_
      refine z_gr C0 hw 0 15 7 rfl fl_X12_45 (dk2 dF_180 DX12_readLine (i := 20) rfl rfl rfl) ?_
      refine lv_iload_n hx hb (dkP dF_28 DX12_readLine (i := 21) rfl rfl) rfl (lv_at hl 0 rfl) ?_
      refine lv_bipush (v := 16) hx hb (dks dF_16 DX12_readLine (i := 22) rfl rfl rfl) (by decide) ?_
      refine lv_isub hx hb (dkP dF_100 DX12_readLine (i := 23) rfl rfl) ?_
      refine z_top (y := nI ((16 * ln) - 16)) (by simp only [fa_lit]; exact nI_sub (by omega)) ?_
      refine z_ialdN (n := 384) C0 hw 7 ((16 * ln) - 16) rfl (by omega) (by decide) (dkP dF_46 DX12_readLine (i := 24) rfl rfl) ?_
      obtain ⟨v17, ev17⟩ : ∃ y : Int32, σ.1 7 ((16 * ln) - 16) = y := ⟨_, rfl⟩
      refine z_top (y := v17) ev17 ?_
      refine lv_iconst (v := 1) hx hb (dkP dF_4 DX12_readLine (i := 25) rfl rfl) (by decide) ?_
      refine lv_iadd hx hb (dkP dF_96 DX12_readLine (i := 26) rfl rfl) ?_
      refine lv_i2l hx hb (dkP dF_133 DX12_readLine (i := 27) rfl rfl) rfl ?_
      refine lv_ldc2 hx hb hown (hts _ kn_X12_242) (dk2 dF_20 DX12_readLine (i := 28) rfl rfl rfl) ?_
      refine zn_I hw (zr_S (As := [.long v15.toInt64, .long ((v17 + 1).toInt64), .long 999]) (rest := []) C0 (c_X12_in l G kc v15.toInt64 ((v17 + 1).toInt64) 999  _) cs_X12_in lk_X12_9 (zp_P C0 hRo hw a00 s00) rfl hl.1 rfl ⟨by decide, by decide⟩ (Nat.le_of_ble_eq_true rfl) (dk2 dF_184 DX12_readLine (i := 29) rfl rfl rfl) ⟨Nat.le_refl _, Nat.le_refl _⟩) (fun r18 s18 H locs hp hw => ?_)
      rcases hp with ⟨rfl, hc18⟩ | ⟨rfl, hc18⟩
      · skip
        (try simp (disch := omega) only [ta_lt, ta_le, ta_eq, tb_lt, tb_le, tb_eq, tw, tnI, tn32 1 (by decide), tnj 1 (by decide), tl32 0 (by decide), tl64 0 (by decide), tl32 1 (by decide), tl64 1 (by decide), tl32 2 (by decide), tl64 2 (by decide), tl32 16 (by decide), tl64 16 (by decide), tl32 58 (by decide), tl64 58 (by decide), tl32 59 (by decide), tl64 59 (by decide), tl32 999 (by decide), tl64 999 (by decide)] at hc18)
        refine lv_if_ne (tgt := 63) hx hb (dkS dF_154 DX12_readLine (i := 30) rfl rfl rfl) (by decide) (fun _ => ?_) (fun h => absurd h (by decide))
        refine lv_iload_n hx hb (dkP dF_27 DX12_readLine (i := 35) rfl rfl) rfl (lv_at hl 2 rfl) ?_
        refine lv_bipush (v := 24) hx hb (dks dF_16 DX12_readLine (i := 36) rfl rfl rfl) (by decide) ?_
        refine lv_icmp_ne (tgt := 74) hx hb (dkS dF_160 DX12_readLine (i := 37) rfl rfl rfl) (by decide) (fun c19 => ?_) (fun c19 => ?_)
        · simp (disch := omega) only [ta_lt, ta_le, ta_eq, tnI, tl32 24 (by decide)] at c19
          exact jp1 σ _ _ _ (fun h => by exfalso; (try simp only [lg_cmp_lt, lg_cmp_le, lg_cmp_gt, lg_cmp_ge, lg_cmp_eq] at c14); (try simp (disch := omega) only [ta_lt, ta_le, ta_eq, tb_lt, tb_le, tb_eq, tw, tnI, tsub1, tsv, tn32 1 (by decide), tnj 1 (by decide), tl32 0 (by decide), tl64 0 (by decide), tl32 1 (by decide), tl64 1 (by decide), tl32 2 (by decide), tl64 2 (by decide), tl32 16 (by decide), tl64 16 (by decide), tl32 24 (by decide), tl64 24 (by decide), tl32 58 (by decide), tl64 58 (by decide), tl32 59 (by decide), tl64 59 (by decide), tl32 999 (by decide), tl64 999 (by decide)] at c14); (try simp only [lg_cmp_lt, lg_cmp_le, lg_cmp_gt, lg_cmp_ge, lg_cmp_eq] at c16); (try simp (disch := omega) only [ta_lt, ta_le, ta_eq, tb_lt, tb_le, tb_eq, tw, tnI, tsub1, tsv, tn32 1 (by decide), tnj 1 (by decide), tl32 0 (by decide), tl64 0 (by decide), tl32 1 (by decide), tl64 1 (by decide), tl32 2 (by decide), tl64 2 (by decide), tl32 16 (by decide), tl64 16 (by decide), tl32 24 (by decide), tl64 24 (by decide), tl32 58 (by decide), tl64 58 (by decide), tl32 59 (by decide), tl64 59 (by decide), tl32 999 (by decide), tl64 999 (by decide)] at c16); (try simp only [lg_cmp_lt, lg_cmp_le, lg_cmp_gt, lg_cmp_ge, lg_cmp_eq] at hc18); (try simp (disch := omega) only [ta_lt, ta_le, ta_eq, tb_lt, tb_le, tb_eq, tw, tnI, tsub1, tsv, tn32 1 (by decide), tnj 1 (by decide), tl32 0 (by decide), tl64 0 (by decide), tl32 1 (by decide), tl64 1 (by decide), tl32 2 (by decide), tl64 2 (by decide), tl32 16 (by decide), tl64 16 (by decide), tl32 24 (by decide), tl64 24 (by decide), tl32 58 (by decide), tl64 58 (by decide), tl32 59 (by decide), tl64 59 (by decide), tl32 999 (by decide), tl64 999 (by decide)] at hc18); (try simp only [lg_cmp_lt, lg_cmp_le, lg_cmp_gt, lg_cmp_ge, lg_cmp_eq] at c19); (try simp (disch := omega) only [ta_lt, ta_le, ta_eq, tb_lt, tb_le, tb_eq, tw, tnI, tsub1, tsv, tn32 1 (by decide), tnj 1 (by decide), tl32 0 (by decide), tl64 0 (by decide), tl32 1 (by decide), tl64 1 (by decide), tl32 2 (by decide), tl64 2 (by decide), tl32 16 (by decide), tl64 16 (by decide), tl32 24 (by decide), tl64 24 (by decide), tl32 58 (by decide), tl64 58 (by decide), tl32 59 (by decide), tl64 59 (by decide), tl32 999 (by decide), tl64 999 (by decide)] at c19); (try simp (disch := omega) only [ta_lt, ta_le, ta_eq, tb_lt, tb_le, tb_eq, tw, tnI, tsub1, tsv, tn32 1 (by decide), tnj 1 (by decide), tl32 0 (by decide), tl64 0 (by decide), tl32 1 (by decide), tl64 1 (by decide), tl32 2 (by decide), tl64 2 (by decide), tl32 16 (by decide), tl64 16 (by decide), tl32 24 (by decide), tl64 24 (by decide), tl32 58 (by decide), tl64 58 (by decide), tl32 59 (by decide), tl64 59 (by decide), tl32 999 (by decide), tl64 999 (by decide)]); omega) hT fr.refl hw (lv_sub hl [1, 2, 0] rfl)
        · simp (disch := omega) only [ta_lt, ta_le, ta_eq, tnI, tl32 24 (by decide)] at c19
          refine lv_aload_n hx hb (dkP dF_42 DX12_readLine (i := 38) rfl rfl) rfl (lv_at hl 1 rfl) ?_
          refine lv_iconst (v := 3) hx hb (dkP dF_6 DX12_readLine (i := 39) rfl rfl) (by decide) ?_
          refine zk_V hw (zr_V (As := [.int 3]) (rest := []) C0 (c_X12_wrong l G kc ad σ 3 (by first | omega | assumption | decide | rfl) hT _) cv_X12_wrong lk_X12_214 (zp_V C0 hRo hw 0 rfl rfl rfl) rfl hl.1 rfl ⟨by decide, by decide⟩ (Nat.le_of_ble_eq_true rfl) (dk2 dF_182 DX12_readLine (i := 40) rfl rfl rfl) ⟨Nat.le_refl _, Nat.le_refl _⟩) (fun s20 H locs hp hw => ?_)
          obtain ⟨f20_0, hT20, hG20⟩ := hp
          have hF20 : fr true [6, 7] [8, 9, 10, 11, 12, 13] σ s20 := fr.t fr.refl hG20 (by decide) (by decide) (by decide)
          exact jp1 s20 _ _ _ (fun _ => f20_0) hT20 hF20 hw (lv_sub hl [1, 2, 0] rfl)
      · skip
        (try simp (disch := omega) only [ta_lt, ta_le, ta_eq, tb_lt, tb_le, tb_eq, tw, tnI, tn32 1 (by decide), tnj 1 (by decide), tl32 0 (by decide), tl64 0 (by decide), tl32 1 (by decide), tl64 1 (by decide), tl32 2 (by decide), tl64 2 (by decide), tl32 3 (by decide), tl64 3 (by decide), tl32 16 (by decide), tl64 16 (by decide), tl32 24 (by decide), tl64 24 (by decide), tl32 58 (by decide), tl64 58 (by decide), tl32 59 (by decide), tl64 59 (by decide), tl32 999 (by decide), tl64 999 (by decide)] at hc18)
        refine lv_if_ne (tgt := 63) hx hb (dkS dF_154 DX12_readLine (i := 30) rfl rfl rfl) (by decide) (fun h => absurd h (by decide)) (fun _ => ?_)
        refine lv_aload_n hx hb (dkP dF_42 DX12_readLine (i := 31) rfl rfl) rfl (lv_at hl 1 rfl) ?_
        refine lv_iconst (v := 2) hx hb (dkP dF_5 DX12_readLine (i := 32) rfl rfl) (by decide) ?_
        refine zk_V hw (zr_V (As := [.int 2]) (rest := []) C0 (c_X12_wrong l G kc ad σ 2 (by first | omega | assumption | decide | rfl) hT _) cv_X12_wrong lk_X12_214 (zp_V C0 hRo hw 0 rfl rfl rfl) rfl hl.1 rfl ⟨by decide, by decide⟩ (Nat.le_of_ble_eq_true rfl) (dk2 dF_182 DX12_readLine (i := 33) rfl rfl rfl) ⟨Nat.le_refl _, Nat.le_refl _⟩) (fun s21 H locs hp hw => ?_)
        obtain ⟨f21_0, hT21, hG21⟩ := hp
        have hF21 : fr true [6, 7] [8, 9, 10, 11, 12, 13] σ s21 := fr.t fr.refl hG21 (by decide) (by decide) (by decide)
        refine lv_goto (tgt := 74) hx hb (dkS dF_167 DX12_readLine (i := 34) rfl rfl rfl) (by decide) ?_
        exact jp1 s21 _ _ _ (fun _ => f21_0) hT21 hF21 hw (lv_sub hl [1, 2, 0] rfl)
    · simp (disch := omega) only [ta_lt, ta_le, ta_eq, tnI, tl32 0 (by decide)] at c16
      refine lv_lconst (v := 1) hx hb (dkP dF_10 DX12_readLine (i := 17) rfl rfl) (by decide) ?_
      refine lv_goto (tgt := 46) hx hb (dkS dF_167 DX12_readLine (i := 18) rfl rfl rfl) (by decide) ?_
      refine lv_ldc2 hx hb hown (hts _ kn_X12_242) (dk2 dF_20 DX12_readLine (i := 28) rfl rfl rfl) ?_
      refine zn_I hw (zr_S (As := [.long v15.toInt64, .long 1, .long 999]) (rest := []) C0 (c_X12_in l G kc v15.toInt64 1 999  _) cs_X12_in lk_X12_9 (zp_P C0 hRo hw a00 s00) rfl hl.1 rfl ⟨by decide, by decide⟩ (Nat.le_of_ble_eq_true rfl) (dk2 dF_184 DX12_readLine (i := 29) rfl rfl rfl) ⟨Nat.le_refl _, Nat.le_refl _⟩) (fun r22 s22 H locs hp hw => ?_)
      rcases hp with ⟨rfl, hc22⟩ | ⟨rfl, hc22⟩
      · skip
        (try simp (disch := omega) only [ta_lt, ta_le, ta_eq, tb_lt, tb_le, tb_eq, tw, tnI, tn32 1 (by decide), tnj 1 (by decide), tl32 0 (by decide), tl64 0 (by decide), tl32 1 (by decide), tl64 1 (by decide), tl32 2 (by decide), tl64 2 (by decide), tl32 3 (by decide), tl64 3 (by decide), tl32 16 (by decide), tl64 16 (by decide), tl32 24 (by decide), tl64 24 (by decide), tl32 58 (by decide), tl64 58 (by decide), tl32 59 (by decide), tl64 59 (by decide), tl32 999 (by decide), tl64 999 (by decide)] at hc22)
        refine lv_if_ne (tgt := 63) hx hb (dkS dF_154 DX12_readLine (i := 30) rfl rfl rfl) (by decide) (fun _ => ?_) (fun h => absurd h (by decide))
        refine lv_iload_n hx hb (dkP dF_27 DX12_readLine (i := 35) rfl rfl) rfl (lv_at hl 2 rfl) ?_
        refine lv_bipush (v := 24) hx hb (dks dF_16 DX12_readLine (i := 36) rfl rfl rfl) (by decide) ?_
        refine lv_icmp_ne (tgt := 74) hx hb (dkS dF_160 DX12_readLine (i := 37) rfl rfl rfl) (by decide) (fun c23 => ?_) (fun c23 => ?_)
        · simp (disch := omega) only [ta_lt, ta_le, ta_eq, tnI, tl32 24 (by decide)] at c23
          exact jp1 σ _ _ _ (fun h => by exfalso; (try simp only [lg_cmp_lt, lg_cmp_le, lg_cmp_gt, lg_cmp_ge, lg_cmp_eq] at c14); (try simp (disch := omega) only [ta_lt, ta_le, ta_eq, tb_lt, tb_le, tb_eq, tw, tnI, tsub1, tsv, tn32 1 (by decide), tnj 1 (by decide), tl32 0 (by decide), tl64 0 (by decide), tl32 1 (by decide), tl64 1 (by decide), tl32 2 (by decide), tl64 2 (by decide), tl32 3 (by decide), tl64 3 (by decide), tl32 16 (by decide), tl64 16 (by decide), tl32 24 (by decide), tl64 24 (by decide), tl32 58 (by decide), tl64 58 (by decide), tl32 59 (by decide), tl64 59 (by decide), tl32 999 (by decide), tl64 999 (by decide)] at c14); (try simp only [lg_cmp_lt, lg_cmp_le, lg_cmp_gt, lg_cmp_ge, lg_cmp_eq] at c16); (try simp (disch := omega) only [ta_lt, ta_le, ta_eq, tb_lt, tb_le, tb_eq, tw, tnI, tsub1, tsv, tn32 1 (by decide), tnj 1 (by decide), tl32 0 (by decide), tl64 0 (by decide), tl32 1 (by decide), tl64 1 (by decide), tl32 2 (by decide), tl64 2 (by decide), tl32 3 (by decide), tl64 3 (by decide), tl32 16 (by decide), tl64 16 (by decide), tl32 24 (by decide), tl64 24 (by decide), tl32 58 (by decide), tl64 58 (by decide), tl32 59 (by decide), tl64 59 (by decide), tl32 999 (by decide), tl64 999 (by decide)] at c16); (try simp only [lg_cmp_lt, lg_cmp_le, lg_cmp_gt, lg_cmp_ge, lg_cmp_eq] at hc22); (try simp (disch := omega) only [ta_lt, ta_le, ta_eq, tb_lt, tb_le, tb_eq, tw, tnI, tsub1, tsv, tn32 1 (by decide), tnj 1 (by decide), tl32 0 (by decide), tl64 0 (by decide), tl32 1 (by decide), tl64 1 (by decide), tl32 2 (by decide), tl64 2 (by decide), tl32 3 (by decide), tl64 3 (by decide), tl32 16 (by decide), tl64 16 (by decide), tl32 24 (by decide), tl64 24 (by decide), tl32 58 (by decide), tl64 58 (by decide), tl32 59 (by decide), tl64 59 (by decide), tl32 999 (by decide), tl64 999 (by decide)] at hc22); (try simp only [lg_cmp_lt, lg_cmp_le, lg_cmp_gt, lg_cmp_ge, lg_cmp_eq] at c23); (try simp (disch := omega) only [ta_lt, ta_le, ta_eq, tb_lt, tb_le, tb_eq, tw, tnI, tsub1, tsv, tn32 1 (by decide), tnj 1 (by decide), tl32 0 (by decide), tl64 0 (by decide), tl32 1 (by decide), tl64 1 (by decide), tl32 2 (by decide), tl64 2 (by decide), tl32 3 (by decide), tl64 3 (by decide), tl32 16 (by decide), tl64 16 (by decide), tl32 24 (by decide), tl64 24 (by decide), tl32 58 (by decide), tl64 58 (by decide), tl32 59 (by decide), tl64 59 (by decide), tl32 999 (by decide), tl64 999 (by decide)] at c23); (try simp (disch := omega) only [ta_lt, ta_le, ta_eq, tb_lt, tb_le, tb_eq, tw, tnI, tsub1, tsv, tn32 1 (by decide), tnj 1 (by decide), tl32 0 (by decide), tl64 0 (by decide), tl32 1 (by decide), tl64 1 (by decide), tl32 2 (by decide), tl64 2 (by decide), tl32 3 (by decide), tl64 3 (by decide), tl32 16 (by decide), tl64 16 (by decide), tl32 24 (by decide), tl64 24 (by decide), tl32 58 (by decide), tl64 58 (by decide), tl32 59 (by decide), tl64 59 (by decide), tl32 999 (by decide), tl64 999 (by decide)]); omega) hT fr.refl hw (lv_sub hl [1, 2, 0] rfl)
        · simp (disch := omega) only [ta_lt, ta_le, ta_eq, tnI, tl32 24 (by decide)] at c23
          refine lv_aload_n hx hb (dkP dF_42 DX12_readLine (i := 38) rfl rfl) rfl (lv_at hl 1 rfl) ?_
          refine lv_iconst (v := 3) hx hb (dkP dF_6 DX12_readLine (i := 39) rfl rfl) (by decide) ?_
          refine zk_V hw (zr_V (As := [.int 3]) (rest := []) C0 (c_X12_wrong l G kc ad σ 3 (by first | omega | assumption | decide | rfl) hT _) cv_X12_wrong lk_X12_214 (zp_V C0 hRo hw 0 rfl rfl rfl) rfl hl.1 rfl ⟨by decide, by decide⟩ (Nat.le_of_ble_eq_true rfl) (dk2 dF_182 DX12_readLine (i := 40) rfl rfl rfl) ⟨Nat.le_refl _, Nat.le_refl _⟩) (fun s24 H locs hp hw => ?_)
          obtain ⟨f24_0, hT24, hG24⟩ := hp
          have hF24 : fr true [6, 7] [8, 9, 10, 11, 12, 13] σ s24 := fr.t fr.refl hG24 (by decide) (by decide) (by decide)
          exact jp1 s24 _ _ _ (fun _ => f24_0) hT24 hF24 hw (lv_sub hl [1, 2, 0] rfl)
      · skip
        (try simp (disch := omega) only [ta_lt, ta_le, ta_eq, tb_lt, tb_le, tb_eq, tw, tnI, tn32 1 (by decide), tnj 1 (by decide), tl32 0 (by decide), tl64 0 (by decide), tl32 1 (by decide), tl64 1 (by decide), tl32 2 (by decide), tl64 2 (by decide), tl32 3 (by decide), tl64 3 (by decide), tl32 16 (by decide), tl64 16 (by decide), tl32 24 (by decide), tl64 24 (by decide), tl32 58 (by decide), tl64 58 (by decide), tl32 59 (by decide), tl64 59 (by decide), tl32 999 (by decide), tl64 999 (by decide)] at hc22)
        refine lv_if_ne (tgt := 63) hx hb (dkS dF_154 DX12_readLine (i := 30) rfl rfl rfl) (by decide) (fun h => absurd h (by decide)) (fun _ => ?_)
        refine lv_aload_n hx hb (dkP dF_42 DX12_readLine (i := 31) rfl rfl) rfl (lv_at hl 1 rfl) ?_
        refine lv_iconst (v := 2) hx hb (dkP dF_5 DX12_readLine (i := 32) rfl rfl) (by decide) ?_
        refine zk_V hw (zr_V (As := [.int 2]) (rest := []) C0 (c_X12_wrong l G kc ad σ 2 (by first | omega | assumption | decide | rfl) hT _) cv_X12_wrong lk_X12_214 (zp_V C0 hRo hw 0 rfl rfl rfl) rfl hl.1 rfl ⟨by decide, by decide⟩ (Nat.le_of_ble_eq_true rfl) (dk2 dF_182 DX12_readLine (i := 33) rfl rfl rfl) ⟨Nat.le_refl _, Nat.le_refl _⟩) (fun s25 H locs hp hw => ?_)
        obtain ⟨f25_0, hT25, hG25⟩ := hp
        have hF25 : fr true [6, 7] [8, 9, 10, 11, 12, 13] σ s25 := fr.t fr.refl hG25 (by decide) (by decide) (by decide)
        refine lv_goto (tgt := 74) hx hb (dkS dF_167 DX12_readLine (i := 34) rfl rfl rfl) (by decide) ?_
        exact jp1 s25 _ _ _ (fun _ => f25_0) hT25 hF25 hw (lv_sub hl [1, 2, 0] rfl)
  · (try simp (disch := omega) only [ta_lt, ta_le, ta_eq, tnI, tl32 2 (by decide)] at c14)
    refine lv_aload_n hx hb (dkP dF_42 DX12_readLine (i := 8) rfl rfl) rfl (lv_at hl 1 rfl) ?_
    refine lv_iconst (v := 1) hx hb (dkP dF_4 DX12_readLine (i := 9) rfl rfl) (by decide) ?_
    refine zk_V hw (zr_V (As := [.int 1]) (rest := []) C0 (c_X12_wrong l G kc ad σ 1 (by first | omega | assumption | decide | rfl) hT _) cv_X12_wrong lk_X12_214 (zp_V C0 hRo hw 0 rfl rfl rfl) rfl hl.1 rfl ⟨by decide, by decide⟩ (Nat.le_of_ble_eq_true rfl) (dk2 dF_182 DX12_readLine (i := 10) rfl rfl rfl) ⟨Nat.le_refl _, Nat.le_refl _⟩) (fun s26 H locs hp hw => ?_)
    obtain ⟨f26_0, hT26, hG26⟩ := hp
    have hF26 : fr true [6, 7] [8, 9, 10, 11, 12, 13] σ s26 := fr.t fr.refl hG26 (by decide) (by decide) (by decide)
    refine lv_goto (tgt := 74) hx hb (dkS dF_167 DX12_readLine (i := 11) rfl rfl rfl) (by decide) ?_
    exact jp1 s26 _ _ _ (fun _ => f26_0) hT26 hF26 hw (lv_sub hl [1, 2, 0] rfl)
set_option maxRecDepth 100000 in
set_option maxHeartbeats 8000000 in
theorem c_X12_old (l : Launch) (G : va_G) (kc : KC) (ad : Nat → Nat) (σ : Sg) (program : Int32) (hT : TM σ) : MI l G kc yX12_old cX12_old 3 (some .int) 9 195 [.ref (ad 0), .int program] shM ad σ (fun r σ1 => TM σ1 ∧ fr true [1, 6, 7] [5, 7, 8, 9, 10, 11, 12, 13] σ σ1) := by
  intro sz
  refine z_body (y := yX12_old) (n := 3) (av := [.ref (ad 0), .int program]) (Qc := fun A => va_Qi (fun r σ1 => TM σ1 ∧ fr true [1, 6, 7] [5, 7, 8, 9, 10, 11, 12, 13] σ σ1) (PoC G kc shM ad A) A) (plainFor_of_name (by decide)) (Nat.le_of_ble_eq_true rfl) (fun pr e s m below meth c A C0 hr hlk hnm hw hRo ls hl => ?_) sz
  have hx := C0.1
  have hb := C0.2.1
  have hown := C0.2.2.2.1
  have hts := C0.2.2.2.2.1
  have hl : lv_has ls 3 [(0, .ref (ad 0)), (1, .int program)] := hl
  refine lv_iload_n hx hb (dkP dF_27 DX12_old (i := 0) rfl rfl) rfl (lv_at hl 1 rfl) ?_
  refine zn_I hw (zr_S (As := [.int program]) (rest := []) C0 (c_X12_isProgram l G kc program  _) cs_X12_isProgram lk_X12_272 (zp_P C0 hRo hw a00 s00) rfl hl.1 rfl ⟨by decide, by decide⟩ (Nat.le_of_ble_eq_true rfl) (dk2 dF_184 DX12_old (i := 1) rfl rfl rfl) ⟨Nat.le_refl _, Nat.le_refl _⟩) (fun r1 s1 H locs hp hw => ?_)
  rcases hp with ⟨rfl, hc1⟩ | ⟨rfl, hc1⟩
  · skip
    (try simp (disch := omega) only [ta_lt, ta_le, ta_eq, tb_lt, tb_le, tb_eq, tw, tnI, tn32 1 (by decide), tnj 1 (by decide), tl32 0 (by decide), tl64 0 (by decide)] at hc1)
    obtain ⟨k_program, hk_program, rfl⟩ := to_nat (x := program) (n := 8) (by (try simp only [lg_cmp_lt, lg_cmp_le, lg_cmp_gt, lg_cmp_ge, lg_cmp_eq] at hc1); (try simp (disch := omega) only [ta_lt, ta_le, ta_eq, tb_lt, tb_le, tb_eq, tw, tnI, tn32 1 (by decide), tnj 1 (by decide), tl32 0 (by decide), tl64 0 (by decide)] at hc1); (try simp (disch := omega) only [ta_lt, ta_le, ta_eq, tb_lt, tb_le, tb_eq, tw, tnI, tn32 1 (by decide), tnj 1 (by decide), tl32 0 (by decide), tl64 0 (by decide)]); omega)
    refine lv_if_eq (tgt := 15) hx hb (dkS dF_153 DX12_old (i := 2) rfl rfl rfl) (by decide) (fun h => absurd h (by decide)) (fun _ => ?_)
    refine lv_aload_n hx hb (dkP dF_42 DX12_old (i := 3) rfl rfl) rfl (lv_at hl 0 rfl) ?_
    refine lv_iload_n hx hb (dkP dF_27 DX12_old (i := 4) rfl rfl) rfl (lv_at hl 1 rfl) ?_
    refine zk_I hw (zr_V (As := [.int (nI k_program)]) (rest := []) C0 (c_X12_stateOf l G kc ad σ k_program (by first | omega | assumption | decide | rfl) _) cv_X12_stateOf lk_X12_275 (zp_V C0 hRo hw 0 rfl rfl rfl) rfl hl.1 rfl ⟨by decide, by decide⟩ (Nat.le_of_ble_eq_true rfl) (dk2 dF_182 DX12_old (i := 5) rfl rfl rfl) ⟨Nat.le_refl _, Nat.le_refl _⟩) (fun r2 s2 H locs hp hw => ?_)
    obtain ⟨rfl, hs2⟩ := hp
    (rw [hs2] at hw; clear hs2)
    obtain ⟨v3, ev3⟩ : ∃ y : Int32, σ.1 1 (8 + 20 * k_program) = y := ⟨_, rfl⟩
    refine z_top (y := v3) ev3 ?_
    refine lv_if_eq (tgt := 18) hx hb (dkS dF_153 DX12_old (i := 6) rfl rfl rfl) (by decide) (fun c4 => ?_) (fun c4 => ?_)
    · (try simp (disch := omega) only [ta_lt, ta_le, ta_eq, tnI, tl32 0 (by decide)] at c4)
      refine lv_aload_n hx hb (dkP dF_42 DX12_old (i := 9) rfl rfl) rfl (lv_at hl 0 rfl) ?_
      refine zk_V hw (zr_V (As := []) (rest := []) C0 (c_X12_begins l G kc ad σ hT _) cv_X12_begins lk_X12_278 (zp_V C0 hRo hw 0 rfl rfl rfl) rfl hl.1 rfl ⟨by decide, by decide⟩ (Nat.le_of_ble_eq_true rfl) (dk2 dF_182 DX12_old (i := 10) rfl rfl rfl) ⟨Nat.le_refl _, Nat.le_refl _⟩) (fun s5 H locs hp hw => ?_)
      obtain ⟨hT5, hG5⟩ := hp
      have hF5 : fr true [1, 6, 7] [5, 7, 8, 9, 10, 11, 12, 13] σ s5 := fr.t fr.refl hG5 (by decide) (by decide) (by decide)
      refine lv_iconst (v := 0) hx hb (dkP dF_3 DX12_old (i := 11) rfl rfl) (by decide) ?_
      refine lv_istore_n (lv' := [(2, .int 0), (0, .ref (ad 0)), (1, .int (nI k_program))]) hx hb (dkP dF_61 DX12_old (i := 12) rfl rfl) rfl hl (by decide) rfl (fun ls hl => ?_)
      have lp7 : ∀ (nq : Nat) (q2_24 : Nat) (τ6 : Sg) (H : Heap) (locs : List Loc) (ls : Array Slot), 26 - q2_24 < nq → (q2_24 ≤ 25) → (q2_24 = 25 → ¬ τ6.1 0 12 = 0) → (TM τ6) → (fr true [1, 6, 7] [5, 7, 8, 9, 10, 11, 12, 13] σ τ6) → St G kc A s.heap shM ad τ6 H locs → lv_has ls 3 [(2, .int (nI q2_24)), (0, .ref (ad 0)), (1, .int (nI k_program))] → W pr l e { frames := 9, cells := 0, slots := 0, locals := 195 } s m ([.ref (ad 0), .int (nI k_program)] : List Value).toArray below meth c H locs 0 0 (MQ below (va_Qi (fun r σ1 => TM σ1 ∧ fr true [1, 6, 7] [5, 7, 8, 9, 10, 11, 12, 13] σ σ1) (PoC G kc shM ad A) A) ([.ref (ad 0), .int (nI k_program)] : List Value).toArray s 0 0 A) (F0 m 24 ls []) := by
        intro nq
        induction nq with
        | zero => intro q2_24 τ6 H locs ls hmu; exact absurd hmu (Nat.not_lt_zero _)
        | succ nq ih7 =>
          intro q2_24 τ6 H locs ls hmu hq2_24 h25 hT_τ6 hF_τ6 hw hl
          refine lv_aload_n hx hb (dkP dF_42 DX12_old (i := 13) rfl rfl) rfl (lv_at hl 1 rfl) ?_
          refine zk_I hw (zr_V (As := []) (rest := []) C0 (c_X12_good l G kc ad τ6  _) cv_X12_good lk_X12_190 (zp_V C0 hRo hw 0 rfl rfl rfl) rfl hl.1 rfl ⟨by decide, by decide⟩ (Nat.le_of_ble_eq_true rfl) (dk2 dF_182 DX12_old (i := 14) rfl rfl rfl) ⟨Nat.le_refl _, Nat.le_refl _⟩) (fun r8 s8 H locs hp hw => ?_)
          obtain ⟨hq8, hs8⟩ := hp
          (rw [hs8] at hw; clear hs8)
          rcases hq8 with ⟨rfl, hc8⟩ | ⟨rfl, hc8⟩
          · skip
            refine lv_if_eq (tgt := 49) hx hb (dkS dF_153 DX12_old (i := 15) rfl rfl rfl) (by decide) (fun h => absurd h (by decide)) (fun _ => ?_)
            refine lv_aload_n hx hb (dkP dF_42 DX12_old (i := 16) rfl rfl) rfl (lv_at hl 1 rfl) ?_
            refine z_gi C0 hw 0 10 rfl fl_X12_162 (dk2 dF_180 DX12_old (i := 17) rfl rfl rfl) ?_
            obtain ⟨v9, ev9⟩ : ∃ y : Int32, τ6.1 0 10 = y := ⟨_, rfl⟩
            refine z_top (y := v9) ev9 ?_
            refine lv_if_eq (tgt := 49) hx hb (dkS dF_153 DX12_old (i := 18) rfl rfl rfl) (by decide) (fun c10 => ?_) (fun c10 => ?_)
            · (try simp (disch := omega) only [ta_lt, ta_le, ta_eq, tnI, tl32 0 (by decide)] at c10)
              refine lv_aload_n hx hb (dkP dF_42 DX12_old (i := 24) rfl rfl) rfl (lv_at hl 1 rfl) ?_
              refine zk_I hw (zr_V (As := []) (rest := []) C0 (c_X12_good l G kc ad τ6  _) cv_X12_good lk_X12_190 (zp_V C0 hRo hw 0 rfl rfl rfl) rfl hl.1 rfl ⟨by decide, by decide⟩ (Nat.le_of_ble_eq_true rfl) (dk2 dF_182 DX12_old (i := 25) rfl rfl rfl) ⟨Nat.le_refl _, Nat.le_refl _⟩) (fun r11 s11 H locs hp hw => ?_)
              obtain ⟨hq11, hs11⟩ := hp
              (rw [hs11] at hw; clear hs11)
              rcases hq11 with ⟨rfl, hc11⟩ | ⟨rfl, hc11⟩
              · skip
                refine lv_if_ne (tgt := 59) hx hb (dkS dF_154 DX12_old (i := 26) rfl rfl rfl) (by decide) (fun _ => ?_) (fun h => absurd h (by decide))
                have hq24 : q2_24 ≤ 24 := by have h : q2_24 ≠ 25 := fun h => h25 h hc11; omega
                refine lv_aload_n hx hb (dkP dF_42 DX12_old (i := 29) rfl rfl) rfl (lv_at hl 1 rfl) ?_
                refine z_gr C0 hw 0 1 1 rfl fl_X12_20 (dk2 dF_180 DX12_old (i := 30) rfl rfl rfl) ?_
                refine lv_iload_n hx hb (dkP dF_27 DX12_old (i := 31) rfl rfl) rfl (lv_at hl 2 rfl) ?_
                refine zn_I hw (zr_S (As := [.int (nI k_program)]) (rest := [.ref (ad 1)]) C0 (c_X12_of l G kc k_program  _) cs_X12_of lk_X12_139 (zp_P C0 hRo hw a00 s00) rfl hl.1 rfl ⟨by decide, by decide⟩ (Nat.le_of_ble_eq_true rfl) (dk2 dF_184 DX12_old (i := 32) rfl rfl rfl) ⟨Nat.le_refl _, Nat.le_refl _⟩) (fun r12 s12 H locs hp hw => ?_)
                subst hp
                refine lv_iconst (v := 1) hx hb (dkP dF_4 DX12_old (i := 33) rfl rfl) (by decide) ?_
                refine lv_iadd hx hb (dkP dF_96 DX12_old (i := 34) rfl rfl) ?_
                refine z_top (y := nI ((8 + 20 * k_program) + 1)) (by simp only [fa_lit, nI_add, pk_mul]) ?_
                refine lv_iload_n hx hb (dkP dF_28 DX12_old (i := 35) rfl rfl) rfl (lv_at hl 0 rfl) ?_
                refine z_iastN (n := 414128) C0 hw 1 ((8 + 20 * k_program) + 1) rfl (by omega) (by decide) (dkP dF_79 DX12_old (i := 36) rfl rfl) (fun H locs hw => ?_)
                have hT13 : TM (sI τ6 1 ((8 + 20 * k_program) + 1) (nI q2_24)) := TM.w hT_τ6 (by simp only [tyM, wTy]; (repeat' split) <;> first | trivial | omega | (simp (disch := omega) only [tnI, tn32 1 (by decide), tl32 0 (by decide), tl32 1 (by decide)]; omega))
                have hF13 : fr true [1, 6, 7] [5, 7, 8, 9, 10, 11, 12, 13] σ (sI τ6 1 ((8 + 20 * k_program) + 1) (nI q2_24)) := fr.w hF_τ6 (Or.inl ⟨by decide, by decide⟩) (fun _ _ => by unfold KR; omega)
                refine lv_aload_n hx hb (dkP dF_42 DX12_old (i := 37) rfl rfl) rfl (lv_at hl 1 rfl) ?_
                refine z_gr C0 hw 0 15 7 rfl fl_X12_45 (dk2 dF_180 DX12_old (i := 38) rfl rfl rfl) ?_
                refine lv_iconst (v := 0) hx hb (dkP dF_3 DX12_old (i := 39) rfl rfl) (by decide) ?_
                refine lv_aload_n hx hb (dkP dF_42 DX12_old (i := 40) rfl rfl) rfl (lv_at hl 1 rfl) ?_
                refine z_gr C0 hw 0 1 1 rfl fl_X12_20 (dk2 dF_180 DX12_old (i := 41) rfl rfl rfl) ?_
                refine lv_iload_n hx hb (dkP dF_27 DX12_old (i := 42) rfl rfl) rfl (lv_at hl 2 rfl) ?_
                refine lv_iconst (v := 0) hx hb (dkP dF_3 DX12_old (i := 43) rfl rfl) (by decide) ?_
                refine zn_I hw (zr_S (As := [.int (nI k_program), .int 0]) (rest := [.ref (ad 1), .int 0, .ref (ad 7)]) C0 (c_X12_lineAt l G kc k_program 0  _) cs_X12_lineAt lk_X12_284 (zp_P C0 hRo hw a00 s00) rfl hl.1 rfl ⟨by decide, by decide⟩ (Nat.le_of_ble_eq_true rfl) (dk2 dF_184 DX12_old (i := 44) rfl rfl rfl) ⟨Nat.le_refl _, Nat.le_refl _⟩) (fun r14 s14 H locs hp hw => ?_)
                subst hp
                refine lv_bipush (v := 16) hx hb (dks dF_16 DX12_old (i := 45) rfl rfl rfl) (by decide) ?_
                refine lv_iload_n hx hb (dkP dF_28 DX12_old (i := 46) rfl rfl) rfl (lv_at hl 0 rfl) ?_
                refine lv_imul hx hb (dkP dF_104 DX12_old (i := 47) rfl rfl) ?_
                refine z_top (y := nI (16 * q2_24)) (by simp only [fa_lit, nI_add, pk_mul]) ?_
                refine zk_V hw (zr_S (As := [.ref (ad 7), .int 0, .ref (ad 1), .int (nI (168 + 16 * (24 * k_program + 0))), .int (nI (16 * q2_24))]) (rest := []) C0 (c_X12_lays_7_1 l G kc ad (sI τ6 1 ((8 + 20 * k_program) + 1) (nI q2_24)) 0 (168 + 16 * (24 * k_program + 0)) (16 * q2_24) (by omega) (by omega) (fun i hi v h => ty_lw (by omega) (by omega) h) (fun i hi => by unfold KR; omega) hT13 _) cs_X12_lays lk_X12_255 (zp_S C0 hRo hw) rfl hl.1 rfl ⟨by decide, by decide⟩ (Nat.le_of_ble_eq_true rfl) (dk2 dF_184 DX12_old (i := 48) rfl rfl rfl) ⟨Nat.le_refl _, Nat.le_refl _⟩) (fun s15 H locs hp hw => ?_)
                obtain ⟨f15_0, hT15, hG15⟩ := hp
                have hF15 : fr true [1, 6, 7] [5, 7, 8, 9, 10, 11, 12, 13] σ s15 := fr.t hF13 hG15 (by decide) (by decide) (by decide)
                refine lv_aload_n hx hb (dkP dF_42 DX12_old (i := 49) rfl rfl) rfl (lv_at hl 1 rfl) ?_
                refine z_gr C0 hw 0 1 1 rfl fl_X12_20 (dk2 dF_180 DX12_old (i := 50) rfl rfl rfl) ?_
                refine lv_iload_n hx hb (dkP dF_27 DX12_old (i := 51) rfl rfl) rfl (lv_at hl 2 rfl) ?_
                refine zn_I hw (zr_S (As := [.int (nI k_program)]) (rest := [.ref (ad 1)]) C0 (c_X12_of l G kc k_program  _) cs_X12_of lk_X12_139 (zp_P C0 hRo hw a00 s00) rfl hl.1 rfl ⟨by decide, by decide⟩ (Nat.le_of_ble_eq_true rfl) (dk2 dF_184 DX12_old (i := 52) rfl rfl rfl) ⟨Nat.le_refl _, Nat.le_refl _⟩) (fun r16 s16 H locs hp hw => ?_)
                subst hp
                refine lv_iconst (v := 3) hx hb (dkP dF_6 DX12_old (i := 53) rfl rfl) (by decide) ?_
                refine lv_iadd hx hb (dkP dF_96 DX12_old (i := 54) rfl rfl) ?_
                refine z_top (y := nI ((8 + 20 * k_program) + 3)) (by simp only [fa_lit, nI_add, pk_mul]) ?_
                refine lv_iconst (v := (-1)) hx hb (dkP dF_2 DX12_old (i := 55) rfl rfl) (by decide) ?_
                refine z_iastN (n := 414128) C0 hw 1 ((8 + 20 * k_program) + 3) rfl (by omega) (by decide) (dkP dF_79 DX12_old (i := 56) rfl rfl) (fun H locs hw => ?_)
                have hT17 : TM (sI s15 1 ((8 + 20 * k_program) + 3) (-1)) := TM.w hT15 (by simp only [tyM, wTy]; (repeat' split) <;> first | trivial | omega | (simp (disch := omega) only [tnI, tn32 1 (by decide), tl32 0 (by decide), tl32 1 (by decide), tl32 3 (by decide), tl32 16 (by decide)]; omega))
                have hF17 : fr true [1, 6, 7] [5, 7, 8, 9, 10, 11, 12, 13] σ (sI s15 1 ((8 + 20 * k_program) + 3) (-1)) := fr.w hF15 (Or.inl ⟨by decide, by decide⟩) (fun _ _ => by unfold KR; omega)
                refine lv_iload_n hx hb (dkP dF_28 DX12_old (i := 57) rfl rfl) rfl (lv_at hl 0 rfl) ?_
                exact z_iret C0 hr hlk hw (⟨hT17, hF17⟩) (dkP dF_172 DX12_old (i := 58) rfl rfl)
              · skip
                refine lv_if_ne (tgt := 59) hx hb (dkS dF_154 DX12_old (i := 26) rfl rfl rfl) (by decide) (fun h => absurd h (by decide)) (fun _ => ?_)
                refine lv_bipush (v := (-4)) hx hb (dks dF_16 DX12_old (i := 27) rfl rfl rfl) (by decide) ?_
                exact z_iret C0 hr hlk hw (⟨hT_τ6, hF_τ6⟩) (dkP dF_172 DX12_old (i := 28) rfl rfl)
            · (try simp (disch := omega) only [ta_lt, ta_le, ta_eq, tnI, tl32 0 (by decide)] at c10)
              have hq24 : q2_24 ≤ 24 := by have h : q2_24 ≠ 25 := fun h => h25 h hc8; omega
              refine lv_aload_n hx hb (dkP dF_42 DX12_old (i := 19) rfl rfl) rfl (lv_at hl 1 rfl) ?_
              refine lv_iload_n hx hb (dkP dF_28 DX12_old (i := 20) rfl rfl) rfl (lv_at hl 0 rfl) ?_
              refine zk_V hw (zr_V (As := [.int (nI q2_24)]) (rest := []) C0 (c_X12_readLine l G kc ad τ6 q2_24 (by first | omega | assumption | decide | rfl) hT_τ6 _) cv_X12_readLine lk_X12_281 (zp_V C0 hRo hw 0 rfl rfl rfl) rfl hl.1 rfl ⟨by decide, by decide⟩ (Nat.le_of_ble_eq_true rfl) (dk2 dF_182 DX12_old (i := 21) rfl rfl rfl) ⟨Nat.le_refl _, Nat.le_refl _⟩) (fun s18 H locs hp hw => ?_)
              obtain ⟨f18_0, hT18, hG18⟩ := hp
              have hF18 : fr true [1, 6, 7] [5, 7, 8, 9, 10, 11, 12, 13] σ s18 := fr.t hF_τ6 hG18 (by decide) (by decide) (by decide)
              refine lv_iinc (v := nI (q2_24 + 1)) (lv' := [(2, .int (nI (q2_24 + 1))), (0, .ref (ad 0)), (1, .int (nI k_program))]) hx hb (dkI DX12_old (i := 22) rfl rfl rfl rfl) hl (k := 0) rfl (nI_1 _) (by decide) rfl (fun ls hl => ?_)
              refine lv_goto (tgt := 24) hx hb (dkS dF_167 DX12_old (i := 23) rfl rfl rfl) (by decide) ?_
              exact ih7 (q2_24 + 1) s18 _ _ _ (by omega) (by (try simp only [lg_cmp_lt, lg_cmp_le, lg_cmp_gt, lg_cmp_ge, lg_cmp_eq] at hc1); (try simp (disch := omega) only [ta_lt, ta_le, ta_eq, tb_lt, tb_le, tb_eq, tw, tnI, tsub1, tsv, tn32 4 (by decide), tnj 4 (by decide), tn32 1 (by decide), tnj 1 (by decide), tl32 0 (by decide), tl64 0 (by decide), tl32 1 (by decide), tl64 1 (by decide), tl32 3 (by decide), tl64 3 (by decide), tl32 16 (by decide), tl64 16 (by decide)] at hc1); (try simp only [lg_cmp_lt, lg_cmp_le, lg_cmp_gt, lg_cmp_ge, lg_cmp_eq] at c4); (try simp (disch := omega) only [ta_lt, ta_le, ta_eq, tb_lt, tb_le, tb_eq, tw, tnI, tsub1, tsv, tn32 4 (by decide), tnj 4 (by decide), tn32 1 (by decide), tnj 1 (by decide), tl32 0 (by decide), tl64 0 (by decide), tl32 1 (by decide), tl64 1 (by decide), tl32 3 (by decide), tl64 3 (by decide), tl32 16 (by decide), tl64 16 (by decide)] at c4); (try simp only [lg_cmp_lt, lg_cmp_le, lg_cmp_gt, lg_cmp_ge, lg_cmp_eq] at hc8); (try simp (disch := omega) only [ta_lt, ta_le, ta_eq, tb_lt, tb_le, tb_eq, tw, tnI, tsub1, tsv, tn32 4 (by decide), tnj 4 (by decide), tn32 1 (by decide), tnj 1 (by decide), tl32 0 (by decide), tl64 0 (by decide), tl32 1 (by decide), tl64 1 (by decide), tl32 3 (by decide), tl64 3 (by decide), tl32 16 (by decide), tl64 16 (by decide)] at hc8); (try simp only [lg_cmp_lt, lg_cmp_le, lg_cmp_gt, lg_cmp_ge, lg_cmp_eq] at c10); (try simp (disch := omega) only [ta_lt, ta_le, ta_eq, tb_lt, tb_le, tb_eq, tw, tnI, tsub1, tsv, tn32 4 (by decide), tnj 4 (by decide), tn32 1 (by decide), tnj 1 (by decide), tl32 0 (by decide), tl64 0 (by decide), tl32 1 (by decide), tl64 1 (by decide), tl32 3 (by decide), tl64 3 (by decide), tl32 16 (by decide), tl64 16 (by decide)] at c10); (try simp only [lg_cmp_lt, lg_cmp_le, lg_cmp_gt, lg_cmp_ge, lg_cmp_eq] at f18_0); (try simp (disch := omega) only [ta_lt, ta_le, ta_eq, tb_lt, tb_le, tb_eq, tw, tnI, tsub1, tsv, tn32 4 (by decide), tnj 4 (by decide), tn32 1 (by decide), tnj 1 (by decide), tl32 0 (by decide), tl64 0 (by decide), tl32 1 (by decide), tl64 1 (by decide), tl32 3 (by decide), tl64 3 (by decide), tl32 16 (by decide), tl64 16 (by decide)] at f18_0); (try simp (disch := omega) only [ta_lt, ta_le, ta_eq, tb_lt, tb_le, tb_eq, tw, tnI, tsub1, tsv, tn32 4 (by decide), tnj 4 (by decide), tn32 1 (by decide), tnj 1 (by decide), tl32 0 (by decide), tl64 0 (by decide), tl32 1 (by decide), tl64 1 (by decide), tl32 3 (by decide), tl64 3 (by decide), tl32 16 (by decide), tl64 16 (by decide)]); omega) (fun h => f18_0 (by omega)) hT18 hF18 hw (lv_sub hl [0, 1, 2] rfl)
          · skip
            refine lv_if_eq (tgt := 49) hx hb (dkS dF_153 DX12_old (i := 15) rfl rfl rfl) (by decide) (fun _ => ?_) (fun h => absurd h (by decide))
            refine lv_aload_n hx hb (dkP dF_42 DX12_old (i := 24) rfl rfl) rfl (lv_at hl 1 rfl) ?_
            refine zk_I hw (zr_V (As := []) (rest := []) C0 (c_X12_good l G kc ad τ6  _) cv_X12_good lk_X12_190 (zp_V C0 hRo hw 0 rfl rfl rfl) rfl hl.1 rfl ⟨by decide, by decide⟩ (Nat.le_of_ble_eq_true rfl) (dk2 dF_182 DX12_old (i := 25) rfl rfl rfl) ⟨Nat.le_refl _, Nat.le_refl _⟩) (fun r19 s19 H locs hp hw => ?_)
            obtain ⟨hq19, hs19⟩ := hp
            (rw [hs19] at hw; clear hs19)
            rcases hq19 with ⟨rfl, hc19⟩ | ⟨rfl, hc19⟩
            · skip
              refine lv_if_ne (tgt := 59) hx hb (dkS dF_154 DX12_old (i := 26) rfl rfl rfl) (by decide) (fun _ => ?_) (fun h => absurd h (by decide))
              have hq24 : q2_24 ≤ 24 := by have h : q2_24 ≠ 25 := fun h => h25 h hc19; omega
              refine lv_aload_n hx hb (dkP dF_42 DX12_old (i := 29) rfl rfl) rfl (lv_at hl 1 rfl) ?_
              refine z_gr C0 hw 0 1 1 rfl fl_X12_20 (dk2 dF_180 DX12_old (i := 30) rfl rfl rfl) ?_
              refine lv_iload_n hx hb (dkP dF_27 DX12_old (i := 31) rfl rfl) rfl (lv_at hl 2 rfl) ?_
              refine zn_I hw (zr_S (As := [.int (nI k_program)]) (rest := [.ref (ad 1)]) C0 (c_X12_of l G kc k_program  _) cs_X12_of lk_X12_139 (zp_P C0 hRo hw a00 s00) rfl hl.1 rfl ⟨by decide, by decide⟩ (Nat.le_of_ble_eq_true rfl) (dk2 dF_184 DX12_old (i := 32) rfl rfl rfl) ⟨Nat.le_refl _, Nat.le_refl _⟩) (fun r20 s20 H locs hp hw => ?_)
              subst hp
              refine lv_iconst (v := 1) hx hb (dkP dF_4 DX12_old (i := 33) rfl rfl) (by decide) ?_
              refine lv_iadd hx hb (dkP dF_96 DX12_old (i := 34) rfl rfl) ?_
              refine z_top (y := nI ((8 + 20 * k_program) + 1)) (by simp only [fa_lit, nI_add, pk_mul]) ?_
              refine lv_iload_n hx hb (dkP dF_28 DX12_old (i := 35) rfl rfl) rfl (lv_at hl 0 rfl) ?_
              refine z_iastN (n := 414128) C0 hw 1 ((8 + 20 * k_program) + 1) rfl (by omega) (by decide) (dkP dF_79 DX12_old (i := 36) rfl rfl) (fun H locs hw => ?_)
              have hT21 : TM (sI τ6 1 ((8 + 20 * k_program) + 1) (nI q2_24)) := TM.w hT_τ6 (by simp only [tyM, wTy]; (repeat' split) <;> first | trivial | omega | (simp (disch := omega) only [tnI, tn32 4 (by decide), tn32 1 (by decide), tl32 0 (by decide), tl32 1 (by decide), tl32 3 (by decide), tl32 16 (by decide)]; omega))
              have hF21 : fr true [1, 6, 7] [5, 7, 8, 9, 10, 11, 12, 13] σ (sI τ6 1 ((8 + 20 * k_program) + 1) (nI q2_24)) := fr.w hF_τ6 (Or.inl ⟨by decide, by decide⟩) (fun _ _ => by unfold KR; omega)
              refine lv_aload_n hx hb (dkP dF_42 DX12_old (i := 37) rfl rfl) rfl (lv_at hl 1 rfl) ?_
              refine z_gr C0 hw 0 15 7 rfl fl_X12_45 (dk2 dF_180 DX12_old (i := 38) rfl rfl rfl) ?_
              refine lv_iconst (v := 0) hx hb (dkP dF_3 DX12_old (i := 39) rfl rfl) (by decide) ?_
              refine lv_aload_n hx hb (dkP dF_42 DX12_old (i := 40) rfl rfl) rfl (lv_at hl 1 rfl) ?_
              refine z_gr C0 hw 0 1 1 rfl fl_X12_20 (dk2 dF_180 DX12_old (i := 41) rfl rfl rfl) ?_
              refine lv_iload_n hx hb (dkP dF_27 DX12_old (i := 42) rfl rfl) rfl (lv_at hl 2 rfl) ?_
              refine lv_iconst (v := 0) hx hb (dkP dF_3 DX12_old (i := 43) rfl rfl) (by decide) ?_
              refine zn_I hw (zr_S (As := [.int (nI k_program), .int 0]) (rest := [.ref (ad 1), .int 0, .ref (ad 7)]) C0 (c_X12_lineAt l G kc k_program 0  _) cs_X12_lineAt lk_X12_284 (zp_P C0 hRo hw a00 s00) rfl hl.1 rfl ⟨by decide, by decide⟩ (Nat.le_of_ble_eq_true rfl) (dk2 dF_184 DX12_old (i := 44) rfl rfl rfl) ⟨Nat.le_refl _, Nat.le_refl _⟩) (fun r22 s22 H locs hp hw => ?_)
              subst hp
              refine lv_bipush (v := 16) hx hb (dks dF_16 DX12_old (i := 45) rfl rfl rfl) (by decide) ?_
              refine lv_iload_n hx hb (dkP dF_28 DX12_old (i := 46) rfl rfl) rfl (lv_at hl 0 rfl) ?_
              refine lv_imul hx hb (dkP dF_104 DX12_old (i := 47) rfl rfl) ?_
              refine z_top (y := nI (16 * q2_24)) (by simp only [fa_lit, nI_add, pk_mul]) ?_
              refine zk_V hw (zr_S (As := [.ref (ad 7), .int 0, .ref (ad 1), .int (nI (168 + 16 * (24 * k_program + 0))), .int (nI (16 * q2_24))]) (rest := []) C0 (c_X12_lays_7_1 l G kc ad (sI τ6 1 ((8 + 20 * k_program) + 1) (nI q2_24)) 0 (168 + 16 * (24 * k_program + 0)) (16 * q2_24) (by omega) (by omega) (fun i hi v h => ty_lw (by omega) (by omega) h) (fun i hi => by unfold KR; omega) hT21 _) cs_X12_lays lk_X12_255 (zp_S C0 hRo hw) rfl hl.1 rfl ⟨by decide, by decide⟩ (Nat.le_of_ble_eq_true rfl) (dk2 dF_184 DX12_old (i := 48) rfl rfl rfl) ⟨Nat.le_refl _, Nat.le_refl _⟩) (fun s23 H locs hp hw => ?_)
              obtain ⟨f23_0, hT23, hG23⟩ := hp
              have hF23 : fr true [1, 6, 7] [5, 7, 8, 9, 10, 11, 12, 13] σ s23 := fr.t hF21 hG23 (by decide) (by decide) (by decide)
              refine lv_aload_n hx hb (dkP dF_42 DX12_old (i := 49) rfl rfl) rfl (lv_at hl 1 rfl) ?_
              refine z_gr C0 hw 0 1 1 rfl fl_X12_20 (dk2 dF_180 DX12_old (i := 50) rfl rfl rfl) ?_
              refine lv_iload_n hx hb (dkP dF_27 DX12_old (i := 51) rfl rfl) rfl (lv_at hl 2 rfl) ?_
              refine zn_I hw (zr_S (As := [.int (nI k_program)]) (rest := [.ref (ad 1)]) C0 (c_X12_of l G kc k_program  _) cs_X12_of lk_X12_139 (zp_P C0 hRo hw a00 s00) rfl hl.1 rfl ⟨by decide, by decide⟩ (Nat.le_of_ble_eq_true rfl) (dk2 dF_184 DX12_old (i := 52) rfl rfl rfl) ⟨Nat.le_refl _, Nat.le_refl _⟩) (fun r24 s24 H locs hp hw => ?_)
              subst hp
              refine lv_iconst (v := 3) hx hb (dkP dF_6 DX12_old (i := 53) rfl rfl) (by decide) ?_
              refine lv_iadd hx hb (dkP dF_96 DX12_old (i := 54) rfl rfl) ?_
              refine z_top (y := nI ((8 + 20 * k_program) + 3)) (by simp only [fa_lit, nI_add, pk_mul]) ?_
              refine lv_iconst (v := (-1)) hx hb (dkP dF_2 DX12_old (i := 55) rfl rfl) (by decide) ?_
              refine z_iastN (n := 414128) C0 hw 1 ((8 + 20 * k_program) + 3) rfl (by omega) (by decide) (dkP dF_79 DX12_old (i := 56) rfl rfl) (fun H locs hw => ?_)
              have hT25 : TM (sI s23 1 ((8 + 20 * k_program) + 3) (-1)) := TM.w hT23 (by simp only [tyM, wTy]; (repeat' split) <;> first | trivial | omega | (simp (disch := omega) only [tnI, tn32 4 (by decide), tn32 1 (by decide), tl32 0 (by decide), tl32 1 (by decide), tl32 3 (by decide), tl32 16 (by decide)]; omega))
              have hF25 : fr true [1, 6, 7] [5, 7, 8, 9, 10, 11, 12, 13] σ (sI s23 1 ((8 + 20 * k_program) + 3) (-1)) := fr.w hF23 (Or.inl ⟨by decide, by decide⟩) (fun _ _ => by unfold KR; omega)
              refine lv_iload_n hx hb (dkP dF_28 DX12_old (i := 57) rfl rfl) rfl (lv_at hl 0 rfl) ?_
              exact z_iret C0 hr hlk hw (⟨hT25, hF25⟩) (dkP dF_172 DX12_old (i := 58) rfl rfl)
            · skip
              refine lv_if_ne (tgt := 59) hx hb (dkS dF_154 DX12_old (i := 26) rfl rfl rfl) (by decide) (fun h => absurd h (by decide)) (fun _ => ?_)
              refine lv_bipush (v := (-4)) hx hb (dks dF_16 DX12_old (i := 27) rfl rfl rfl) (by decide) ?_
              exact z_iret C0 hr hlk hw (⟨hT_τ6, hF_τ6⟩) (dkP dF_172 DX12_old (i := 28) rfl rfl)
      exact lp7 _ 0 s5 _ _ _ (Nat.lt_succ_self _) (by (try simp only [lg_cmp_lt, lg_cmp_le, lg_cmp_gt, lg_cmp_ge, lg_cmp_eq] at hc1); (try simp (disch := omega) only [ta_lt, ta_le, ta_eq, tb_lt, tb_le, tb_eq, tw, tnI, tsub1, tsv, tn32 4 (by decide), tnj 4 (by decide), tn32 1 (by decide), tnj 1 (by decide), tl32 0 (by decide), tl64 0 (by decide), tl32 1 (by decide), tl64 1 (by decide), tl32 3 (by decide), tl64 3 (by decide), tl32 16 (by decide), tl64 16 (by decide)] at hc1); (try simp only [lg_cmp_lt, lg_cmp_le, lg_cmp_gt, lg_cmp_ge, lg_cmp_eq] at c4); (try simp (disch := omega) only [ta_lt, ta_le, ta_eq, tb_lt, tb_le, tb_eq, tw, tnI, tsub1, tsv, tn32 4 (by decide), tnj 4 (by decide), tn32 1 (by decide), tnj 1 (by decide), tl32 0 (by decide), tl64 0 (by decide), tl32 1 (by decide), tl64 1 (by decide), tl32 3 (by decide), tl64 3 (by decide), tl32 16 (by decide), tl64 16 (by decide)] at c4); (try simp (disch := omega) only [ta_lt, ta_le, ta_eq, tb_lt, tb_le, tb_eq, tw, tnI, tsub1, tsv, tn32 4 (by decide), tnj 4 (by decide), tn32 1 (by decide), tnj 1 (by decide), tl32 0 (by decide), tl64 0 (by decide), tl32 1 (by decide), tl64 1 (by decide), tl32 3 (by decide), tl64 3 (by decide), tl32 16 (by decide), tl64 16 (by decide)]); omega) (fun h => absurd h (by omega)) hT5 hF5 hw (lv_sub hl [0, 1, 2] rfl)
    · (try simp (disch := omega) only [ta_lt, ta_le, ta_eq, tnI, tl32 0 (by decide)] at c4)
      refine lv_bipush (v := (-2)) hx hb (dks dF_16 DX12_old (i := 7) rfl rfl rfl) (by decide) ?_
      exact z_iret C0 hr hlk hw (⟨hT, fr.refl⟩) (dkP dF_172 DX12_old (i := 8) rfl rfl)
  · skip
    (try simp (disch := omega) only [ta_lt, ta_le, ta_eq, tb_lt, tb_le, tb_eq, tw, tnI, tn32 4 (by decide), tnj 4 (by decide), tn32 2 (by decide), tnj 2 (by decide), tn32 1 (by decide), tnj 1 (by decide), tl32 0 (by decide), tl64 0 (by decide), tl32 1 (by decide), tl64 1 (by decide), tl32 3 (by decide), tl64 3 (by decide), tl32 16 (by decide), tl64 16 (by decide)] at hc1)
    refine lv_if_eq (tgt := 15) hx hb (dkS dF_153 DX12_old (i := 2) rfl rfl rfl) (by decide) (fun _ => ?_) (fun h => absurd h (by decide))
    refine lv_bipush (v := (-2)) hx hb (dks dF_16 DX12_old (i := 7) rfl rfl rfl) (by decide) ?_
    exact z_iret C0 hr hlk hw (⟨hT, fr.refl⟩) (dkP dF_172 DX12_old (i := 8) rfl rfl)
