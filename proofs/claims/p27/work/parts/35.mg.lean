set_option maxRecDepth 100000 in
set_option maxHeartbeats 8000000 in
theorem c_X12_leads (l : Launch) (G : va_G) (kc : KC) (ad : Nat → Nat) (σ : Sg) (k : Nat) (hk : 414028 ≤ k) (hk2 : k + 4 < 414128) (hT : TM σ) : MI l G kc yX12_leads cX12_leads 3 (some .int) 1 22 [.ref (ad 0), .int (nI k)] shM ad σ (fun r σ1 => TM σ1 ∧ fr false [1] [] σ σ1) := by
  intro sz
  refine z_body (y := yX12_leads) (n := 3) (av := [.ref (ad 0), .int (nI k)]) (Qc := fun A => va_Qi (fun r σ1 => TM σ1 ∧ fr false [1] [] σ σ1) (PoC G kc shM ad A) A) (plainFor_of_name (by decide)) (Nat.le_of_ble_eq_true rfl) (fun pr e s m below meth c A C0 hr hlk hnm hw hRo ls hl => ?_) sz
  have hx := C0.1
  have hb := C0.2.1
  have hown := C0.2.2.2.1
  have hts := C0.2.2.2.2.1
  have hl : lv_has ls 3 [(0, .ref (ad 0)), (1, .int (nI k))] := hl
  refine lv_aload_n hx hb (dkP dF_42 DX12_leads (i := 0) rfl rfl) rfl (lv_at hl 0 rfl) ?_
  refine z_gr C0 hw 0 1 1 rfl fl_X12_20 (dk2 dF_180 DX12_leads (i := 1) rfl rfl rfl) ?_
  refine lv_iload_n hx hb (dkP dF_27 DX12_leads (i := 2) rfl rfl) rfl (lv_at hl 1 rfl) ?_
  refine lv_iconst (v := 2) hx hb (dkP dF_5 DX12_leads (i := 3) rfl rfl) (by decide) ?_
  refine lv_iadd hx hb (dkP dF_96 DX12_leads (i := 4) rfl rfl) ?_
  refine z_top (y := nI (k + 2)) (by simp only [fa_lit, nI_add, pk_mul]) ?_
  refine z_ialdN (n := 414128) C0 hw 1 (k + 2) rfl (by omega) (by decide) (dkP dF_46 DX12_leads (i := 5) rfl rfl) ?_
  obtain ⟨v1, ev1⟩ : ∃ y : Int32, σ.1 1 (k + 2) = y := ⟨_, rfl⟩
  refine z_top (y := v1) ev1 ?_
  refine lv_if_ne (tgt := 15) hx hb (dkS dF_154 DX12_leads (i := 6) rfl rfl rfl) (by decide) (fun c2 => ?_) (fun c2 => ?_)
  · (try simp (disch := omega) only [ta_lt, ta_le, ta_eq, tnI, tl32 0 (by decide)] at c2)
    refine lv_iconst (v := 0) hx hb (dkP dF_3 DX12_leads (i := 9) rfl rfl) (by decide) ?_
    refine lv_istore_n (lv' := [(2, .int 0), (0, .ref (ad 0)), (1, .int (nI k))]) hx hb (dkP dF_61 DX12_leads (i := 10) rfl rfl) rfl hl (by decide) rfl (fun ls hl => ?_)
    refine lv_iload_n hx hb (dkP dF_28 DX12_leads (i := 11) rfl rfl) rfl (lv_at hl 0 rfl) ?_
    refine lv_if_eq (tgt := 52) hx hb (dkS dF_153 DX12_leads (i := 12) rfl rfl rfl) (by decide) (fun _ => ?_) (fun h => absurd h (by decide))
    refine lv_aload_n hx hb (dkP dF_42 DX12_leads (i := 34) rfl rfl) rfl (lv_at hl 1 rfl) ?_
    refine z_gr C0 hw 0 1 1 rfl fl_X12_20 (dk2 dF_180 DX12_leads (i := 35) rfl rfl rfl) ?_
    refine lv_iload_n hx hb (dkP dF_27 DX12_leads (i := 36) rfl rfl) rfl (lv_at hl 2 rfl) ?_
    refine lv_aload_n hx hb (dkP dF_42 DX12_leads (i := 37) rfl rfl) rfl (lv_at hl 1 rfl) ?_
    refine z_gr C0 hw 0 1 1 rfl fl_X12_20 (dk2 dF_180 DX12_leads (i := 38) rfl rfl rfl) ?_
    refine lv_iload_n hx hb (dkP dF_27 DX12_leads (i := 39) rfl rfl) rfl (lv_at hl 2 rfl) ?_
    refine lv_iconst (v := 1) hx hb (dkP dF_4 DX12_leads (i := 40) rfl rfl) (by decide) ?_
    refine lv_iadd hx hb (dkP dF_96 DX12_leads (i := 41) rfl rfl) ?_
    refine z_top (y := nI (k + 1)) (by simp only [fa_lit, nI_add, pk_mul]) ?_
    refine z_ialdN (n := 414128) C0 hw 1 (k + 1) rfl (by omega) (by decide) (dkP dF_46 DX12_leads (i := 42) rfl rfl) ?_
    obtain ⟨v3, ev3⟩ : ∃ y : Int32, σ.1 1 (k + 1) = y := ⟨_, rfl⟩
    refine z_top (y := v3) ev3 ?_
    refine lv_aload_n hx hb (dkP dF_42 DX12_leads (i := 43) rfl rfl) rfl (lv_at hl 1 rfl) ?_
    refine z_gr C0 hw 0 1 1 rfl fl_X12_20 (dk2 dF_180 DX12_leads (i := 44) rfl rfl rfl) ?_
    refine lv_iconst (v := 4) hx hb (dkP dF_7 DX12_leads (i := 45) rfl rfl) (by decide) ?_
    refine z_ialdN (n := 414128) C0 hw 1 4 rfl (by omega) (by decide) (dkP dF_46 DX12_leads (i := 46) rfl rfl) ?_
    obtain ⟨v4, ev4⟩ : ∃ y : Int32, σ.1 1 4 = y := ⟨_, rfl⟩
    refine z_top (y := v4) ev4 ?_
    refine lv_isub hx hb (dkP dF_100 DX12_leads (i := 47) rfl rfl) ?_
    refine lv_aload_n hx hb (dkP dF_42 DX12_leads (i := 48) rfl rfl) rfl (lv_at hl 1 rfl) ?_
    refine z_gr C0 hw 0 1 1 rfl fl_X12_20 (dk2 dF_180 DX12_leads (i := 49) rfl rfl rfl) ?_
    refine lv_iconst (v := 3) hx hb (dkP dF_6 DX12_leads (i := 50) rfl rfl) (by decide) ?_
    refine z_ialdN (n := 414128) C0 hw 1 3 rfl (by omega) (by decide) (dkP dF_46 DX12_leads (i := 51) rfl rfl) ?_
    obtain ⟨n5, hm5, hn5, en5⟩ := rngP (x := σ.1 1 3) (l := 1) (h := 9) (by decide) (show 1 ≤ _ ∧ _ ≤ 9 from hT 1 3)
    refine z_top (y := nI n5) en5 ?_
    refine zn_I hw (zr_S (As := [.int (v3 - v4), .int (nI n5)]) (rest := [.int (nI k), .ref (ad 1)]) C0 (c_J9_floorDiv_7cf53 l G kc (v3 - v4) (nI n5) (nI_ne (by omega) (by omega)) _) cs_J9_floorDiv_7cf53 lk_X12_481 (zp_P C0 hRo hw a00 s00) rfl hl.1 rfl ⟨by decide, by decide⟩ (Nat.le_of_ble_eq_true rfl) (dk2 dF_184 DX12_leads (i := 52) rfl rfl rfl) ⟨Nat.le_refl _, Nat.le_refl _⟩) (fun r6 s6 H locs hp hw => ?_)
    refine z_iastN (n := 414128) C0 hw 1 k rfl (by omega) (by decide) (dkP dF_79 DX12_leads (i := 53) rfl rfl) (fun H locs hw => ?_)
    have hT7 : TM (sI σ 1 k r6) := TM.w hT (ty_hi (by omega))
    have hF7 : fr false [1] [] σ (sI σ 1 k r6) := fr.w fr.refl (Or.inl ⟨by decide, by decide⟩) (fun h => absurd h (by decide))
    refine lv_aload_n hx hb (dkP dF_42 DX12_leads (i := 54) rfl rfl) rfl (lv_at hl 1 rfl) ?_
    refine z_gr C0 hw 0 1 1 rfl fl_X12_20 (dk2 dF_180 DX12_leads (i := 55) rfl rfl rfl) ?_
    refine lv_iload_n hx hb (dkP dF_27 DX12_leads (i := 56) rfl rfl) rfl (lv_at hl 2 rfl) ?_
    refine lv_iconst (v := 4) hx hb (dkP dF_7 DX12_leads (i := 57) rfl rfl) (by decide) ?_
    refine lv_iadd hx hb (dkP dF_96 DX12_leads (i := 58) rfl rfl) ?_
    refine z_top (y := nI (k + 4)) (by simp only [fa_lit, nI_add, pk_mul]) ?_
    refine lv_iload_n hx hb (dkP dF_28 DX12_leads (i := 59) rfl rfl) rfl (lv_at hl 0 rfl) ?_
    refine lv_if_eq (tgt := 97) hx hb (dkS dF_153 DX12_leads (i := 60) rfl rfl rfl) (by decide) (fun _ => ?_) (fun h => absurd h (by decide))
    refine lv_aload_n hx hb (dkP dF_42 DX12_leads (i := 63) rfl rfl) rfl (lv_at hl 1 rfl) ?_
    refine z_gr C0 hw 0 1 1 rfl fl_X12_20 (dk2 dF_180 DX12_leads (i := 64) rfl rfl rfl) ?_
    refine lv_iload_n hx hb (dkP dF_27 DX12_leads (i := 65) rfl rfl) rfl (lv_at hl 2 rfl) ?_
    refine lv_iconst (v := 1) hx hb (dkP dF_4 DX12_leads (i := 66) rfl rfl) (by decide) ?_
    refine lv_iadd hx hb (dkP dF_96 DX12_leads (i := 67) rfl rfl) ?_
    refine z_top (y := nI (k + 1)) (by simp only [fa_lit, nI_add, pk_mul]) ?_
    refine z_ialdN (n := 414128) C0 hw 1 (k + 1) rfl (by omega) (by decide) (dkP dF_46 DX12_leads (i := 68) rfl rfl) ?_
    refine z_top (y := v3) ((rd_n (by omega)).trans ev3) ?_
    refine lv_aload_n hx hb (dkP dF_42 DX12_leads (i := 69) rfl rfl) rfl (lv_at hl 1 rfl) ?_
    refine z_gr C0 hw 0 1 1 rfl fl_X12_20 (dk2 dF_180 DX12_leads (i := 70) rfl rfl rfl) ?_
    refine lv_iconst (v := 4) hx hb (dkP dF_7 DX12_leads (i := 71) rfl rfl) (by decide) ?_
    refine z_ialdN (n := 414128) C0 hw 1 4 rfl (by omega) (by decide) (dkP dF_46 DX12_leads (i := 72) rfl rfl) ?_
    refine z_top (y := v4) ((rd_n (by omega)).trans ev4) ?_
    refine lv_isub hx hb (dkP dF_100 DX12_leads (i := 73) rfl rfl) ?_
    refine lv_aload_n hx hb (dkP dF_42 DX12_leads (i := 74) rfl rfl) rfl (lv_at hl 1 rfl) ?_
    refine z_gr C0 hw 0 1 1 rfl fl_X12_20 (dk2 dF_180 DX12_leads (i := 75) rfl rfl rfl) ?_
    refine lv_iconst (v := 3) hx hb (dkP dF_6 DX12_leads (i := 76) rfl rfl) (by decide) ?_
    refine z_ialdN (n := 414128) C0 hw 1 3 rfl (by omega) (by decide) (dkP dF_46 DX12_leads (i := 77) rfl rfl) ?_
    refine z_top (y := (nI n5)) ((rd_n (by omega)).trans en5) ?_
    refine zn_I hw (zr_S (As := [.int (v3 - v4), .int (nI n5)]) (rest := [.int (nI (k + 4)), .ref (ad 1)]) C0 (c_J9_floorMod_7cf53 l G kc (v3 - v4) (nI n5) (nI_ne (by omega) (by omega)) _) cs_J9_floorMod_7cf53 lk_X12_484 (zp_P C0 hRo hw a00 s00) rfl hl.1 rfl ⟨by decide, by decide⟩ (Nat.le_of_ble_eq_true rfl) (dk2 dF_184 DX12_leads (i := 78) rfl rfl rfl) ⟨Nat.le_refl _, Nat.le_refl _⟩) (fun r8 s8 H locs hp hw => ?_)
    refine z_iastN (n := 414128) C0 hw 1 (k + 4) rfl (by omega) (by decide) (dkP dF_79 DX12_leads (i := 79) rfl rfl) (fun H locs hw => ?_)
    have hT9 : TM (sI (sI σ 1 k r6) 1 (k + 4) r8) := TM.w hT7 (ty_hi (by omega))
    have hF9 : fr false [1] [] σ (sI (sI σ 1 k r6) 1 (k + 4) r8) := fr.w hF7 (Or.inl ⟨by decide, by decide⟩) (fun h => absurd h (by decide))
    refine lv_aload_n hx hb (dkP dF_42 DX12_leads (i := 80) rfl rfl) rfl (lv_at hl 1 rfl) ?_
    refine z_gr C0 hw 0 1 1 rfl fl_X12_20 (dk2 dF_180 DX12_leads (i := 81) rfl rfl rfl) ?_
    refine lv_iload_n hx hb (dkP dF_27 DX12_leads (i := 82) rfl rfl) rfl (lv_at hl 2 rfl) ?_
    refine lv_iconst (v := 3) hx hb (dkP dF_6 DX12_leads (i := 83) rfl rfl) (by decide) ?_
    refine lv_iadd hx hb (dkP dF_96 DX12_leads (i := 84) rfl rfl) ?_
    refine z_top (y := nI (k + 3)) (by simp only [fa_lit, nI_add, pk_mul]) ?_
    refine lv_iconst (v := 0) hx hb (dkP dF_3 DX12_leads (i := 85) rfl rfl) (by decide) ?_
    refine z_iastN (n := 414128) C0 hw 1 (k + 3) rfl (by omega) (by decide) (dkP dF_79 DX12_leads (i := 86) rfl rfl) (fun H locs hw => ?_)
    have hT10 : TM (sI (sI (sI σ 1 k r6) 1 (k + 4) r8) 1 (k + 3) 0) := TM.w hT9 (ty_hi (by omega))
    have hF10 : fr false [1] [] σ (sI (sI (sI σ 1 k r6) 1 (k + 4) r8) 1 (k + 3) 0) := fr.w hF9 (Or.inl ⟨by decide, by decide⟩) (fun h => absurd h (by decide))
    refine lv_iload_n hx hb (dkP dF_28 DX12_leads (i := 87) rfl rfl) rfl (lv_at hl 0 rfl) ?_
    refine lv_if_eq (tgt := 146) hx hb (dkS dF_153 DX12_leads (i := 88) rfl rfl rfl) (by decide) (fun _ => ?_) (fun h => absurd h (by decide))
    refine lv_aload_n hx hb (dkP dF_42 DX12_leads (i := 96) rfl rfl) rfl (lv_at hl 1 rfl) ?_
    refine z_gr C0 hw 0 1 1 rfl fl_X12_20 (dk2 dF_180 DX12_leads (i := 97) rfl rfl rfl) ?_
    refine lv_iload_n hx hb (dkP dF_27 DX12_leads (i := 98) rfl rfl) rfl (lv_at hl 2 rfl) ?_
    refine z_ialdN (n := 414128) C0 hw 1 k rfl (by omega) (by decide) (dkP dF_46 DX12_leads (i := 99) rfl rfl) ?_
    refine z_top (y := r6) ((rd_n (by omega)).trans ((rd_n (by omega)).trans rd_s)) ?_
    exact z_iret C0 hr hlk hw (⟨hT10, hF10⟩) (dkP dF_172 DX12_leads (i := 100) rfl rfl)
  · (try simp (disch := omega) only [ta_lt, ta_le, ta_eq, tnI, tl32 0 (by decide)] at c2)
    refine lv_iconst (v := 1) hx hb (dkP dF_4 DX12_leads (i := 7) rfl rfl) (by decide) ?_
    refine lv_goto (tgt := 16) hx hb (dkS dF_167 DX12_leads (i := 8) rfl rfl rfl) (by decide) ?_
    refine lv_istore_n (lv' := [(2, .int 1), (0, .ref (ad 0)), (1, .int (nI k))]) hx hb (dkP dF_61 DX12_leads (i := 10) rfl rfl) rfl hl (by decide) rfl (fun ls hl => ?_)
    refine lv_iload_n hx hb (dkP dF_28 DX12_leads (i := 11) rfl rfl) rfl (lv_at hl 0 rfl) ?_
    refine lv_if_eq (tgt := 52) hx hb (dkS dF_153 DX12_leads (i := 12) rfl rfl rfl) (by decide) (fun h => absurd h (by decide)) (fun _ => ?_)
    refine lv_aload_n hx hb (dkP dF_42 DX12_leads (i := 13) rfl rfl) rfl (lv_at hl 1 rfl) ?_
    refine z_gr C0 hw 0 1 1 rfl fl_X12_20 (dk2 dF_180 DX12_leads (i := 14) rfl rfl rfl) ?_
    refine lv_iload_n hx hb (dkP dF_27 DX12_leads (i := 15) rfl rfl) rfl (lv_at hl 2 rfl) ?_
    refine lv_iconst (v := 1) hx hb (dkP dF_4 DX12_leads (i := 16) rfl rfl) (by decide) ?_
    refine lv_iadd hx hb (dkP dF_96 DX12_leads (i := 17) rfl rfl) ?_
    refine z_top (y := nI (k + 1)) (by simp only [fa_lit, nI_add, pk_mul]) ?_
    refine lv_aload_n hx hb (dkP dF_42 DX12_leads (i := 18) rfl rfl) rfl (lv_at hl 1 rfl) ?_
    refine z_gr C0 hw 0 1 1 rfl fl_X12_20 (dk2 dF_180 DX12_leads (i := 19) rfl rfl rfl) ?_
    refine lv_iconst (v := 3) hx hb (dkP dF_6 DX12_leads (i := 20) rfl rfl) (by decide) ?_
    refine z_ialdN (n := 414128) C0 hw 1 3 rfl (by omega) (by decide) (dkP dF_46 DX12_leads (i := 21) rfl rfl) ?_
    obtain ⟨n11, hm11, hn11, en11⟩ := rngP (x := σ.1 1 3) (l := 1) (h := 9) (by decide) (show 1 ≤ _ ∧ _ ≤ 9 from hT 1 3)
    refine z_top (y := nI n11) en11 ?_
    refine lv_aload_n hx hb (dkP dF_42 DX12_leads (i := 22) rfl rfl) rfl (lv_at hl 1 rfl) ?_
    refine z_gr C0 hw 0 1 1 rfl fl_X12_20 (dk2 dF_180 DX12_leads (i := 23) rfl rfl rfl) ?_
    refine lv_iload_n hx hb (dkP dF_27 DX12_leads (i := 24) rfl rfl) rfl (lv_at hl 2 rfl) ?_
    refine z_ialdN (n := 414128) C0 hw 1 k rfl (by omega) (by decide) (dkP dF_46 DX12_leads (i := 25) rfl rfl) ?_
    obtain ⟨v12, ev12⟩ : ∃ y : Int32, σ.1 1 k = y := ⟨_, rfl⟩
    refine z_top (y := v12) ev12 ?_
    refine lv_imul hx hb (dkP dF_104 DX12_leads (i := 26) rfl rfl) ?_
    refine lv_aload_n hx hb (dkP dF_42 DX12_leads (i := 27) rfl rfl) rfl (lv_at hl 1 rfl) ?_
    refine z_gr C0 hw 0 1 1 rfl fl_X12_20 (dk2 dF_180 DX12_leads (i := 28) rfl rfl rfl) ?_
    refine lv_iconst (v := 4) hx hb (dkP dF_7 DX12_leads (i := 29) rfl rfl) (by decide) ?_
    refine z_ialdN (n := 414128) C0 hw 1 4 rfl (by omega) (by decide) (dkP dF_46 DX12_leads (i := 30) rfl rfl) ?_
    obtain ⟨v13, ev13⟩ : ∃ y : Int32, σ.1 1 4 = y := ⟨_, rfl⟩
    refine z_top (y := v13) ev13 ?_
    refine lv_iadd hx hb (dkP dF_96 DX12_leads (i := 31) rfl rfl) ?_
    refine z_iastN (n := 414128) C0 hw 1 (k + 1) rfl (by omega) (by decide) (dkP dF_79 DX12_leads (i := 32) rfl rfl) (fun H locs hw => ?_)
    have hT14 : TM (sI σ 1 (k + 1) (((nI n11) * v12) + v13)) := TM.w hT (ty_hi (by omega))
    have hF14 : fr false [1] [] σ (sI σ 1 (k + 1) (((nI n11) * v12) + v13)) := fr.w fr.refl (Or.inl ⟨by decide, by decide⟩) (fun h => absurd h (by decide))
    refine lv_goto (tgt := 82) hx hb (dkS dF_167 DX12_leads (i := 33) rfl rfl rfl) (by decide) ?_
    refine lv_aload_n hx hb (dkP dF_42 DX12_leads (i := 54) rfl rfl) rfl (lv_at hl 1 rfl) ?_
    refine z_gr C0 hw 0 1 1 rfl fl_X12_20 (dk2 dF_180 DX12_leads (i := 55) rfl rfl rfl) ?_
    refine lv_iload_n hx hb (dkP dF_27 DX12_leads (i := 56) rfl rfl) rfl (lv_at hl 2 rfl) ?_
    refine lv_iconst (v := 4) hx hb (dkP dF_7 DX12_leads (i := 57) rfl rfl) (by decide) ?_
    refine lv_iadd hx hb (dkP dF_96 DX12_leads (i := 58) rfl rfl) ?_
    refine z_top (y := nI (k + 4)) (by simp only [fa_lit, nI_add, pk_mul]) ?_
    refine lv_iload_n hx hb (dkP dF_28 DX12_leads (i := 59) rfl rfl) rfl (lv_at hl 0 rfl) ?_
    refine lv_if_eq (tgt := 97) hx hb (dkS dF_153 DX12_leads (i := 60) rfl rfl rfl) (by decide) (fun h => absurd h (by decide)) (fun _ => ?_)
    refine lv_iconst (v := 0) hx hb (dkP dF_3 DX12_leads (i := 61) rfl rfl) (by decide) ?_
    refine lv_goto (tgt := 121) hx hb (dkS dF_167 DX12_leads (i := 62) rfl rfl rfl) (by decide) ?_
    refine z_iastN (n := 414128) C0 hw 1 (k + 4) rfl (by omega) (by decide) (dkP dF_79 DX12_leads (i := 79) rfl rfl) (fun H locs hw => ?_)
    have hT15 : TM (sI (sI σ 1 (k + 1) (((nI n11) * v12) + v13)) 1 (k + 4) 0) := TM.w hT14 (ty_hi (by omega))
    have hF15 : fr false [1] [] σ (sI (sI σ 1 (k + 1) (((nI n11) * v12) + v13)) 1 (k + 4) 0) := fr.w hF14 (Or.inl ⟨by decide, by decide⟩) (fun h => absurd h (by decide))
    refine lv_aload_n hx hb (dkP dF_42 DX12_leads (i := 80) rfl rfl) rfl (lv_at hl 1 rfl) ?_
    refine z_gr C0 hw 0 1 1 rfl fl_X12_20 (dk2 dF_180 DX12_leads (i := 81) rfl rfl rfl) ?_
    refine lv_iload_n hx hb (dkP dF_27 DX12_leads (i := 82) rfl rfl) rfl (lv_at hl 2 rfl) ?_
    refine lv_iconst (v := 3) hx hb (dkP dF_6 DX12_leads (i := 83) rfl rfl) (by decide) ?_
    refine lv_iadd hx hb (dkP dF_96 DX12_leads (i := 84) rfl rfl) ?_
    refine z_top (y := nI (k + 3)) (by simp only [fa_lit, nI_add, pk_mul]) ?_
    refine lv_iconst (v := 0) hx hb (dkP dF_3 DX12_leads (i := 85) rfl rfl) (by decide) ?_
    refine z_iastN (n := 414128) C0 hw 1 (k + 3) rfl (by omega) (by decide) (dkP dF_79 DX12_leads (i := 86) rfl rfl) (fun H locs hw => ?_)
    have hT16 : TM (sI (sI (sI σ 1 (k + 1) (((nI n11) * v12) + v13)) 1 (k + 4) 0) 1 (k + 3) 0) := TM.w hT15 (ty_hi (by omega))
    have hF16 : fr false [1] [] σ (sI (sI (sI σ 1 (k + 1) (((nI n11) * v12) + v13)) 1 (k + 4) 0) 1 (k + 3) 0) := fr.w hF15 (Or.inl ⟨by decide, by decide⟩) (fun h => absurd h (by decide))
    refine lv_iload_n hx hb (dkP dF_28 DX12_leads (i := 87) rfl rfl) rfl (lv_at hl 0 rfl) ?_
    refine lv_if_eq (tgt := 146) hx hb (dkS dF_153 DX12_leads (i := 88) rfl rfl rfl) (by decide) (fun h => absurd h (by decide)) (fun _ => ?_)
    refine lv_aload_n hx hb (dkP dF_42 DX12_leads (i := 89) rfl rfl) rfl (lv_at hl 1 rfl) ?_
    refine z_gr C0 hw 0 1 1 rfl fl_X12_20 (dk2 dF_180 DX12_leads (i := 90) rfl rfl rfl) ?_
    refine lv_iload_n hx hb (dkP dF_27 DX12_leads (i := 91) rfl rfl) rfl (lv_at hl 2 rfl) ?_
    refine lv_iconst (v := 1) hx hb (dkP dF_4 DX12_leads (i := 92) rfl rfl) (by decide) ?_
    refine lv_iadd hx hb (dkP dF_96 DX12_leads (i := 93) rfl rfl) ?_
    refine z_top (y := nI (k + 1)) (by simp only [fa_lit, nI_add, pk_mul]) ?_
    refine z_ialdN (n := 414128) C0 hw 1 (k + 1) rfl (by omega) (by decide) (dkP dF_46 DX12_leads (i := 94) rfl rfl) ?_
    obtain ⟨v17, ev17⟩ : ∃ y : Int32, (sI (sI (sI σ 1 (k + 1) (((nI n11) * v12) + v13)) 1 (k + 4) 0) 1 (k + 3) 0).1 1 (k + 1) = y := ⟨_, rfl⟩
    refine z_top (y := v17) ev17 ?_
    refine lv_goto (tgt := 152) hx hb (dkS dF_167 DX12_leads (i := 95) rfl rfl rfl) (by decide) ?_
    exact z_iret C0 hr hlk hw (⟨hT16, hF16⟩) (dkP dF_172 DX12_leads (i := 100) rfl rfl)
set_option maxRecDepth 100000 in
set_option maxHeartbeats 8000000 in
theorem c_X12_form (l : Launch) (G : va_G) (kc : KC) (ad : Nat → Nat) (σ : Sg) (fm : Int32) (fk : Int32) (hT : TM σ) : MI l G kc yX12_form cX12_form 4 (some .int) 2 44 [.ref (ad 0), .int fm, .int fk] shM ad σ (fun r σ1 => TM σ1 ∧ fr false [1] [] σ σ1) := by
  intro sz
  refine z_body (y := yX12_form) (n := 4) (av := [.ref (ad 0), .int fm, .int fk]) (Qc := fun A => va_Qi (fun r σ1 => TM σ1 ∧ fr false [1] [] σ σ1) (PoC G kc shM ad A) A) (plainFor_of_name (by decide)) (Nat.le_of_ble_eq_true rfl) (fun pr e s m below meth c A C0 hr hlk hnm hw hRo ls hl => ?_) sz
  have hx := C0.1
  have hb := C0.2.1
  have hown := C0.2.2.2.1
  have hts := C0.2.2.2.2.1
  have hl : lv_has ls 4 [(0, .ref (ad 0)), (1, .int fm), (2, .int fk)] := hl
  refine lv_iload_n hx hb (dkP dF_27 DX12_form (i := 0) rfl rfl) rfl (lv_at hl 1 rfl) ?_
  refine lv_i2l hx hb (dkP dF_133 DX12_form (i := 1) rfl rfl) rfl ?_
  refine lv_lconst (v := 1) hx hb (dkP dF_10 DX12_form (i := 2) rfl rfl) (by decide) ?_
  refine lv_ldc2 hx hb hown (hts _ kn_X12_487) (dk2 dF_20 DX12_form (i := 3) rfl rfl rfl) ?_
  refine zn_I hw (zr_S (As := [.long fm.toInt64, .long 1, .long 9]) (rest := []) C0 (c_X12_in l G kc fm.toInt64 1 9  _) cs_X12_in lk_X12_9 (zp_P C0 hRo hw a00 s00) rfl hl.1 rfl ⟨by decide, by decide⟩ (Nat.le_of_ble_eq_true rfl) (dk2 dF_184 DX12_form (i := 4) rfl rfl rfl) ⟨Nat.le_refl _, Nat.le_refl _⟩) (fun r1 s1 H locs hp hw => ?_)
  rcases hp with ⟨rfl, hc1⟩ | ⟨rfl, hc1⟩
  · skip
    (try simp (disch := omega) only [ta_lt, ta_le, ta_eq, tb_lt, tb_le, tb_eq, tw, tnI, tn32 1 (by decide), tnj 1 (by decide), tl32 0 (by decide), tl64 0 (by decide), tl32 1 (by decide), tl64 1 (by decide), tl32 9 (by decide), tl64 9 (by decide)] at hc1)
    refine lv_if_eq (tgt := 26) hx hb (dkS dF_153 DX12_form (i := 5) rfl rfl rfl) (by decide) (fun h => absurd h (by decide)) (fun _ => ?_)
    refine lv_iload_n hx hb (dkP dF_28 DX12_form (i := 6) rfl rfl) rfl (lv_at hl 2 rfl) ?_
    refine lv_i2l hx hb (dkP dF_133 DX12_form (i := 7) rfl rfl) rfl ?_
    refine lv_ldc2 hx hb hown (hts _ kn_X12_335) (dk2 dF_20 DX12_form (i := 8) rfl rfl rfl) ?_
    refine lv_ldc2 hx hb hown (hts _ kn_X12_337) (dk2 dF_20 DX12_form (i := 9) rfl rfl rfl) ?_
    refine zn_I hw (zr_S (As := [.long fk.toInt64, .long (-99), .long 99]) (rest := []) C0 (c_X12_in l G kc fk.toInt64 (-99) 99  _) cs_X12_in lk_X12_9 (zp_P C0 hRo hw a00 s00) rfl hl.1 rfl ⟨by decide, by decide⟩ (Nat.le_of_ble_eq_true rfl) (dk2 dF_184 DX12_form (i := 10) rfl rfl rfl) ⟨Nat.le_refl _, Nat.le_refl _⟩) (fun r2 s2 H locs hp hw => ?_)
    rcases hp with ⟨rfl, hc2⟩ | ⟨rfl, hc2⟩
    · skip
      (try simp (disch := omega) only [ta_lt, ta_le, ta_eq, tb_lt, tb_le, tb_eq, tw, tnI, tn32 99 (by decide), tnj 99 (by decide), tn32 1 (by decide), tnj 1 (by decide), tl32 0 (by decide), tl64 0 (by decide), tl32 1 (by decide), tl64 1 (by decide), tl32 9 (by decide), tl64 9 (by decide), tl32 99 (by decide), tl64 99 (by decide)] at hc2)
      refine lv_if_ne (tgt := 29) hx hb (dkS dF_154 DX12_form (i := 11) rfl rfl rfl) (by decide) (fun _ => ?_) (fun h => absurd h (by decide))
      refine lv_aload_n hx hb (dkP dF_42 DX12_form (i := 14) rfl rfl) rfl (lv_at hl 0 rfl) ?_
      refine z_gr C0 hw 0 1 1 rfl fl_X12_20 (dk2 dF_180 DX12_form (i := 15) rfl rfl rfl) ?_
      refine lv_iconst (v := 3) hx hb (dkP dF_6 DX12_form (i := 16) rfl rfl) (by decide) ?_
      refine lv_iload_n hx hb (dkP dF_27 DX12_form (i := 17) rfl rfl) rfl (lv_at hl 1 rfl) ?_
      refine z_iastN (n := 414128) C0 hw 1 3 rfl (by omega) (by decide) (dkP dF_79 DX12_form (i := 18) rfl rfl) (fun H locs hw => ?_)
      have hT3 : TM (sI σ 1 3 fm) := TM.w hT (show 1 ≤ _ ∧ _ ≤ 9 from by (try simp only [lg_cmp_lt, lg_cmp_le, lg_cmp_gt, lg_cmp_ge, lg_cmp_eq] at hc1); (try simp (disch := omega) only [ta_lt, ta_le, ta_eq, tb_lt, tb_le, tb_eq, tw, tnI, tsub1, tsv, tn32 99 (by decide), tnj 99 (by decide), tn32 1 (by decide), tnj 1 (by decide), tl32 0 (by decide), tl64 0 (by decide), tl32 1 (by decide), tl64 1 (by decide), tl32 3 (by decide), tl64 3 (by decide), tl32 9 (by decide), tl64 9 (by decide), tl32 99 (by decide), tl64 99 (by decide)] at hc1); (try simp only [lg_cmp_lt, lg_cmp_le, lg_cmp_gt, lg_cmp_ge, lg_cmp_eq] at hc2); (try simp (disch := omega) only [ta_lt, ta_le, ta_eq, tb_lt, tb_le, tb_eq, tw, tnI, tsub1, tsv, tn32 99 (by decide), tnj 99 (by decide), tn32 1 (by decide), tnj 1 (by decide), tl32 0 (by decide), tl64 0 (by decide), tl32 1 (by decide), tl64 1 (by decide), tl32 3 (by decide), tl64 3 (by decide), tl32 9 (by decide), tl64 9 (by decide), tl32 99 (by decide), tl64 99 (by decide)] at hc2); (try simp (disch := omega) only [ta_lt, ta_le, ta_eq, tb_lt, tb_le, tb_eq, tw, tnI, tsub1, tsv, tn32 99 (by decide), tnj 99 (by decide), tn32 1 (by decide), tnj 1 (by decide), tl32 0 (by decide), tl64 0 (by decide), tl32 1 (by decide), tl64 1 (by decide), tl32 3 (by decide), tl64 3 (by decide), tl32 9 (by decide), tl64 9 (by decide), tl32 99 (by decide), tl64 99 (by decide)]); omega)
      have hF3 : fr false [1] [] σ (sI σ 1 3 fm) := fr.w fr.refl (Or.inl ⟨by decide, by decide⟩) (fun h => absurd h (by decide))
      refine lv_aload_n hx hb (dkP dF_42 DX12_form (i := 19) rfl rfl) rfl (lv_at hl 0 rfl) ?_
      refine z_gr C0 hw 0 1 1 rfl fl_X12_20 (dk2 dF_180 DX12_form (i := 20) rfl rfl rfl) ?_
      refine lv_iconst (v := 4) hx hb (dkP dF_7 DX12_form (i := 21) rfl rfl) (by decide) ?_
      refine lv_iload_n hx hb (dkP dF_28 DX12_form (i := 22) rfl rfl) rfl (lv_at hl 2 rfl) ?_
      refine z_iastN (n := 414128) C0 hw 1 4 rfl (by omega) (by decide) (dkP dF_79 DX12_form (i := 23) rfl rfl) (fun H locs hw => ?_)
      have hT4 : TM (sI (sI σ 1 3 fm) 1 4 fk) := TM.w hT3 (ty_k (by decide))
      have hF4 : fr false [1] [] σ (sI (sI σ 1 3 fm) 1 4 fk) := fr.w hF3 (Or.inl ⟨by decide, by decide⟩) (fun h => absurd h (by decide))
      refine lv_iconst (v := 0) hx hb (dkP dF_3 DX12_form (i := 24) rfl rfl) (by decide) ?_
      refine lv_istore_n (lv' := [(3, .int 0), (0, .ref (ad 0)), (1, .int fm), (2, .int fk)]) hx hb (dkP dF_62 DX12_form (i := 25) rfl rfl) rfl hl (by decide) rfl (fun ls hl => ?_)
      have lp6 : ∀ (nq : Nat) (q3_45 : Nat) (τ5 : Sg) (H : Heap) (locs : List Loc) (ls : Array Slot), 20 - q3_45 < nq → (q3_45 ≤ 20) → (TM τ5) → (fr false [1] [] σ τ5) → St G kc A s.heap shM ad τ5 H locs → lv_has ls 4 [(3, .int (nI q3_45)), (0, .ref (ad 0)), (1, .int fm), (2, .int fk)] → W pr l e { frames := 2, cells := 0, slots := 0, locals := 44 } s m ([.ref (ad 0), .int fm, .int fk] : List Value).toArray below meth c H locs 0 0 (MQ below (va_Qi (fun r σ1 => TM σ1 ∧ fr false [1] [] σ σ1) (PoC G kc shM ad A) A) ([.ref (ad 0), .int fm, .int fk] : List Value).toArray s 0 0 A) (F0 m 45 ls []) := by
        intro nq
        induction nq with
        | zero => intro q3_45 τ5 H locs ls hmu; exact absurd hmu (Nat.not_lt_zero _)
        | succ nq ih6 =>
          intro q3_45 τ5 H locs ls hmu hq3_45 hT_τ5 hF_τ5 hw hl
          refine lv_iload_n hx hb (dkP dF_29 DX12_form (i := 26) rfl rfl) rfl (lv_at hl 0 rfl) ?_
          refine lv_bipush (v := 20) hx hb (dks dF_16 DX12_form (i := 27) rfl rfl rfl) (by decide) ?_
          refine lv_icmp_ge (tgt := 66) hx hb (dkS dF_162 DX12_form (i := 28) rfl rfl rfl) (by decide) (fun c7 => ?_) (fun c7 => ?_)
          · simp (disch := omega) only [ta_lt, ta_le, ta_eq, tnI, tl32 20 (by decide)] at c7
            refine lv_iconst (v := 0) hx hb (dkP dF_3 DX12_form (i := 36) rfl rfl) (by decide) ?_
            exact z_iret C0 hr hlk hw (⟨hT_τ5, hF_τ5⟩) (dkP dF_172 DX12_form (i := 37) rfl rfl)
          · simp (disch := omega) only [ta_lt, ta_le, ta_eq, tnI, tl32 20 (by decide)] at c7
            refine lv_aload_n hx hb (dkP dF_42 DX12_form (i := 29) rfl rfl) rfl (lv_at hl 1 rfl) ?_
            refine lv_iload_n hx hb (dkP dF_29 DX12_form (i := 30) rfl rfl) rfl (lv_at hl 0 rfl) ?_
            refine zn_I hw (zr_S (As := [.int (nI q3_45)]) (rest := [.ref (ad 0)]) C0 (c_X12_rowAt l G kc q3_45  _) cs_X12_rowAt lk_X12_489 (zp_P C0 hRo hw a00 s00) rfl hl.1 rfl ⟨by decide, by decide⟩ (Nat.le_of_ble_eq_true rfl) (dk2 dF_184 DX12_form (i := 31) rfl rfl rfl) ⟨Nat.le_refl _, Nat.le_refl _⟩) (fun r8 s8 H locs hp hw => ?_)
            subst hp
            refine zk_I hw (zr_V (As := [.int (nI (414028 + 5 * q3_45))]) (rest := []) C0 (c_X12_leads l G kc ad τ5 (414028 + 5 * q3_45) (by first | omega | assumption | decide | rfl) (by first | omega | assumption | decide | rfl) hT_τ5 _) cv_X12_leads lk_X12_492 (zp_V C0 hRo hw 0 rfl rfl rfl) rfl hl.1 rfl ⟨by decide, by decide⟩ (Nat.le_of_ble_eq_true rfl) (dk2 dF_182 DX12_form (i := 32) rfl rfl rfl) ⟨Nat.le_refl _, Nat.le_refl _⟩) (fun r9 s9 H locs hp hw => ?_)
            obtain ⟨hT9, hG9⟩ := hp
            have hF9 : fr false [1] [] σ s9 := fr.t hF_τ5 hG9 (by decide) (by decide) (by decide)
            refine lv_pop hx hb (dkP dF_87 DX12_form (i := 33) rfl rfl) rfl ?_
            refine lv_iinc (v := nI (q3_45 + 1)) (lv' := [(3, .int (nI (q3_45 + 1))), (0, .ref (ad 0)), (1, .int fm), (2, .int fk)]) hx hb (dkI DX12_form (i := 34) rfl rfl rfl rfl) hl (k := 0) rfl (nI_1 _) (by decide) rfl (fun ls hl => ?_)
            refine lv_goto (tgt := 45) hx hb (dkS dF_167 DX12_form (i := 35) rfl rfl rfl) (by decide) ?_
            exact ih6 (q3_45 + 1) s9 _ _ _ (by omega) (by (try simp only [lg_cmp_lt, lg_cmp_le, lg_cmp_gt, lg_cmp_ge, lg_cmp_eq] at hc1); (try simp (disch := omega) only [ta_lt, ta_le, ta_eq, tb_lt, tb_le, tb_eq, tw, tnI, tsub1, tsv, tn32 99 (by decide), tnj 99 (by decide), tn32 1 (by decide), tnj 1 (by decide), tl32 0 (by decide), tl64 0 (by decide), tl32 1 (by decide), tl64 1 (by decide), tl32 3 (by decide), tl64 3 (by decide), tl32 4 (by decide), tl64 4 (by decide), tl32 9 (by decide), tl64 9 (by decide), tl32 20 (by decide), tl64 20 (by decide), tl32 99 (by decide), tl64 99 (by decide)] at hc1); (try simp only [lg_cmp_lt, lg_cmp_le, lg_cmp_gt, lg_cmp_ge, lg_cmp_eq] at hc2); (try simp (disch := omega) only [ta_lt, ta_le, ta_eq, tb_lt, tb_le, tb_eq, tw, tnI, tsub1, tsv, tn32 99 (by decide), tnj 99 (by decide), tn32 1 (by decide), tnj 1 (by decide), tl32 0 (by decide), tl64 0 (by decide), tl32 1 (by decide), tl64 1 (by decide), tl32 3 (by decide), tl64 3 (by decide), tl32 4 (by decide), tl64 4 (by decide), tl32 9 (by decide), tl64 9 (by decide), tl32 20 (by decide), tl64 20 (by decide), tl32 99 (by decide), tl64 99 (by decide)] at hc2); (try simp only [lg_cmp_lt, lg_cmp_le, lg_cmp_gt, lg_cmp_ge, lg_cmp_eq] at c7); (try simp (disch := omega) only [ta_lt, ta_le, ta_eq, tb_lt, tb_le, tb_eq, tw, tnI, tsub1, tsv, tn32 99 (by decide), tnj 99 (by decide), tn32 1 (by decide), tnj 1 (by decide), tl32 0 (by decide), tl64 0 (by decide), tl32 1 (by decide), tl64 1 (by decide), tl32 3 (by decide), tl64 3 (by decide), tl32 4 (by decide), tl64 4 (by decide), tl32 9 (by decide), tl64 9 (by decide), tl32 20 (by decide), tl64 20 (by decide), tl32 99 (by decide), tl64 99 (by decide)] at c7); (try simp (disch := omega) only [ta_lt, ta_le, ta_eq, tb_lt, tb_le, tb_eq, tw, tnI, tsub1, tsv, tn32 99 (by decide), tnj 99 (by decide), tn32 1 (by decide), tnj 1 (by decide), tl32 0 (by decide), tl64 0 (by decide), tl32 1 (by decide), tl64 1 (by decide), tl32 3 (by decide), tl64 3 (by decide), tl32 4 (by decide), tl64 4 (by decide), tl32 9 (by decide), tl64 9 (by decide), tl32 20 (by decide), tl64 20 (by decide), tl32 99 (by decide), tl64 99 (by decide)]); omega) hT9 hF9 hw (lv_sub hl [0, 1, 2, 3] rfl)
      exact lp6 _ 0 (sI (sI σ 1 3 fm) 1 4 fk) _ _ _ (Nat.lt_succ_self _) (by (try simp only [lg_cmp_lt, lg_cmp_le, lg_cmp_gt, lg_cmp_ge, lg_cmp_eq] at hc1); (try simp (disch := omega) only [ta_lt, ta_le, ta_eq, tb_lt, tb_le, tb_eq, tw, tnI, tsub1, tsv, tn32 99 (by decide), tnj 99 (by decide), tn32 1 (by decide), tnj 1 (by decide), tl32 0 (by decide), tl64 0 (by decide), tl32 1 (by decide), tl64 1 (by decide), tl32 3 (by decide), tl64 3 (by decide), tl32 4 (by decide), tl64 4 (by decide), tl32 9 (by decide), tl64 9 (by decide), tl32 20 (by decide), tl64 20 (by decide), tl32 99 (by decide), tl64 99 (by decide)] at hc1); (try simp only [lg_cmp_lt, lg_cmp_le, lg_cmp_gt, lg_cmp_ge, lg_cmp_eq] at hc2); (try simp (disch := omega) only [ta_lt, ta_le, ta_eq, tb_lt, tb_le, tb_eq, tw, tnI, tsub1, tsv, tn32 99 (by decide), tnj 99 (by decide), tn32 1 (by decide), tnj 1 (by decide), tl32 0 (by decide), tl64 0 (by decide), tl32 1 (by decide), tl64 1 (by decide), tl32 3 (by decide), tl64 3 (by decide), tl32 4 (by decide), tl64 4 (by decide), tl32 9 (by decide), tl64 9 (by decide), tl32 20 (by decide), tl64 20 (by decide), tl32 99 (by decide), tl64 99 (by decide)] at hc2); (try simp (disch := omega) only [ta_lt, ta_le, ta_eq, tb_lt, tb_le, tb_eq, tw, tnI, tsub1, tsv, tn32 99 (by decide), tnj 99 (by decide), tn32 1 (by decide), tnj 1 (by decide), tl32 0 (by decide), tl64 0 (by decide), tl32 1 (by decide), tl64 1 (by decide), tl32 3 (by decide), tl64 3 (by decide), tl32 4 (by decide), tl64 4 (by decide), tl32 9 (by decide), tl64 9 (by decide), tl32 20 (by decide), tl64 20 (by decide), tl32 99 (by decide), tl64 99 (by decide)]); omega) hT4 hF4 hw (lv_sub hl [0, 1, 2, 3] rfl)
    · skip
      (try simp (disch := omega) only [ta_lt, ta_le, ta_eq, tb_lt, tb_le, tb_eq, tw, tnI, tn32 99 (by decide), tnj 99 (by decide), tn32 1 (by decide), tnj 1 (by decide), tl32 0 (by decide), tl64 0 (by decide), tl32 1 (by decide), tl64 1 (by decide), tl32 3 (by decide), tl64 3 (by decide), tl32 4 (by decide), tl64 4 (by decide), tl32 9 (by decide), tl64 9 (by decide), tl32 20 (by decide), tl64 20 (by decide), tl32 99 (by decide), tl64 99 (by decide)] at hc2)
      refine lv_if_ne (tgt := 29) hx hb (dkS dF_154 DX12_form (i := 11) rfl rfl rfl) (by decide) (fun h => absurd h (by decide)) (fun _ => ?_)
      refine lv_bipush (v := (-2)) hx hb (dks dF_16 DX12_form (i := 12) rfl rfl rfl) (by decide) ?_
      exact z_iret C0 hr hlk hw (⟨hT, fr.refl⟩) (dkP dF_172 DX12_form (i := 13) rfl rfl)
  · skip
    (try simp (disch := omega) only [ta_lt, ta_le, ta_eq, tb_lt, tb_le, tb_eq, tw, tnI, tn32 99 (by decide), tnj 99 (by decide), tn32 2 (by decide), tnj 2 (by decide), tn32 1 (by decide), tnj 1 (by decide), tl32 0 (by decide), tl64 0 (by decide), tl32 1 (by decide), tl64 1 (by decide), tl32 3 (by decide), tl64 3 (by decide), tl32 4 (by decide), tl64 4 (by decide), tl32 9 (by decide), tl64 9 (by decide), tl32 20 (by decide), tl64 20 (by decide), tl32 99 (by decide), tl64 99 (by decide)] at hc1)
    refine lv_if_eq (tgt := 26) hx hb (dkS dF_153 DX12_form (i := 5) rfl rfl rfl) (by decide) (fun _ => ?_) (fun h => absurd h (by decide))
    refine lv_bipush (v := (-2)) hx hb (dks dF_16 DX12_form (i := 12) rfl rfl rfl) (by decide) ?_
    exact z_iret C0 hr hlk hw (⟨hT, fr.refl⟩) (dkP dF_172 DX12_form (i := 13) rfl rfl)
set_option maxRecDepth 100000 in
set_option maxHeartbeats 8000000 in
theorem c_X12_put (l : Launch) (G : va_G) (kc : KC) (ad : Nat → Nat) (σ : Sg) (row : Int32) (side : Int32) (va : Int32) (hT : TM σ) : MI l G kc yX12_put cX12_put 5 (some .int) 2 45 [.ref (ad 0), .int row, .int side, .int va] shM ad σ (fun r σ1 => TM σ1 ∧ fr false [1] [] σ σ1) := by
  intro sz
  refine z_body (y := yX12_put) (n := 5) (av := [.ref (ad 0), .int row, .int side, .int va]) (Qc := fun A => va_Qi (fun r σ1 => TM σ1 ∧ fr false [1] [] σ σ1) (PoC G kc shM ad A) A) (plainFor_of_name (by decide)) (Nat.le_of_ble_eq_true rfl) (fun pr e s m below meth c A C0 hr hlk hnm hw hRo ls hl => ?_) sz
  have hx := C0.1
  have hb := C0.2.1
  have hown := C0.2.2.2.1
  have hts := C0.2.2.2.2.1
  have hl : lv_has ls 5 [(0, .ref (ad 0)), (1, .int row), (2, .int side), (3, .int va)] := hl
  refine lv_iload_n hx hb (dkP dF_27 DX12_put (i := 0) rfl rfl) rfl (lv_at hl 1 rfl) ?_
  refine zn_I hw (zr_S (As := [.int row]) (rest := []) C0 (c_X12_isRow l G kc row  _) cs_X12_isRow lk_X12_495 (zp_P C0 hRo hw a00 s00) rfl hl.1 rfl ⟨by decide, by decide⟩ (Nat.le_of_ble_eq_true rfl) (dk2 dF_184 DX12_put (i := 1) rfl rfl rfl) ⟨Nat.le_refl _, Nat.le_refl _⟩) (fun r1 s1 H locs hp hw => ?_)
  rcases hp with ⟨rfl, hc1⟩ | ⟨rfl, hc1⟩
  · skip
    (try simp (disch := omega) only [ta_lt, ta_le, ta_eq, tb_lt, tb_le, tb_eq, tw, tnI, tn32 1 (by decide), tnj 1 (by decide), tl32 0 (by decide), tl64 0 (by decide)] at hc1)
    obtain ⟨k_row, hk_row, rfl⟩ := to_nat (x := row) (n := 20) (by (try simp only [lg_cmp_lt, lg_cmp_le, lg_cmp_gt, lg_cmp_ge, lg_cmp_eq] at hc1); (try simp (disch := omega) only [ta_lt, ta_le, ta_eq, tb_lt, tb_le, tb_eq, tw, tnI, tn32 1 (by decide), tnj 1 (by decide), tl32 0 (by decide), tl64 0 (by decide)] at hc1); (try simp (disch := omega) only [ta_lt, ta_le, ta_eq, tb_lt, tb_le, tb_eq, tw, tnI, tn32 1 (by decide), tnj 1 (by decide), tl32 0 (by decide), tl64 0 (by decide)]); omega)
    refine lv_if_eq (tgt := 31) hx hb (dkS dF_153 DX12_put (i := 2) rfl rfl rfl) (by decide) (fun h => absurd h (by decide)) (fun _ => ?_)
    refine lv_iload_n hx hb (dkP dF_28 DX12_put (i := 3) rfl rfl) rfl (lv_at hl 2 rfl) ?_
    refine lv_i2l hx hb (dkP dF_133 DX12_put (i := 4) rfl rfl) rfl ?_
    refine lv_lconst (v := 0) hx hb (dkP dF_9 DX12_put (i := 5) rfl rfl) (by decide) ?_
    refine lv_lconst (v := 1) hx hb (dkP dF_10 DX12_put (i := 6) rfl rfl) (by decide) ?_
    refine zn_I hw (zr_S (As := [.long side.toInt64, .long 0, .long 1]) (rest := []) C0 (c_X12_in l G kc side.toInt64 0 1  _) cs_X12_in lk_X12_9 (zp_P C0 hRo hw a00 s00) rfl hl.1 rfl ⟨by decide, by decide⟩ (Nat.le_of_ble_eq_true rfl) (dk2 dF_184 DX12_put (i := 7) rfl rfl rfl) ⟨Nat.le_refl _, Nat.le_refl _⟩) (fun r2 s2 H locs hp hw => ?_)
    rcases hp with ⟨rfl, hc2⟩ | ⟨rfl, hc2⟩
    · skip
      (try simp (disch := omega) only [ta_lt, ta_le, ta_eq, tb_lt, tb_le, tb_eq, tw, tnI, tn32 1 (by decide), tnj 1 (by decide), tl32 0 (by decide), tl64 0 (by decide), tl32 1 (by decide), tl64 1 (by decide)] at hc2)
      obtain ⟨k_side, hk_side, rfl⟩ := to_nat (x := side) (n := 2) (by (try simp only [lg_cmp_lt, lg_cmp_le, lg_cmp_gt, lg_cmp_ge, lg_cmp_eq] at hc1); (try simp (disch := omega) only [ta_lt, ta_le, ta_eq, tb_lt, tb_le, tb_eq, tw, tnI, tn32 1 (by decide), tnj 1 (by decide), tl32 0 (by decide), tl64 0 (by decide), tl32 1 (by decide), tl64 1 (by decide)] at hc1); (try simp only [lg_cmp_lt, lg_cmp_le, lg_cmp_gt, lg_cmp_ge, lg_cmp_eq] at hk_row); (try simp (disch := omega) only [ta_lt, ta_le, ta_eq, tb_lt, tb_le, tb_eq, tw, tnI, tn32 1 (by decide), tnj 1 (by decide), tl32 0 (by decide), tl64 0 (by decide), tl32 1 (by decide), tl64 1 (by decide)] at hk_row); (try simp only [lg_cmp_lt, lg_cmp_le, lg_cmp_gt, lg_cmp_ge, lg_cmp_eq] at hc2); (try simp (disch := omega) only [ta_lt, ta_le, ta_eq, tb_lt, tb_le, tb_eq, tw, tnI, tn32 1 (by decide), tnj 1 (by decide), tl32 0 (by decide), tl64 0 (by decide), tl32 1 (by decide), tl64 1 (by decide)] at hc2); (try simp (disch := omega) only [ta_lt, ta_le, ta_eq, tb_lt, tb_le, tb_eq, tw, tnI, tn32 1 (by decide), tnj 1 (by decide), tl32 0 (by decide), tl64 0 (by decide), tl32 1 (by decide), tl64 1 (by decide)]); omega)
      refine lv_if_eq (tgt := 31) hx hb (dkS dF_153 DX12_put (i := 8) rfl rfl rfl) (by decide) (fun h => absurd h (by decide)) (fun _ => ?_)
      refine lv_iload_n hx hb (dkP dF_29 DX12_put (i := 9) rfl rfl) rfl (lv_at hl 3 rfl) ?_
      refine lv_i2l hx hb (dkP dF_133 DX12_put (i := 10) rfl rfl) rfl ?_
      refine lv_ldc2 hx hb hown (hts _ kn_X12_349) (dk2 dF_20 DX12_put (i := 11) rfl rfl rfl) ?_
      refine lv_ldc2 hx hb hown (hts _ kn_X12_351) (dk2 dF_20 DX12_put (i := 12) rfl rfl rfl) ?_
      refine zn_I hw (zr_S (As := [.long va.toInt64, .long (-9999), .long 9999]) (rest := []) C0 (c_X12_in l G kc va.toInt64 (-9999) 9999  _) cs_X12_in lk_X12_9 (zp_P C0 hRo hw a00 s00) rfl hl.1 rfl ⟨by decide, by decide⟩ (Nat.le_of_ble_eq_true rfl) (dk2 dF_184 DX12_put (i := 13) rfl rfl rfl) ⟨Nat.le_refl _, Nat.le_refl _⟩) (fun r3 s3 H locs hp hw => ?_)
      rcases hp with ⟨rfl, hc3⟩ | ⟨rfl, hc3⟩
      · skip
        (try simp (disch := omega) only [ta_lt, ta_le, ta_eq, tb_lt, tb_le, tb_eq, tw, tnI, tn32 9999 (by decide), tnj 9999 (by decide), tn32 1 (by decide), tnj 1 (by decide), tl32 0 (by decide), tl64 0 (by decide), tl32 1 (by decide), tl64 1 (by decide), tl32 9999 (by decide), tl64 9999 (by decide)] at hc3)
        refine lv_if_ne (tgt := 34) hx hb (dkS dF_154 DX12_put (i := 14) rfl rfl rfl) (by decide) (fun _ => ?_) (fun h => absurd h (by decide))
        refine lv_iload_n hx hb (dkP dF_27 DX12_put (i := 17) rfl rfl) rfl (lv_at hl 1 rfl) ?_
        refine zn_I hw (zr_S (As := [.int (nI k_row)]) (rest := []) C0 (c_X12_rowAt l G kc k_row  _) cs_X12_rowAt lk_X12_489 (zp_P C0 hRo hw a00 s00) rfl hl.1 rfl ⟨by decide, by decide⟩ (Nat.le_of_ble_eq_true rfl) (dk2 dF_184 DX12_put (i := 18) rfl rfl rfl) ⟨Nat.le_refl _, Nat.le_refl _⟩) (fun r4 s4 H locs hp hw => ?_)
        subst hp
        refine lv_istore (lv' := [(4, .int (nI (414028 + 5 * k_row))), (0, .ref (ad 0)), (1, .int (nI k_row)), (2, .int (nI k_side)), (3, .int va)]) hx hb (dk1 dF_54 DX12_put (i := 19) rfl rfl rfl) hl (by decide) rfl (fun ls hl => ?_)
        refine lv_aload_n hx hb (dkP dF_42 DX12_put (i := 20) rfl rfl) rfl (lv_at hl 1 rfl) ?_
        refine z_gr C0 hw 0 1 1 rfl fl_X12_20 (dk2 dF_180 DX12_put (i := 21) rfl rfl rfl) ?_
        refine lv_iload hx hb (dk1 dF_21 DX12_put (i := 22) rfl rfl rfl) (lv_at hl 0 rfl) ?_
        refine lv_iconst (v := 3) hx hb (dkP dF_6 DX12_put (i := 23) rfl rfl) (by decide) ?_
        refine lv_iadd hx hb (dkP dF_96 DX12_put (i := 24) rfl rfl) ?_
        refine z_top (y := nI ((414028 + 5 * k_row) + 3)) (by simp only [fa_lit, nI_add, pk_mul]) ?_
        refine lv_aload_n hx hb (dkP dF_42 DX12_put (i := 25) rfl rfl) rfl (lv_at hl 1 rfl) ?_
        refine z_gr C0 hw 0 1 1 rfl fl_X12_20 (dk2 dF_180 DX12_put (i := 26) rfl rfl rfl) ?_
        refine lv_iload hx hb (dk1 dF_21 DX12_put (i := 27) rfl rfl rfl) (lv_at hl 0 rfl) ?_
        refine lv_iconst (v := 2) hx hb (dkP dF_5 DX12_put (i := 28) rfl rfl) (by decide) ?_
        refine lv_iadd hx hb (dkP dF_96 DX12_put (i := 29) rfl rfl) ?_
        refine z_top (y := nI ((414028 + 5 * k_row) + 2)) (by simp only [fa_lit, nI_add, pk_mul]) ?_
        refine z_ialdN (n := 414128) C0 hw 1 ((414028 + 5 * k_row) + 2) rfl (by omega) (by decide) (dkP dF_46 DX12_put (i := 30) rfl rfl) ?_
        obtain ⟨v5, ev5⟩ : ∃ y : Int32, σ.1 1 ((414028 + 5 * k_row) + 2) = y := ⟨_, rfl⟩
        refine z_top (y := v5) ev5 ?_
        refine lv_iload_n hx hb (dkP dF_28 DX12_put (i := 31) rfl rfl) rfl (lv_at hl 3 rfl) ?_
        refine lv_icmp_ne (tgt := 75) hx hb (dkS dF_160 DX12_put (i := 32) rfl rfl rfl) (by decide) (fun c6 => ?_) (fun c6 => ?_)
        · (try simp (disch := omega) only [ta_lt, ta_le, ta_eq, tnI] at c6); have hz6 := i32b v5
          refine lv_iconst (v := 1) hx hb (dkP dF_4 DX12_put (i := 42) rfl rfl) (by decide) ?_
          refine z_iastN (n := 414128) C0 hw 1 ((414028 + 5 * k_row) + 3) rfl (by omega) (by decide) (dkP dF_79 DX12_put (i := 43) rfl rfl) (fun H locs hw => ?_)
          have hT7 : TM (sI σ 1 ((414028 + 5 * k_row) + 3) 1) := TM.w hT (ty_hi (by omega))
          have hF7 : fr false [1] [] σ (sI σ 1 ((414028 + 5 * k_row) + 3) 1) := fr.w fr.refl (Or.inl ⟨by decide, by decide⟩) (fun h => absurd h (by decide))
          refine lv_aload_n hx hb (dkP dF_42 DX12_put (i := 44) rfl rfl) rfl (lv_at hl 1 rfl) ?_
          refine z_gr C0 hw 0 1 1 rfl fl_X12_20 (dk2 dF_180 DX12_put (i := 45) rfl rfl rfl) ?_
          refine lv_iload hx hb (dk1 dF_21 DX12_put (i := 46) rfl rfl rfl) (lv_at hl 0 rfl) ?_
          refine lv_iconst (v := 2) hx hb (dkP dF_5 DX12_put (i := 47) rfl rfl) (by decide) ?_
          refine lv_iadd hx hb (dkP dF_96 DX12_put (i := 48) rfl rfl) ?_
          refine z_top (y := nI ((414028 + 5 * k_row) + 2)) (by simp only [fa_lit, nI_add, pk_mul]) ?_
          refine lv_iload_n hx hb (dkP dF_28 DX12_put (i := 49) rfl rfl) rfl (lv_at hl 3 rfl) ?_
          refine z_iastN (n := 414128) C0 hw 1 ((414028 + 5 * k_row) + 2) rfl (by omega) (by decide) (dkP dF_79 DX12_put (i := 50) rfl rfl) (fun H locs hw => ?_)
          have hT8 : TM (sI (sI σ 1 ((414028 + 5 * k_row) + 3) 1) 1 ((414028 + 5 * k_row) + 2) (nI k_side)) := TM.w hT7 (ty_hi (by omega))
          have hF8 : fr false [1] [] σ (sI (sI σ 1 ((414028 + 5 * k_row) + 3) 1) 1 ((414028 + 5 * k_row) + 2) (nI k_side)) := fr.w hF7 (Or.inl ⟨by decide, by decide⟩) (fun h => absurd h (by decide))
          refine lv_aload_n hx hb (dkP dF_42 DX12_put (i := 51) rfl rfl) rfl (lv_at hl 1 rfl) ?_
          refine z_gr C0 hw 0 1 1 rfl fl_X12_20 (dk2 dF_180 DX12_put (i := 52) rfl rfl rfl) ?_
          refine lv_iload hx hb (dk1 dF_21 DX12_put (i := 53) rfl rfl rfl) (lv_at hl 0 rfl) ?_
          refine lv_iload_n hx hb (dkP dF_28 DX12_put (i := 54) rfl rfl) rfl (lv_at hl 3 rfl) ?_
          refine lv_iadd hx hb (dkP dF_96 DX12_put (i := 55) rfl rfl) ?_
          refine z_top (y := nI ((414028 + 5 * k_row) + k_side)) (by simp only [fa_lit, nI_add, pk_mul]) ?_
          refine lv_iload_n hx hb (dkP dF_29 DX12_put (i := 56) rfl rfl) rfl (lv_at hl 4 rfl) ?_
          refine z_iastN (n := 414128) C0 hw 1 ((414028 + 5 * k_row) + k_side) rfl (by omega) (by decide) (dkP dF_79 DX12_put (i := 57) rfl rfl) (fun H locs hw => ?_)
          have hT9 : TM (sI (sI (sI σ 1 ((414028 + 5 * k_row) + 3) 1) 1 ((414028 + 5 * k_row) + 2) (nI k_side)) 1 ((414028 + 5 * k_row) + k_side) va) := TM.w hT8 (ty_hi (by omega))
          have hF9 : fr false [1] [] σ (sI (sI (sI σ 1 ((414028 + 5 * k_row) + 3) 1) 1 ((414028 + 5 * k_row) + 2) (nI k_side)) 1 ((414028 + 5 * k_row) + k_side) va) := fr.w hF8 (Or.inl ⟨by decide, by decide⟩) (fun h => absurd h (by decide))
          refine lv_aload_n hx hb (dkP dF_42 DX12_put (i := 58) rfl rfl) rfl (lv_at hl 1 rfl) ?_
          refine z_gr C0 hw 0 1 1 rfl fl_X12_20 (dk2 dF_180 DX12_put (i := 59) rfl rfl rfl) ?_
          refine lv_iload hx hb (dk1 dF_21 DX12_put (i := 60) rfl rfl rfl) (lv_at hl 0 rfl) ?_
          refine lv_iconst (v := 3) hx hb (dkP dF_6 DX12_put (i := 61) rfl rfl) (by decide) ?_
          refine lv_iadd hx hb (dkP dF_96 DX12_put (i := 62) rfl rfl) ?_
          refine z_top (y := nI ((414028 + 5 * k_row) + 3)) (by simp only [fa_lit, nI_add, pk_mul]) ?_
          refine z_ialdN (n := 414128) C0 hw 1 ((414028 + 5 * k_row) + 3) rfl (by omega) (by decide) (dkP dF_46 DX12_put (i := 63) rfl rfl) ?_
          obtain ⟨v10, ev10⟩ : ∃ y : Int32, (sI (sI (sI σ 1 ((414028 + 5 * k_row) + 3) 1) 1 ((414028 + 5 * k_row) + 2) (nI k_side)) 1 ((414028 + 5 * k_row) + k_side) va).1 1 ((414028 + 5 * k_row) + 3) = y := ⟨_, rfl⟩
          refine z_top (y := v10) ev10 ?_
          exact z_iret C0 hr hlk hw (⟨hT9, hF9⟩) (dkP dF_172 DX12_put (i := 64) rfl rfl)
        · (try simp (disch := omega) only [ta_lt, ta_le, ta_eq, tnI] at c6); have hz6 := i32b v5
          refine lv_aload_n hx hb (dkP dF_42 DX12_put (i := 33) rfl rfl) rfl (lv_at hl 1 rfl) ?_
          refine z_gr C0 hw 0 1 1 rfl fl_X12_20 (dk2 dF_180 DX12_put (i := 34) rfl rfl rfl) ?_
          refine lv_iload hx hb (dk1 dF_21 DX12_put (i := 35) rfl rfl rfl) (lv_at hl 0 rfl) ?_
          refine lv_iconst (v := 3) hx hb (dkP dF_6 DX12_put (i := 36) rfl rfl) (by decide) ?_
          refine lv_iadd hx hb (dkP dF_96 DX12_put (i := 37) rfl rfl) ?_
          refine z_top (y := nI ((414028 + 5 * k_row) + 3)) (by simp only [fa_lit, nI_add, pk_mul]) ?_
          refine z_ialdN (n := 414128) C0 hw 1 ((414028 + 5 * k_row) + 3) rfl (by omega) (by decide) (dkP dF_46 DX12_put (i := 38) rfl rfl) ?_
          obtain ⟨v11, ev11⟩ : ∃ y : Int32, σ.1 1 ((414028 + 5 * k_row) + 3) = y := ⟨_, rfl⟩
          refine z_top (y := v11) ev11 ?_
          refine lv_iconst (v := 1) hx hb (dkP dF_4 DX12_put (i := 39) rfl rfl) (by decide) ?_
          refine lv_iadd hx hb (dkP dF_96 DX12_put (i := 40) rfl rfl) ?_
          refine lv_goto (tgt := 76) hx hb (dkS dF_167 DX12_put (i := 41) rfl rfl rfl) (by decide) ?_
          refine z_iastN (n := 414128) C0 hw 1 ((414028 + 5 * k_row) + 3) rfl (by omega) (by decide) (dkP dF_79 DX12_put (i := 43) rfl rfl) (fun H locs hw => ?_)
          have hT12 : TM (sI σ 1 ((414028 + 5 * k_row) + 3) (v11 + 1)) := TM.w hT (ty_hi (by omega))
          have hF12 : fr false [1] [] σ (sI σ 1 ((414028 + 5 * k_row) + 3) (v11 + 1)) := fr.w fr.refl (Or.inl ⟨by decide, by decide⟩) (fun h => absurd h (by decide))
          refine lv_aload_n hx hb (dkP dF_42 DX12_put (i := 44) rfl rfl) rfl (lv_at hl 1 rfl) ?_
          refine z_gr C0 hw 0 1 1 rfl fl_X12_20 (dk2 dF_180 DX12_put (i := 45) rfl rfl rfl) ?_
          refine lv_iload hx hb (dk1 dF_21 DX12_put (i := 46) rfl rfl rfl) (lv_at hl 0 rfl) ?_
          refine lv_iconst (v := 2) hx hb (dkP dF_5 DX12_put (i := 47) rfl rfl) (by decide) ?_
          refine lv_iadd hx hb (dkP dF_96 DX12_put (i := 48) rfl rfl) ?_
          refine z_top (y := nI ((414028 + 5 * k_row) + 2)) (by simp only [fa_lit, nI_add, pk_mul]) ?_
          refine lv_iload_n hx hb (dkP dF_28 DX12_put (i := 49) rfl rfl) rfl (lv_at hl 3 rfl) ?_
          refine z_iastN (n := 414128) C0 hw 1 ((414028 + 5 * k_row) + 2) rfl (by omega) (by decide) (dkP dF_79 DX12_put (i := 50) rfl rfl) (fun H locs hw => ?_)
          have hT13 : TM (sI (sI σ 1 ((414028 + 5 * k_row) + 3) (v11 + 1)) 1 ((414028 + 5 * k_row) + 2) (nI k_side)) := TM.w hT12 (ty_hi (by omega))
          have hF13 : fr false [1] [] σ (sI (sI σ 1 ((414028 + 5 * k_row) + 3) (v11 + 1)) 1 ((414028 + 5 * k_row) + 2) (nI k_side)) := fr.w hF12 (Or.inl ⟨by decide, by decide⟩) (fun h => absurd h (by decide))
          refine lv_aload_n hx hb (dkP dF_42 DX12_put (i := 51) rfl rfl) rfl (lv_at hl 1 rfl) ?_
          refine z_gr C0 hw 0 1 1 rfl fl_X12_20 (dk2 dF_180 DX12_put (i := 52) rfl rfl rfl) ?_
          refine lv_iload hx hb (dk1 dF_21 DX12_put (i := 53) rfl rfl rfl) (lv_at hl 0 rfl) ?_
          refine lv_iload_n hx hb (dkP dF_28 DX12_put (i := 54) rfl rfl) rfl (lv_at hl 3 rfl) ?_
          refine lv_iadd hx hb (dkP dF_96 DX12_put (i := 55) rfl rfl) ?_
          refine z_top (y := nI ((414028 + 5 * k_row) + k_side)) (by simp only [fa_lit, nI_add, pk_mul]) ?_
          refine lv_iload_n hx hb (dkP dF_29 DX12_put (i := 56) rfl rfl) rfl (lv_at hl 4 rfl) ?_
          refine z_iastN (n := 414128) C0 hw 1 ((414028 + 5 * k_row) + k_side) rfl (by omega) (by decide) (dkP dF_79 DX12_put (i := 57) rfl rfl) (fun H locs hw => ?_)
          have hT14 : TM (sI (sI (sI σ 1 ((414028 + 5 * k_row) + 3) (v11 + 1)) 1 ((414028 + 5 * k_row) + 2) (nI k_side)) 1 ((414028 + 5 * k_row) + k_side) va) := TM.w hT13 (ty_hi (by omega))
          have hF14 : fr false [1] [] σ (sI (sI (sI σ 1 ((414028 + 5 * k_row) + 3) (v11 + 1)) 1 ((414028 + 5 * k_row) + 2) (nI k_side)) 1 ((414028 + 5 * k_row) + k_side) va) := fr.w hF13 (Or.inl ⟨by decide, by decide⟩) (fun h => absurd h (by decide))
          refine lv_aload_n hx hb (dkP dF_42 DX12_put (i := 58) rfl rfl) rfl (lv_at hl 1 rfl) ?_
          refine z_gr C0 hw 0 1 1 rfl fl_X12_20 (dk2 dF_180 DX12_put (i := 59) rfl rfl rfl) ?_
          refine lv_iload hx hb (dk1 dF_21 DX12_put (i := 60) rfl rfl rfl) (lv_at hl 0 rfl) ?_
          refine lv_iconst (v := 3) hx hb (dkP dF_6 DX12_put (i := 61) rfl rfl) (by decide) ?_
          refine lv_iadd hx hb (dkP dF_96 DX12_put (i := 62) rfl rfl) ?_
          refine z_top (y := nI ((414028 + 5 * k_row) + 3)) (by simp only [fa_lit, nI_add, pk_mul]) ?_
          refine z_ialdN (n := 414128) C0 hw 1 ((414028 + 5 * k_row) + 3) rfl (by omega) (by decide) (dkP dF_46 DX12_put (i := 63) rfl rfl) ?_
          obtain ⟨v15, ev15⟩ : ∃ y : Int32, (sI (sI (sI σ 1 ((414028 + 5 * k_row) + 3) (v11 + 1)) 1 ((414028 + 5 * k_row) + 2) (nI k_side)) 1 ((414028 + 5 * k_row) + k_side) va).1 1 ((414028 + 5 * k_row) + 3) = y := ⟨_, rfl⟩
          refine z_top (y := v15) ev15 ?_
          exact z_iret C0 hr hlk hw (⟨hT14, hF14⟩) (dkP dF_172 DX12_put (i := 64) rfl rfl)
      · skip
        (try simp (disch := omega) only [ta_lt, ta_le, ta_eq, tb_lt, tb_le, tb_eq, tw, tnI, tn32 9999 (by decide), tnj 9999 (by decide), tn32 1 (by decide), tnj 1 (by decide), tl32 0 (by decide), tl64 0 (by decide), tl32 1 (by decide), tl64 1 (by decide), tl32 2 (by decide), tl64 2 (by decide), tl32 3 (by decide), tl64 3 (by decide), tl32 9999 (by decide), tl64 9999 (by decide)] at hc3)
        refine lv_if_ne (tgt := 34) hx hb (dkS dF_154 DX12_put (i := 14) rfl rfl rfl) (by decide) (fun h => absurd h (by decide)) (fun _ => ?_)
        refine lv_bipush (v := (-2)) hx hb (dks dF_16 DX12_put (i := 15) rfl rfl rfl) (by decide) ?_
        exact z_iret C0 hr hlk hw (⟨hT, fr.refl⟩) (dkP dF_172 DX12_put (i := 16) rfl rfl)
    · skip
      (try simp (disch := omega) only [ta_lt, ta_le, ta_eq, tb_lt, tb_le, tb_eq, tw, tnI, tn32 9999 (by decide), tnj 9999 (by decide), tn32 2 (by decide), tnj 2 (by decide), tn32 1 (by decide), tnj 1 (by decide), tl32 0 (by decide), tl64 0 (by decide), tl32 1 (by decide), tl64 1 (by decide), tl32 2 (by decide), tl64 2 (by decide), tl32 3 (by decide), tl64 3 (by decide), tl32 9999 (by decide), tl64 9999 (by decide)] at hc2)
      refine lv_if_eq (tgt := 31) hx hb (dkS dF_153 DX12_put (i := 8) rfl rfl rfl) (by decide) (fun _ => ?_) (fun h => absurd h (by decide))
      refine lv_bipush (v := (-2)) hx hb (dks dF_16 DX12_put (i := 15) rfl rfl rfl) (by decide) ?_
      exact z_iret C0 hr hlk hw (⟨hT, fr.refl⟩) (dkP dF_172 DX12_put (i := 16) rfl rfl)
  · skip
    (try simp (disch := omega) only [ta_lt, ta_le, ta_eq, tb_lt, tb_le, tb_eq, tw, tnI, tn32 9999 (by decide), tnj 9999 (by decide), tn32 2 (by decide), tnj 2 (by decide), tn32 1 (by decide), tnj 1 (by decide), tl32 0 (by decide), tl64 0 (by decide), tl32 1 (by decide), tl64 1 (by decide), tl32 2 (by decide), tl64 2 (by decide), tl32 3 (by decide), tl64 3 (by decide), tl32 9999 (by decide), tl64 9999 (by decide)] at hc1)
    refine lv_if_eq (tgt := 31) hx hb (dkS dF_153 DX12_put (i := 2) rfl rfl rfl) (by decide) (fun _ => ?_) (fun h => absurd h (by decide))
    refine lv_bipush (v := (-2)) hx hb (dks dF_16 DX12_put (i := 15) rfl rfl rfl) (by decide) ?_
    exact z_iret C0 hr hlk hw (⟨hT, fr.refl⟩) (dkP dF_172 DX12_put (i := 16) rfl rfl)
set_option maxRecDepth 100000 in
set_option maxHeartbeats 8000000 in
theorem c_X12_lead (l : Launch) (G : va_G) (kc : KC) (ad : Nat → Nat) (σ : Sg) (row : Int32) (hT : TM σ) : MI l G kc yX12_lead cX12_lead 2 (some .int) 2 45 [.ref (ad 0), .int row] shM ad σ (fun r σ1 => TM σ1 ∧ fr false [1] [] σ σ1) := by
  intro sz
  refine z_body (y := yX12_lead) (n := 2) (av := [.ref (ad 0), .int row]) (Qc := fun A => va_Qi (fun r σ1 => TM σ1 ∧ fr false [1] [] σ σ1) (PoC G kc shM ad A) A) (plainFor_of_name (by decide)) (Nat.le_of_ble_eq_true rfl) (fun pr e s m below meth c A C0 hr hlk hnm hw hRo ls hl => ?_) sz
  have hx := C0.1
  have hb := C0.2.1
  have hown := C0.2.2.2.1
  have hts := C0.2.2.2.2.1
  have hl : lv_has ls 2 [(0, .ref (ad 0)), (1, .int row)] := hl
  refine lv_iload_n hx hb (dkP dF_27 DX12_lead (i := 0) rfl rfl) rfl (lv_at hl 1 rfl) ?_
  refine zn_I hw (zr_S (As := [.int row]) (rest := []) C0 (c_X12_isRow l G kc row  _) cs_X12_isRow lk_X12_495 (zp_P C0 hRo hw a00 s00) rfl hl.1 rfl ⟨by decide, by decide⟩ (Nat.le_of_ble_eq_true rfl) (dk2 dF_184 DX12_lead (i := 1) rfl rfl rfl) ⟨Nat.le_refl _, Nat.le_refl _⟩) (fun r1 s1 H locs hp hw => ?_)
  rcases hp with ⟨rfl, hc1⟩ | ⟨rfl, hc1⟩
  · skip
    (try simp (disch := omega) only [ta_lt, ta_le, ta_eq, tb_lt, tb_le, tb_eq, tw, tnI, tn32 1 (by decide), tnj 1 (by decide), tl32 0 (by decide), tl64 0 (by decide)] at hc1)
    obtain ⟨k_row, hk_row, rfl⟩ := to_nat (x := row) (n := 20) (by (try simp only [lg_cmp_lt, lg_cmp_le, lg_cmp_gt, lg_cmp_ge, lg_cmp_eq] at hc1); (try simp (disch := omega) only [ta_lt, ta_le, ta_eq, tb_lt, tb_le, tb_eq, tw, tnI, tn32 1 (by decide), tnj 1 (by decide), tl32 0 (by decide), tl64 0 (by decide)] at hc1); (try simp (disch := omega) only [ta_lt, ta_le, ta_eq, tb_lt, tb_le, tb_eq, tw, tnI, tn32 1 (by decide), tnj 1 (by decide), tl32 0 (by decide), tl64 0 (by decide)]); omega)
    refine lv_if_eq (tgt := 18) hx hb (dkS dF_153 DX12_lead (i := 2) rfl rfl rfl) (by decide) (fun h => absurd h (by decide)) (fun _ => ?_)
    refine lv_aload_n hx hb (dkP dF_42 DX12_lead (i := 3) rfl rfl) rfl (lv_at hl 0 rfl) ?_
    refine lv_iload_n hx hb (dkP dF_27 DX12_lead (i := 4) rfl rfl) rfl (lv_at hl 1 rfl) ?_
    refine zn_I hw (zr_S (As := [.int (nI k_row)]) (rest := [.ref (ad 0)]) C0 (c_X12_rowAt l G kc k_row  _) cs_X12_rowAt lk_X12_489 (zp_P C0 hRo hw a00 s00) rfl hl.1 rfl ⟨by decide, by decide⟩ (Nat.le_of_ble_eq_true rfl) (dk2 dF_184 DX12_lead (i := 5) rfl rfl rfl) ⟨Nat.le_refl _, Nat.le_refl _⟩) (fun r2 s2 H locs hp hw => ?_)
    subst hp
    refine zk_I hw (zr_V (As := [.int (nI (414028 + 5 * k_row))]) (rest := []) C0 (c_X12_leads l G kc ad σ (414028 + 5 * k_row) (by first | omega | assumption | decide | rfl) (by first | omega | assumption | decide | rfl) hT _) cv_X12_leads lk_X12_492 (zp_V C0 hRo hw 0 rfl rfl rfl) rfl hl.1 rfl ⟨by decide, by decide⟩ (Nat.le_of_ble_eq_true rfl) (dk2 dF_182 DX12_lead (i := 6) rfl rfl rfl) ⟨Nat.le_refl _, Nat.le_refl _⟩) (fun r3 s3 H locs hp hw => ?_)
    obtain ⟨hT3, hG3⟩ := hp
    have hF3 : fr false [1] [] σ s3 := fr.t fr.refl hG3 (by decide) (by decide) (by decide)
    refine lv_goto (tgt := 21) hx hb (dkS dF_167 DX12_lead (i := 7) rfl rfl rfl) (by decide) ?_
    exact z_iret C0 hr hlk hw (⟨hT3, hF3⟩) (dkP dF_172 DX12_lead (i := 9) rfl rfl)
  · skip
    (try simp (disch := omega) only [ta_lt, ta_le, ta_eq, tb_lt, tb_le, tb_eq, tw, tnI, tn32 1 (by decide), tnj 1 (by decide), tl32 0 (by decide), tl64 0 (by decide)] at hc1)
    refine lv_if_eq (tgt := 18) hx hb (dkS dF_153 DX12_lead (i := 2) rfl rfl rfl) (by decide) (fun _ => ?_) (fun h => absurd h (by decide))
    refine lv_ldcw hx hb hown (hts _ kn_X12_413) (dk2 dF_19 DX12_lead (i := 8) rfl rfl rfl) ?_
    exact z_iret C0 hr hlk hw (⟨hT, fr.refl⟩) (dkP dF_172 DX12_lead (i := 9) rfl rfl)
set_option maxRecDepth 100000 in
set_option maxHeartbeats 8000000 in
theorem c_X12_row (l : Launch) (G : va_G) (kc : KC) (ad : Nat → Nat) (σ : Sg) (row : Int32) (what : Int32) (hT : TM σ) : MI l G kc yX12_row cX12_row 3 (some .int) 2 45 [.ref (ad 0), .int row, .int what] shM ad σ (fun r σ1 => σ1 = σ) := by
  intro sz
  refine z_body (y := yX12_row) (n := 3) (av := [.ref (ad 0), .int row, .int what]) (Qc := fun A => va_Qi (fun r σ1 => σ1 = σ) (PoC G kc shM ad A) A) (plainFor_of_name (by decide)) (Nat.le_of_ble_eq_true rfl) (fun pr e s m below meth c A C0 hr hlk hnm hw hRo ls hl => ?_) sz
  have hx := C0.1
  have hb := C0.2.1
  have hown := C0.2.2.2.1
  have hts := C0.2.2.2.2.1
  have hl : lv_has ls 3 [(0, .ref (ad 0)), (1, .int row), (2, .int what)] := hl
  refine lv_iload_n hx hb (dkP dF_27 DX12_row (i := 0) rfl rfl) rfl (lv_at hl 1 rfl) ?_
  refine zn_I hw (zr_S (As := [.int row]) (rest := []) C0 (c_X12_isRow l G kc row  _) cs_X12_isRow lk_X12_495 (zp_P C0 hRo hw a00 s00) rfl hl.1 rfl ⟨by decide, by decide⟩ (Nat.le_of_ble_eq_true rfl) (dk2 dF_184 DX12_row (i := 1) rfl rfl rfl) ⟨Nat.le_refl _, Nat.le_refl _⟩) (fun r1 s1 H locs hp hw => ?_)
  rcases hp with ⟨rfl, hc1⟩ | ⟨rfl, hc1⟩
  · skip
    (try simp (disch := omega) only [ta_lt, ta_le, ta_eq, tb_lt, tb_le, tb_eq, tw, tnI, tn32 1 (by decide), tnj 1 (by decide), tl32 0 (by decide), tl64 0 (by decide)] at hc1)
    obtain ⟨k_row, hk_row, rfl⟩ := to_nat (x := row) (n := 20) (by (try simp only [lg_cmp_lt, lg_cmp_le, lg_cmp_gt, lg_cmp_ge, lg_cmp_eq] at hc1); (try simp (disch := omega) only [ta_lt, ta_le, ta_eq, tb_lt, tb_le, tb_eq, tw, tnI, tn32 1 (by decide), tnj 1 (by decide), tl32 0 (by decide), tl64 0 (by decide)] at hc1); (try simp (disch := omega) only [ta_lt, ta_le, ta_eq, tb_lt, tb_le, tb_eq, tw, tnI, tn32 1 (by decide), tnj 1 (by decide), tl32 0 (by decide), tl64 0 (by decide)]); omega)
    refine lv_if_eq (tgt := 33) hx hb (dkS dF_153 DX12_row (i := 2) rfl rfl rfl) (by decide) (fun h => absurd h (by decide)) (fun _ => ?_)
    refine lv_iload_n hx hb (dkP dF_28 DX12_row (i := 3) rfl rfl) rfl (lv_at hl 2 rfl) ?_
    refine lv_i2l hx hb (dkP dF_133 DX12_row (i := 4) rfl rfl) rfl ?_
    refine lv_lconst (v := 0) hx hb (dkP dF_9 DX12_row (i := 5) rfl rfl) (by decide) ?_
    refine lv_ldc2 hx hb hown (hts _ kn_X12_433) (dk2 dF_20 DX12_row (i := 6) rfl rfl rfl) ?_
    refine zn_I hw (zr_S (As := [.long what.toInt64, .long 0, .long 4]) (rest := []) C0 (c_X12_in l G kc what.toInt64 0 4  _) cs_X12_in lk_X12_9 (zp_P C0 hRo hw a00 s00) rfl hl.1 rfl ⟨by decide, by decide⟩ (Nat.le_of_ble_eq_true rfl) (dk2 dF_184 DX12_row (i := 7) rfl rfl rfl) ⟨Nat.le_refl _, Nat.le_refl _⟩) (fun r2 s2 H locs hp hw => ?_)
    rcases hp with ⟨rfl, hc2⟩ | ⟨rfl, hc2⟩
    · skip
      (try simp (disch := omega) only [ta_lt, ta_le, ta_eq, tb_lt, tb_le, tb_eq, tw, tnI, tn32 1 (by decide), tnj 1 (by decide), tl32 0 (by decide), tl64 0 (by decide), tl32 4 (by decide), tl64 4 (by decide)] at hc2)
      obtain ⟨k_what, hk_what, rfl⟩ := to_nat (x := what) (n := 5) (by (try simp only [lg_cmp_lt, lg_cmp_le, lg_cmp_gt, lg_cmp_ge, lg_cmp_eq] at hc1); (try simp (disch := omega) only [ta_lt, ta_le, ta_eq, tb_lt, tb_le, tb_eq, tw, tnI, tn32 1 (by decide), tnj 1 (by decide), tl32 0 (by decide), tl64 0 (by decide), tl32 4 (by decide), tl64 4 (by decide)] at hc1); (try simp only [lg_cmp_lt, lg_cmp_le, lg_cmp_gt, lg_cmp_ge, lg_cmp_eq] at hk_row); (try simp (disch := omega) only [ta_lt, ta_le, ta_eq, tb_lt, tb_le, tb_eq, tw, tnI, tn32 1 (by decide), tnj 1 (by decide), tl32 0 (by decide), tl64 0 (by decide), tl32 4 (by decide), tl64 4 (by decide)] at hk_row); (try simp only [lg_cmp_lt, lg_cmp_le, lg_cmp_gt, lg_cmp_ge, lg_cmp_eq] at hc2); (try simp (disch := omega) only [ta_lt, ta_le, ta_eq, tb_lt, tb_le, tb_eq, tw, tnI, tn32 1 (by decide), tnj 1 (by decide), tl32 0 (by decide), tl64 0 (by decide), tl32 4 (by decide), tl64 4 (by decide)] at hc2); (try simp (disch := omega) only [ta_lt, ta_le, ta_eq, tb_lt, tb_le, tb_eq, tw, tnI, tn32 1 (by decide), tnj 1 (by decide), tl32 0 (by decide), tl64 0 (by decide), tl32 4 (by decide), tl64 4 (by decide)]); omega)
      refine lv_if_eq (tgt := 33) hx hb (dkS dF_153 DX12_row (i := 8) rfl rfl rfl) (by decide) (fun h => absurd h (by decide)) (fun _ => ?_)
      refine lv_aload_n hx hb (dkP dF_42 DX12_row (i := 9) rfl rfl) rfl (lv_at hl 0 rfl) ?_
      refine z_gr C0 hw 0 1 1 rfl fl_X12_20 (dk2 dF_180 DX12_row (i := 10) rfl rfl rfl) ?_
      refine lv_iload_n hx hb (dkP dF_27 DX12_row (i := 11) rfl rfl) rfl (lv_at hl 1 rfl) ?_
      refine zn_I hw (zr_S (As := [.int (nI k_row)]) (rest := [.ref (ad 1)]) C0 (c_X12_rowAt l G kc k_row  _) cs_X12_rowAt lk_X12_489 (zp_P C0 hRo hw a00 s00) rfl hl.1 rfl ⟨by decide, by decide⟩ (Nat.le_of_ble_eq_true rfl) (dk2 dF_184 DX12_row (i := 12) rfl rfl rfl) ⟨Nat.le_refl _, Nat.le_refl _⟩) (fun r3 s3 H locs hp hw => ?_)
      subst hp
      refine lv_iload_n hx hb (dkP dF_28 DX12_row (i := 13) rfl rfl) rfl (lv_at hl 2 rfl) ?_
      refine lv_iadd hx hb (dkP dF_96 DX12_row (i := 14) rfl rfl) ?_
      refine z_top (y := nI ((414028 + 5 * k_row) + k_what)) (by simp only [fa_lit, nI_add, pk_mul]) ?_
      refine z_ialdN (n := 414128) C0 hw 1 ((414028 + 5 * k_row) + k_what) rfl (by omega) (by decide) (dkP dF_46 DX12_row (i := 15) rfl rfl) ?_
      obtain ⟨v4, ev4⟩ : ∃ y : Int32, σ.1 1 ((414028 + 5 * k_row) + k_what) = y := ⟨_, rfl⟩
      refine z_top (y := v4) ev4 ?_
      refine lv_goto (tgt := 36) hx hb (dkS dF_167 DX12_row (i := 16) rfl rfl rfl) (by decide) ?_
      exact z_iret C0 hr hlk hw rfl (dkP dF_172 DX12_row (i := 18) rfl rfl)
    · skip
      (try simp (disch := omega) only [ta_lt, ta_le, ta_eq, tb_lt, tb_le, tb_eq, tw, tnI, tn32 1 (by decide), tnj 1 (by decide), tl32 0 (by decide), tl64 0 (by decide), tl32 4 (by decide), tl64 4 (by decide)] at hc2)
      refine lv_if_eq (tgt := 33) hx hb (dkS dF_153 DX12_row (i := 8) rfl rfl rfl) (by decide) (fun _ => ?_) (fun h => absurd h (by decide))
      refine lv_ldcw hx hb hown (hts _ kn_X12_413) (dk2 dF_19 DX12_row (i := 17) rfl rfl rfl) ?_
      exact z_iret C0 hr hlk hw rfl (dkP dF_172 DX12_row (i := 18) rfl rfl)
  · skip
    (try simp (disch := omega) only [ta_lt, ta_le, ta_eq, tb_lt, tb_le, tb_eq, tw, tnI, tn32 2000000000 (by decide), tnj 2000000000 (by decide), tn32 1 (by decide), tnj 1 (by decide), tl32 0 (by decide), tl64 0 (by decide), tl32 4 (by decide), tl64 4 (by decide)] at hc1)
    refine lv_if_eq (tgt := 33) hx hb (dkS dF_153 DX12_row (i := 2) rfl rfl rfl) (by decide) (fun _ => ?_) (fun h => absurd h (by decide))
    refine lv_ldcw hx hb hown (hts _ kn_X12_413) (dk2 dF_19 DX12_row (i := 17) rfl rfl rfl) ?_
    exact z_iret C0 hr hlk hw rfl (dkP dF_172 DX12_row (i := 18) rfl rfl)
set_option maxRecDepth 100000 in
set_option maxHeartbeats 8000000 in
theorem c_X12_check (l : Launch) (G : va_G) (kc : KC) (ad : Nat → Nat) (σ : Sg)  (hT : TM σ) : MI l G kc yX12_check cX12_check 5 (some .int) 1 20 [.ref (ad 0)] shM ad σ (fun r σ1 => σ1 = σ) := by
  intro sz
  refine z_body (y := yX12_check) (n := 5) (av := [.ref (ad 0)]) (Qc := fun A => va_Qi (fun r σ1 => σ1 = σ) (PoC G kc shM ad A) A) (plainFor_of_name (by decide)) (Nat.le_of_ble_eq_true rfl) (fun pr e s m below meth c A C0 hr hlk hnm hw hRo ls hl => ?_) sz
  have hx := C0.1
  have hb := C0.2.1
  have hown := C0.2.2.2.1
  have hts := C0.2.2.2.2.1
  have hl : lv_has ls 5 [(0, .ref (ad 0))] := hl
  refine lv_iconst (v := 0) hx hb (dkP dF_3 DX12_check (i := 0) rfl rfl) (by decide) ?_
  refine lv_istore_n (lv' := [(1, .int 0), (0, .ref (ad 0))]) hx hb (dkP dF_60 DX12_check (i := 1) rfl rfl) rfl hl (by decide) rfl (fun ls hl => ?_)
  refine lv_iconst (v := 1) hx hb (dkP dF_4 DX12_check (i := 2) rfl rfl) (by decide) ?_
  refine lv_istore_n (lv' := [(2, .int 1), (1, .int 0), (0, .ref (ad 0))]) hx hb (dkP dF_61 DX12_check (i := 3) rfl rfl) rfl hl (by decide) rfl (fun ls hl => ?_)
  refine lv_iconst (v := 0) hx hb (dkP dF_3 DX12_check (i := 4) rfl rfl) (by decide) ?_
  refine lv_istore_n (lv' := [(3, .int 0), (2, .int 1), (1, .int 0), (0, .ref (ad 0))]) hx hb (dkP dF_62 DX12_check (i := 5) rfl rfl) rfl hl (by decide) rfl (fun ls hl => ?_)
  have lp1 : ∀ (nq : Nat) (q3_6 : Nat) (q2_6 : Int32) (q1_6 : Int32) (H : Heap) (locs : List Loc) (ls : Array Slot), 20 - q3_6 < nq → (q3_6 ≤ 20) → St G kc A s.heap shM ad σ H locs → lv_has ls 5 [(3, .int (nI q3_6)), (2, .int q2_6), (1, .int q1_6), (0, .ref (ad 0))] → W pr l e { frames := 1, cells := 0, slots := 0, locals := 20 } s m ([.ref (ad 0)] : List Value).toArray below meth c H locs 0 0 (MQ below (va_Qi (fun r σ1 => σ1 = σ) (PoC G kc shM ad A) A) ([.ref (ad 0)] : List Value).toArray s 0 0 A) (F0 m 6 ls []) := by
    intro nq
    induction nq with
    | zero => intro q3_6 q2_6 q1_6 H locs ls hmu; exact absurd hmu (Nat.not_lt_zero _)
    | succ nq ih1 =>
      intro q3_6 q2_6 q1_6 H locs ls hmu hq3_6 hw hl
      refine lv_iload_n hx hb (dkP dF_29 DX12_check (i := 6) rfl rfl) rfl (lv_at hl 0 rfl) ?_
      refine lv_bipush (v := 20) hx hb (dks dF_16 DX12_check (i := 7) rfl rfl rfl) (by decide) ?_
      refine lv_icmp_ge (tgt := 87) hx hb (dkS dF_162 DX12_check (i := 8) rfl rfl rfl) (by decide) (fun c2 => ?_) (fun c2 => ?_)
      · simp (disch := omega) only [ta_lt, ta_le, ta_eq, tnI, tl32 20 (by decide)] at c2
        refine lv_iload_n hx hb (dkP dF_27 DX12_check (i := 54) rfl rfl) rfl (lv_at hl 2 rfl) ?_
        refine lv_if_le (tgt := 95) hx hb (dkS dF_158 DX12_check (i := 55) rfl rfl rfl) (by decide) (fun c3 => ?_) (fun c3 => ?_)
        · (try simp (disch := omega) only [ta_lt, ta_le, ta_eq, tnI, tl32 0 (by decide)] at c3)
          refine lv_iload_n hx hb (dkP dF_28 DX12_check (i := 58) rfl rfl) rfl (lv_at hl 1 rfl) ?_
          refine lv_if_eq (tgt := 103) hx hb (dkS dF_153 DX12_check (i := 59) rfl rfl rfl) (by decide) (fun c4 => ?_) (fun c4 => ?_)
          · (try simp (disch := omega) only [ta_lt, ta_le, ta_eq, tnI, tl32 0 (by decide)] at c4)
            refine lv_bipush (v := (-3)) hx hb (dks dF_16 DX12_check (i := 62) rfl rfl rfl) (by decide) ?_
            exact z_iret C0 hr hlk hw rfl (dkP dF_172 DX12_check (i := 63) rfl rfl)
          · (try simp (disch := omega) only [ta_lt, ta_le, ta_eq, tnI, tl32 0 (by decide)] at c4)
            refine lv_iconst (v := (-1)) hx hb (dkP dF_2 DX12_check (i := 60) rfl rfl) (by decide) ?_
            refine lv_goto (tgt := 105) hx hb (dkS dF_167 DX12_check (i := 61) rfl rfl rfl) (by decide) ?_
            exact z_iret C0 hr hlk hw rfl (dkP dF_172 DX12_check (i := 63) rfl rfl)
        · (try simp (disch := omega) only [ta_lt, ta_le, ta_eq, tnI, tl32 0 (by decide)] at c3)
          refine lv_iload_n hx hb (dkP dF_27 DX12_check (i := 56) rfl rfl) rfl (lv_at hl 2 rfl) ?_
          refine lv_goto (tgt := 105) hx hb (dkS dF_167 DX12_check (i := 57) rfl rfl rfl) (by decide) ?_
          exact z_iret C0 hr hlk hw rfl (dkP dF_172 DX12_check (i := 63) rfl rfl)
      · simp (disch := omega) only [ta_lt, ta_le, ta_eq, tnI, tl32 20 (by decide)] at c2
        refine lv_iload_n hx hb (dkP dF_29 DX12_check (i := 9) rfl rfl) rfl (lv_at hl 0 rfl) ?_
        refine zn_I hw (zr_S (As := [.int (nI q3_6)]) (rest := []) C0 (c_X12_rowAt l G kc q3_6  _) cs_X12_rowAt lk_X12_489 (zp_P C0 hRo hw a00 s00) rfl hl.1 rfl ⟨by decide, by decide⟩ (Nat.le_of_ble_eq_true rfl) (dk2 dF_184 DX12_check (i := 10) rfl rfl rfl) ⟨Nat.le_refl _, Nat.le_refl _⟩) (fun r5 s5 H locs hp hw => ?_)
        subst hp
        refine lv_istore (lv' := [(4, .int (nI (414028 + 5 * q3_6))), (3, .int (nI q3_6)), (2, .int q2_6), (1, .int q1_6), (0, .ref (ad 0))]) hx hb (dk1 dF_54 DX12_check (i := 11) rfl rfl rfl) hl (by decide) rfl (fun ls hl => ?_)
        refine lv_iload_n hx hb (dkP dF_27 DX12_check (i := 12) rfl rfl) rfl (lv_at hl 3 rfl) ?_
        refine lv_aload_n hx hb (dkP dF_42 DX12_check (i := 13) rfl rfl) rfl (lv_at hl 4 rfl) ?_
        refine z_gr C0 hw 0 1 1 rfl fl_X12_20 (dk2 dF_180 DX12_check (i := 14) rfl rfl rfl) ?_
        refine lv_iload hx hb (dk1 dF_21 DX12_check (i := 15) rfl rfl rfl) (lv_at hl 0 rfl) ?_
        refine lv_iconst (v := 3) hx hb (dkP dF_6 DX12_check (i := 16) rfl rfl) (by decide) ?_
        refine lv_iadd hx hb (dkP dF_96 DX12_check (i := 17) rfl rfl) ?_
        refine z_top (y := nI ((414028 + 5 * q3_6) + 3)) (by simp only [fa_lit, nI_add, pk_mul]) ?_
        refine z_ialdN (n := 414128) C0 hw 1 ((414028 + 5 * q3_6) + 3) rfl (by omega) (by decide) (dkP dF_46 DX12_check (i := 18) rfl rfl) ?_
        obtain ⟨v6, ev6⟩ : ∃ y : Int32, σ.1 1 ((414028 + 5 * q3_6) + 3) = y := ⟨_, rfl⟩
        refine z_top (y := v6) ev6 ?_
        refine lv_if_le (tgt := 35) hx hb (dkS dF_158 DX12_check (i := 19) rfl rfl rfl) (by decide) (fun c7 => ?_) (fun c7 => ?_)
        · (try simp (disch := omega) only [ta_lt, ta_le, ta_eq, tnI, tl32 0 (by decide)] at c7)
          refine lv_iconst (v := 0) hx hb (dkP dF_3 DX12_check (i := 22) rfl rfl) (by decide) ?_
          refine lv_iadd hx hb (dkP dF_96 DX12_check (i := 23) rfl rfl) ?_
          refine lv_topi (fun v8 ev8 => ?_)
          refine lv_istore_n (lv' := [(1, .int v8), (4, .int (nI (414028 + 5 * q3_6))), (3, .int (nI q3_6)), (2, .int q2_6), (0, .ref (ad 0))]) hx hb (dkP dF_60 DX12_check (i := 24) rfl rfl) rfl hl (by decide) rfl (fun ls hl => ?_)
          refine lv_iload_n hx hb (dkP dF_28 DX12_check (i := 25) rfl rfl) rfl (lv_at hl 3 rfl) ?_
          refine lv_if_eq (tgt := 79) hx hb (dkS dF_153 DX12_check (i := 26) rfl rfl rfl) (by decide) (fun c9 => ?_) (fun c9 => ?_)
          · (try simp (disch := omega) only [ta_lt, ta_le, ta_eq, tnI, tl32 0 (by decide)] at c9)
            refine lv_iconst (v := 0) hx hb (dkP dF_3 DX12_check (i := 50) rfl rfl) (by decide) ?_
            refine lv_istore_n (lv' := [(2, .int 0), (1, .int v8), (4, .int (nI (414028 + 5 * q3_6))), (3, .int (nI q3_6)), (0, .ref (ad 0))]) hx hb (dkP dF_61 DX12_check (i := 51) rfl rfl) rfl hl (by decide) rfl (fun ls hl => ?_)
            refine lv_iinc (v := nI (q3_6 + 1)) (lv' := [(3, .int (nI (q3_6 + 1))), (2, .int 0), (1, .int v8), (4, .int (nI (414028 + 5 * q3_6))), (0, .ref (ad 0))]) hx hb (dkI DX12_check (i := 52) rfl rfl rfl rfl) hl (k := 3) rfl (nI_1 _) (by decide) rfl (fun ls hl => ?_)
            refine lv_goto (tgt := 6) hx hb (dkS dF_167 DX12_check (i := 53) rfl rfl rfl) (by decide) ?_
            exact ih1 (q3_6 + 1) 0 v8 _ _ _ (by omega) (by (try simp only [lg_cmp_lt, lg_cmp_le, lg_cmp_gt, lg_cmp_ge, lg_cmp_eq] at c2); (try simp (disch := omega) only [ta_lt, ta_le, ta_eq, tb_lt, tb_le, tb_eq, tw, tnI, tsub1, tsv, tn32 3 (by decide), tnj 3 (by decide), tn32 1 (by decide), tnj 1 (by decide), tl32 0 (by decide), tl64 0 (by decide), tl32 1 (by decide), tl64 1 (by decide), tl32 3 (by decide), tl64 3 (by decide), tl32 20 (by decide), tl64 20 (by decide)] at c2); (try simp only [lg_cmp_lt, lg_cmp_le, lg_cmp_gt, lg_cmp_ge, lg_cmp_eq] at c7); (try simp (disch := omega) only [ta_lt, ta_le, ta_eq, tb_lt, tb_le, tb_eq, tw, tnI, tsub1, tsv, tn32 3 (by decide), tnj 3 (by decide), tn32 1 (by decide), tnj 1 (by decide), tl32 0 (by decide), tl64 0 (by decide), tl32 1 (by decide), tl64 1 (by decide), tl32 3 (by decide), tl64 3 (by decide), tl32 20 (by decide), tl64 20 (by decide)] at c7); (try simp only [lg_cmp_lt, lg_cmp_le, lg_cmp_gt, lg_cmp_ge, lg_cmp_eq] at c9); (try simp (disch := omega) only [ta_lt, ta_le, ta_eq, tb_lt, tb_le, tb_eq, tw, tnI, tsub1, tsv, tn32 3 (by decide), tnj 3 (by decide), tn32 1 (by decide), tnj 1 (by decide), tl32 0 (by decide), tl64 0 (by decide), tl32 1 (by decide), tl64 1 (by decide), tl32 3 (by decide), tl64 3 (by decide), tl32 20 (by decide), tl64 20 (by decide)] at c9); (try simp (disch := omega) only [ta_lt, ta_le, ta_eq, tb_lt, tb_le, tb_eq, tw, tnI, tsub1, tsv, tn32 3 (by decide), tnj 3 (by decide), tn32 1 (by decide), tnj 1 (by decide), tl32 0 (by decide), tl64 0 (by decide), tl32 1 (by decide), tl64 1 (by decide), tl32 3 (by decide), tl64 3 (by decide), tl32 20 (by decide), tl64 20 (by decide)]); omega) hw (lv_sub hl [0, 1, 2, 4] rfl)
          · (try simp (disch := omega) only [ta_lt, ta_le, ta_eq, tnI, tl32 0 (by decide)] at c9)
            refine lv_aload_n hx hb (dkP dF_42 DX12_check (i := 27) rfl rfl) rfl (lv_at hl 4 rfl) ?_
            refine z_gr C0 hw 0 1 1 rfl fl_X12_20 (dk2 dF_180 DX12_check (i := 28) rfl rfl rfl) ?_
            refine lv_iload hx hb (dk1 dF_21 DX12_check (i := 29) rfl rfl rfl) (lv_at hl 1 rfl) ?_
            refine lv_iconst (v := 1) hx hb (dkP dF_4 DX12_check (i := 30) rfl rfl) (by decide) ?_
            refine lv_iadd hx hb (dkP dF_96 DX12_check (i := 31) rfl rfl) ?_
            refine z_top (y := nI ((414028 + 5 * q3_6) + 1)) (by simp only [fa_lit, nI_add, pk_mul]) ?_
            refine z_ialdN (n := 414128) C0 hw 1 ((414028 + 5 * q3_6) + 1) rfl (by omega) (by decide) (dkP dF_46 DX12_check (i := 32) rfl rfl) ?_
            obtain ⟨v10, ev10⟩ : ∃ y : Int32, σ.1 1 ((414028 + 5 * q3_6) + 1) = y := ⟨_, rfl⟩
            refine z_top (y := v10) ev10 ?_
            refine lv_aload_n hx hb (dkP dF_42 DX12_check (i := 33) rfl rfl) rfl (lv_at hl 4 rfl) ?_
            refine z_gr C0 hw 0 1 1 rfl fl_X12_20 (dk2 dF_180 DX12_check (i := 34) rfl rfl rfl) ?_
            refine lv_iconst (v := 3) hx hb (dkP dF_6 DX12_check (i := 35) rfl rfl) (by decide) ?_
            refine z_ialdN (n := 414128) C0 hw 1 3 rfl (by omega) (by decide) (dkP dF_46 DX12_check (i := 36) rfl rfl) ?_
            obtain ⟨n11, hm11, hn11, en11⟩ := rngP (x := σ.1 1 3) (l := 1) (h := 9) (by decide) (show 1 ≤ _ ∧ _ ≤ 9 from hT 1 3)
            refine z_top (y := nI n11) en11 ?_
            refine lv_aload_n hx hb (dkP dF_42 DX12_check (i := 37) rfl rfl) rfl (lv_at hl 4 rfl) ?_
            refine z_gr C0 hw 0 1 1 rfl fl_X12_20 (dk2 dF_180 DX12_check (i := 38) rfl rfl rfl) ?_
            refine lv_iload hx hb (dk1 dF_21 DX12_check (i := 39) rfl rfl rfl) (lv_at hl 1 rfl) ?_
            refine z_ialdN (n := 414128) C0 hw 1 (414028 + 5 * q3_6) rfl (by omega) (by decide) (dkP dF_46 DX12_check (i := 40) rfl rfl) ?_
            obtain ⟨v12, ev12⟩ : ∃ y : Int32, σ.1 1 (414028 + 5 * q3_6) = y := ⟨_, rfl⟩
            refine z_top (y := v12) ev12 ?_
            refine lv_imul hx hb (dkP dF_104 DX12_check (i := 41) rfl rfl) ?_
            refine lv_aload_n hx hb (dkP dF_42 DX12_check (i := 42) rfl rfl) rfl (lv_at hl 4 rfl) ?_
            refine z_gr C0 hw 0 1 1 rfl fl_X12_20 (dk2 dF_180 DX12_check (i := 43) rfl rfl rfl) ?_
            refine lv_iconst (v := 4) hx hb (dkP dF_7 DX12_check (i := 44) rfl rfl) (by decide) ?_
            refine z_ialdN (n := 414128) C0 hw 1 4 rfl (by omega) (by decide) (dkP dF_46 DX12_check (i := 45) rfl rfl) ?_
            obtain ⟨v13, ev13⟩ : ∃ y : Int32, σ.1 1 4 = y := ⟨_, rfl⟩
            refine z_top (y := v13) ev13 ?_
            refine lv_iadd hx hb (dkP dF_96 DX12_check (i := 46) rfl rfl) ?_
            refine lv_icmp_ne (tgt := 79) hx hb (dkS dF_160 DX12_check (i := 47) rfl rfl rfl) (by decide) (fun c14 => ?_) (fun c14 => ?_)
            · (try simp (disch := omega) only [ta_lt, ta_le, ta_eq, tnI] at c14)
              refine lv_iconst (v := 0) hx hb (dkP dF_3 DX12_check (i := 50) rfl rfl) (by decide) ?_
              refine lv_istore_n (lv' := [(2, .int 0), (1, .int v8), (4, .int (nI (414028 + 5 * q3_6))), (3, .int (nI q3_6)), (0, .ref (ad 0))]) hx hb (dkP dF_61 DX12_check (i := 51) rfl rfl) rfl hl (by decide) rfl (fun ls hl => ?_)
              refine lv_iinc (v := nI (q3_6 + 1)) (lv' := [(3, .int (nI (q3_6 + 1))), (2, .int 0), (1, .int v8), (4, .int (nI (414028 + 5 * q3_6))), (0, .ref (ad 0))]) hx hb (dkI DX12_check (i := 52) rfl rfl rfl rfl) hl (k := 3) rfl (nI_1 _) (by decide) rfl (fun ls hl => ?_)
              refine lv_goto (tgt := 6) hx hb (dkS dF_167 DX12_check (i := 53) rfl rfl rfl) (by decide) ?_
              exact ih1 (q3_6 + 1) 0 v8 _ _ _ (by omega) (by (try simp only [lg_cmp_lt, lg_cmp_le, lg_cmp_gt, lg_cmp_ge, lg_cmp_eq] at c2); (try simp (disch := omega) only [ta_lt, ta_le, ta_eq, tb_lt, tb_le, tb_eq, tw, tnI, tsub1, tsv, tn32 3 (by decide), tnj 3 (by decide), tn32 1 (by decide), tnj 1 (by decide), tl32 0 (by decide), tl64 0 (by decide), tl32 1 (by decide), tl64 1 (by decide), tl32 3 (by decide), tl64 3 (by decide), tl32 4 (by decide), tl64 4 (by decide), tl32 20 (by decide), tl64 20 (by decide)] at c2); (try simp only [lg_cmp_lt, lg_cmp_le, lg_cmp_gt, lg_cmp_ge, lg_cmp_eq] at c7); (try simp (disch := omega) only [ta_lt, ta_le, ta_eq, tb_lt, tb_le, tb_eq, tw, tnI, tsub1, tsv, tn32 3 (by decide), tnj 3 (by decide), tn32 1 (by decide), tnj 1 (by decide), tl32 0 (by decide), tl64 0 (by decide), tl32 1 (by decide), tl64 1 (by decide), tl32 3 (by decide), tl64 3 (by decide), tl32 4 (by decide), tl64 4 (by decide), tl32 20 (by decide), tl64 20 (by decide)] at c7); (try simp only [lg_cmp_lt, lg_cmp_le, lg_cmp_gt, lg_cmp_ge, lg_cmp_eq] at c9); (try simp (disch := omega) only [ta_lt, ta_le, ta_eq, tb_lt, tb_le, tb_eq, tw, tnI, tsub1, tsv, tn32 3 (by decide), tnj 3 (by decide), tn32 1 (by decide), tnj 1 (by decide), tl32 0 (by decide), tl64 0 (by decide), tl32 1 (by decide), tl64 1 (by decide), tl32 3 (by decide), tl64 3 (by decide), tl32 4 (by decide), tl64 4 (by decide), tl32 20 (by decide), tl64 20 (by decide)] at c9); (try simp only [lg_cmp_lt, lg_cmp_le, lg_cmp_gt, lg_cmp_ge, lg_cmp_eq] at c14); (try simp (disch := omega) only [ta_lt, ta_le, ta_eq, tb_lt, tb_le, tb_eq, tw, tnI, tsub1, tsv, tn32 3 (by decide), tnj 3 (by decide), tn32 1 (by decide), tnj 1 (by decide), tl32 0 (by decide), tl64 0 (by decide), tl32 1 (by decide), tl64 1 (by decide), tl32 3 (by decide), tl64 3 (by decide), tl32 4 (by decide), tl64 4 (by decide), tl32 20 (by decide), tl64 20 (by decide)] at c14); (try simp (disch := omega) only [ta_lt, ta_le, ta_eq, tb_lt, tb_le, tb_eq, tw, tnI, tsub1, tsv, tn32 3 (by decide), tnj 3 (by decide), tn32 1 (by decide), tnj 1 (by decide), tl32 0 (by decide), tl64 0 (by decide), tl32 1 (by decide), tl64 1 (by decide), tl32 3 (by decide), tl64 3 (by decide), tl32 4 (by decide), tl64 4 (by decide), tl32 20 (by decide), tl64 20 (by decide)]); omega) hw (lv_sub hl [0, 1, 2, 4] rfl)
            · (try simp (disch := omega) only [ta_lt, ta_le, ta_eq, tnI] at c14)
              refine lv_iconst (v := 1) hx hb (dkP dF_4 DX12_check (i := 48) rfl rfl) (by decide) ?_
              refine lv_goto (tgt := 80) hx hb (dkS dF_167 DX12_check (i := 49) rfl rfl rfl) (by decide) ?_
              refine lv_istore_n (lv' := [(2, .int 1), (1, .int v8), (4, .int (nI (414028 + 5 * q3_6))), (3, .int (nI q3_6)), (0, .ref (ad 0))]) hx hb (dkP dF_61 DX12_check (i := 51) rfl rfl) rfl hl (by decide) rfl (fun ls hl => ?_)
              refine lv_iinc (v := nI (q3_6 + 1)) (lv' := [(3, .int (nI (q3_6 + 1))), (2, .int 1), (1, .int v8), (4, .int (nI (414028 + 5 * q3_6))), (0, .ref (ad 0))]) hx hb (dkI DX12_check (i := 52) rfl rfl rfl rfl) hl (k := 3) rfl (nI_1 _) (by decide) rfl (fun ls hl => ?_)
              refine lv_goto (tgt := 6) hx hb (dkS dF_167 DX12_check (i := 53) rfl rfl rfl) (by decide) ?_
              exact ih1 (q3_6 + 1) 1 v8 _ _ _ (by omega) (by (try simp only [lg_cmp_lt, lg_cmp_le, lg_cmp_gt, lg_cmp_ge, lg_cmp_eq] at c2); (try simp (disch := omega) only [ta_lt, ta_le, ta_eq, tb_lt, tb_le, tb_eq, tw, tnI, tsub1, tsv, tn32 3 (by decide), tnj 3 (by decide), tn32 1 (by decide), tnj 1 (by decide), tl32 0 (by decide), tl64 0 (by decide), tl32 1 (by decide), tl64 1 (by decide), tl32 3 (by decide), tl64 3 (by decide), tl32 4 (by decide), tl64 4 (by decide), tl32 20 (by decide), tl64 20 (by decide)] at c2); (try simp only [lg_cmp_lt, lg_cmp_le, lg_cmp_gt, lg_cmp_ge, lg_cmp_eq] at c7); (try simp (disch := omega) only [ta_lt, ta_le, ta_eq, tb_lt, tb_le, tb_eq, tw, tnI, tsub1, tsv, tn32 3 (by decide), tnj 3 (by decide), tn32 1 (by decide), tnj 1 (by decide), tl32 0 (by decide), tl64 0 (by decide), tl32 1 (by decide), tl64 1 (by decide), tl32 3 (by decide), tl64 3 (by decide), tl32 4 (by decide), tl64 4 (by decide), tl32 20 (by decide), tl64 20 (by decide)] at c7); (try simp only [lg_cmp_lt, lg_cmp_le, lg_cmp_gt, lg_cmp_ge, lg_cmp_eq] at c9); (try simp (disch := omega) only [ta_lt, ta_le, ta_eq, tb_lt, tb_le, tb_eq, tw, tnI, tsub1, tsv, tn32 3 (by decide), tnj 3 (by decide), tn32 1 (by decide), tnj 1 (by decide), tl32 0 (by decide), tl64 0 (by decide), tl32 1 (by decide), tl64 1 (by decide), tl32 3 (by decide), tl64 3 (by decide), tl32 4 (by decide), tl64 4 (by decide), tl32 20 (by decide), tl64 20 (by decide)] at c9); (try simp only [lg_cmp_lt, lg_cmp_le, lg_cmp_gt, lg_cmp_ge, lg_cmp_eq] at c14); (try simp (disch := omega) only [ta_lt, ta_le, ta_eq, tb_lt, tb_le, tb_eq, tw, tnI, tsub1, tsv, tn32 3 (by decide), tnj 3 (by decide), tn32 1 (by decide), tnj 1 (by decide), tl32 0 (by decide), tl64 0 (by decide), tl32 1 (by decide), tl64 1 (by decide), tl32 3 (by decide), tl64 3 (by decide), tl32 4 (by decide), tl64 4 (by decide), tl32 20 (by decide), tl64 20 (by decide)] at c14); (try simp (disch := omega) only [ta_lt, ta_le, ta_eq, tb_lt, tb_le, tb_eq, tw, tnI, tsub1, tsv, tn32 3 (by decide), tnj 3 (by decide), tn32 1 (by decide), tnj 1 (by decide), tl32 0 (by decide), tl64 0 (by decide), tl32 1 (by decide), tl64 1 (by decide), tl32 3 (by decide), tl64 3 (by decide), tl32 4 (by decide), tl64 4 (by decide), tl32 20 (by decide), tl64 20 (by decide)]); omega) hw (lv_sub hl [0, 1, 2, 4] rfl)
        · (try simp (disch := omega) only [ta_lt, ta_le, ta_eq, tnI, tl32 0 (by decide)] at c7)
          refine lv_iconst (v := 1) hx hb (dkP dF_4 DX12_check (i := 20) rfl rfl) (by decide) ?_
          refine lv_goto (tgt := 36) hx hb (dkS dF_167 DX12_check (i := 21) rfl rfl rfl) (by decide) ?_
          refine lv_iadd hx hb (dkP dF_96 DX12_check (i := 23) rfl rfl) ?_
          refine lv_topi (fun v15 ev15 => ?_)
          refine lv_istore_n (lv' := [(1, .int v15), (4, .int (nI (414028 + 5 * q3_6))), (3, .int (nI q3_6)), (2, .int q2_6), (0, .ref (ad 0))]) hx hb (dkP dF_60 DX12_check (i := 24) rfl rfl) rfl hl (by decide) rfl (fun ls hl => ?_)
          refine lv_iload_n hx hb (dkP dF_28 DX12_check (i := 25) rfl rfl) rfl (lv_at hl 3 rfl) ?_
          refine lv_if_eq (tgt := 79) hx hb (dkS dF_153 DX12_check (i := 26) rfl rfl rfl) (by decide) (fun c16 => ?_) (fun c16 => ?_)
          · (try simp (disch := omega) only [ta_lt, ta_le, ta_eq, tnI, tl32 0 (by decide)] at c16)
            refine lv_iconst (v := 0) hx hb (dkP dF_3 DX12_check (i := 50) rfl rfl) (by decide) ?_
            refine lv_istore_n (lv' := [(2, .int 0), (1, .int v15), (4, .int (nI (414028 + 5 * q3_6))), (3, .int (nI q3_6)), (0, .ref (ad 0))]) hx hb (dkP dF_61 DX12_check (i := 51) rfl rfl) rfl hl (by decide) rfl (fun ls hl => ?_)
            refine lv_iinc (v := nI (q3_6 + 1)) (lv' := [(3, .int (nI (q3_6 + 1))), (2, .int 0), (1, .int v15), (4, .int (nI (414028 + 5 * q3_6))), (0, .ref (ad 0))]) hx hb (dkI DX12_check (i := 52) rfl rfl rfl rfl) hl (k := 3) rfl (nI_1 _) (by decide) rfl (fun ls hl => ?_)
            refine lv_goto (tgt := 6) hx hb (dkS dF_167 DX12_check (i := 53) rfl rfl rfl) (by decide) ?_
            exact ih1 (q3_6 + 1) 0 v15 _ _ _ (by omega) (by (try simp only [lg_cmp_lt, lg_cmp_le, lg_cmp_gt, lg_cmp_ge, lg_cmp_eq] at c2); (try simp (disch := omega) only [ta_lt, ta_le, ta_eq, tb_lt, tb_le, tb_eq, tw, tnI, tsub1, tsv, tn32 3 (by decide), tnj 3 (by decide), tn32 1 (by decide), tnj 1 (by decide), tl32 0 (by decide), tl64 0 (by decide), tl32 1 (by decide), tl64 1 (by decide), tl32 3 (by decide), tl64 3 (by decide), tl32 4 (by decide), tl64 4 (by decide), tl32 20 (by decide), tl64 20 (by decide)] at c2); (try simp only [lg_cmp_lt, lg_cmp_le, lg_cmp_gt, lg_cmp_ge, lg_cmp_eq] at c7); (try simp (disch := omega) only [ta_lt, ta_le, ta_eq, tb_lt, tb_le, tb_eq, tw, tnI, tsub1, tsv, tn32 3 (by decide), tnj 3 (by decide), tn32 1 (by decide), tnj 1 (by decide), tl32 0 (by decide), tl64 0 (by decide), tl32 1 (by decide), tl64 1 (by decide), tl32 3 (by decide), tl64 3 (by decide), tl32 4 (by decide), tl64 4 (by decide), tl32 20 (by decide), tl64 20 (by decide)] at c7); (try simp only [lg_cmp_lt, lg_cmp_le, lg_cmp_gt, lg_cmp_ge, lg_cmp_eq] at c16); (try simp (disch := omega) only [ta_lt, ta_le, ta_eq, tb_lt, tb_le, tb_eq, tw, tnI, tsub1, tsv, tn32 3 (by decide), tnj 3 (by decide), tn32 1 (by decide), tnj 1 (by decide), tl32 0 (by decide), tl64 0 (by decide), tl32 1 (by decide), tl64 1 (by decide), tl32 3 (by decide), tl64 3 (by decide), tl32 4 (by decide), tl64 4 (by decide), tl32 20 (by decide), tl64 20 (by decide)] at c16); (try simp (disch := omega) only [ta_lt, ta_le, ta_eq, tb_lt, tb_le, tb_eq, tw, tnI, tsub1, tsv, tn32 3 (by decide), tnj 3 (by decide), tn32 1 (by decide), tnj 1 (by decide), tl32 0 (by decide), tl64 0 (by decide), tl32 1 (by decide), tl64 1 (by decide), tl32 3 (by decide), tl64 3 (by decide), tl32 4 (by decide), tl64 4 (by decide), tl32 20 (by decide), tl64 20 (by decide)]); omega) hw (lv_sub hl [0, 1, 2, 4] rfl)
          · (try simp (disch := omega) only [ta_lt, ta_le, ta_eq, tnI, tl32 0 (by decide)] at c16)
            refine lv_aload_n hx hb (dkP dF_42 DX12_check (i := 27) rfl rfl) rfl (lv_at hl 4 rfl) ?_
            refine z_gr C0 hw 0 1 1 rfl fl_X12_20 (dk2 dF_180 DX12_check (i := 28) rfl rfl rfl) ?_
            refine lv_iload hx hb (dk1 dF_21 DX12_check (i := 29) rfl rfl rfl) (lv_at hl 1 rfl) ?_
            refine lv_iconst (v := 1) hx hb (dkP dF_4 DX12_check (i := 30) rfl rfl) (by decide) ?_
            refine lv_iadd hx hb (dkP dF_96 DX12_check (i := 31) rfl rfl) ?_
            refine z_top (y := nI ((414028 + 5 * q3_6) + 1)) (by simp only [fa_lit, nI_add, pk_mul]) ?_
            refine z_ialdN (n := 414128) C0 hw 1 ((414028 + 5 * q3_6) + 1) rfl (by omega) (by decide) (dkP dF_46 DX12_check (i := 32) rfl rfl) ?_
            obtain ⟨v17, ev17⟩ : ∃ y : Int32, σ.1 1 ((414028 + 5 * q3_6) + 1) = y := ⟨_, rfl⟩
            refine z_top (y := v17) ev17 ?_
            refine lv_aload_n hx hb (dkP dF_42 DX12_check (i := 33) rfl rfl) rfl (lv_at hl 4 rfl) ?_
            refine z_gr C0 hw 0 1 1 rfl fl_X12_20 (dk2 dF_180 DX12_check (i := 34) rfl rfl rfl) ?_
            refine lv_iconst (v := 3) hx hb (dkP dF_6 DX12_check (i := 35) rfl rfl) (by decide) ?_
            refine z_ialdN (n := 414128) C0 hw 1 3 rfl (by omega) (by decide) (dkP dF_46 DX12_check (i := 36) rfl rfl) ?_
            obtain ⟨n18, hm18, hn18, en18⟩ := rngP (x := σ.1 1 3) (l := 1) (h := 9) (by decide) (show 1 ≤ _ ∧ _ ≤ 9 from hT 1 3)
            refine z_top (y := nI n18) en18 ?_
            refine lv_aload_n hx hb (dkP dF_42 DX12_check (i := 37) rfl rfl) rfl (lv_at hl 4 rfl) ?_
            refine z_gr C0 hw 0 1 1 rfl fl_X12_20 (dk2 dF_180 DX12_check (i := 38) rfl rfl rfl) ?_
            refine lv_iload hx hb (dk1 dF_21 DX12_check (i := 39) rfl rfl rfl) (lv_at hl 1 rfl) ?_
            refine z_ialdN (n := 414128) C0 hw 1 (414028 + 5 * q3_6) rfl (by omega) (by decide) (dkP dF_46 DX12_check (i := 40) rfl rfl) ?_
            obtain ⟨v19, ev19⟩ : ∃ y : Int32, σ.1 1 (414028 + 5 * q3_6) = y := ⟨_, rfl⟩
            refine z_top (y := v19) ev19 ?_
            refine lv_imul hx hb (dkP dF_104 DX12_check (i := 41) rfl rfl) ?_
            refine lv_aload_n hx hb (dkP dF_42 DX12_check (i := 42) rfl rfl) rfl (lv_at hl 4 rfl) ?_
            refine z_gr C0 hw 0 1 1 rfl fl_X12_20 (dk2 dF_180 DX12_check (i := 43) rfl rfl rfl) ?_
            refine lv_iconst (v := 4) hx hb (dkP dF_7 DX12_check (i := 44) rfl rfl) (by decide) ?_
            refine z_ialdN (n := 414128) C0 hw 1 4 rfl (by omega) (by decide) (dkP dF_46 DX12_check (i := 45) rfl rfl) ?_
            obtain ⟨v20, ev20⟩ : ∃ y : Int32, σ.1 1 4 = y := ⟨_, rfl⟩
            refine z_top (y := v20) ev20 ?_
            refine lv_iadd hx hb (dkP dF_96 DX12_check (i := 46) rfl rfl) ?_
            refine lv_icmp_ne (tgt := 79) hx hb (dkS dF_160 DX12_check (i := 47) rfl rfl rfl) (by decide) (fun c21 => ?_) (fun c21 => ?_)
            · (try simp (disch := omega) only [ta_lt, ta_le, ta_eq, tnI] at c21)
              refine lv_iconst (v := 0) hx hb (dkP dF_3 DX12_check (i := 50) rfl rfl) (by decide) ?_
              refine lv_istore_n (lv' := [(2, .int 0), (1, .int v15), (4, .int (nI (414028 + 5 * q3_6))), (3, .int (nI q3_6)), (0, .ref (ad 0))]) hx hb (dkP dF_61 DX12_check (i := 51) rfl rfl) rfl hl (by decide) rfl (fun ls hl => ?_)
              refine lv_iinc (v := nI (q3_6 + 1)) (lv' := [(3, .int (nI (q3_6 + 1))), (2, .int 0), (1, .int v15), (4, .int (nI (414028 + 5 * q3_6))), (0, .ref (ad 0))]) hx hb (dkI DX12_check (i := 52) rfl rfl rfl rfl) hl (k := 3) rfl (nI_1 _) (by decide) rfl (fun ls hl => ?_)
              refine lv_goto (tgt := 6) hx hb (dkS dF_167 DX12_check (i := 53) rfl rfl rfl) (by decide) ?_
              exact ih1 (q3_6 + 1) 0 v15 _ _ _ (by omega) (by (try simp only [lg_cmp_lt, lg_cmp_le, lg_cmp_gt, lg_cmp_ge, lg_cmp_eq] at c2); (try simp (disch := omega) only [ta_lt, ta_le, ta_eq, tb_lt, tb_le, tb_eq, tw, tnI, tsub1, tsv, tn32 3 (by decide), tnj 3 (by decide), tn32 1 (by decide), tnj 1 (by decide), tl32 0 (by decide), tl64 0 (by decide), tl32 1 (by decide), tl64 1 (by decide), tl32 3 (by decide), tl64 3 (by decide), tl32 4 (by decide), tl64 4 (by decide), tl32 20 (by decide), tl64 20 (by decide)] at c2); (try simp only [lg_cmp_lt, lg_cmp_le, lg_cmp_gt, lg_cmp_ge, lg_cmp_eq] at c7); (try simp (disch := omega) only [ta_lt, ta_le, ta_eq, tb_lt, tb_le, tb_eq, tw, tnI, tsub1, tsv, tn32 3 (by decide), tnj 3 (by decide), tn32 1 (by decide), tnj 1 (by decide), tl32 0 (by decide), tl64 0 (by decide), tl32 1 (by decide), tl64 1 (by decide), tl32 3 (by decide), tl64 3 (by decide), tl32 4 (by decide), tl64 4 (by decide), tl32 20 (by decide), tl64 20 (by decide)] at c7); (try simp only [lg_cmp_lt, lg_cmp_le, lg_cmp_gt, lg_cmp_ge, lg_cmp_eq] at c16); (try simp (disch := omega) only [ta_lt, ta_le, ta_eq, tb_lt, tb_le, tb_eq, tw, tnI, tsub1, tsv, tn32 3 (by decide), tnj 3 (by decide), tn32 1 (by decide), tnj 1 (by decide), tl32 0 (by decide), tl64 0 (by decide), tl32 1 (by decide), tl64 1 (by decide), tl32 3 (by decide), tl64 3 (by decide), tl32 4 (by decide), tl64 4 (by decide), tl32 20 (by decide), tl64 20 (by decide)] at c16); (try simp only [lg_cmp_lt, lg_cmp_le, lg_cmp_gt, lg_cmp_ge, lg_cmp_eq] at c21); (try simp (disch := omega) only [ta_lt, ta_le, ta_eq, tb_lt, tb_le, tb_eq, tw, tnI, tsub1, tsv, tn32 3 (by decide), tnj 3 (by decide), tn32 1 (by decide), tnj 1 (by decide), tl32 0 (by decide), tl64 0 (by decide), tl32 1 (by decide), tl64 1 (by decide), tl32 3 (by decide), tl64 3 (by decide), tl32 4 (by decide), tl64 4 (by decide), tl32 20 (by decide), tl64 20 (by decide)] at c21); (try simp (disch := omega) only [ta_lt, ta_le, ta_eq, tb_lt, tb_le, tb_eq, tw, tnI, tsub1, tsv, tn32 3 (by decide), tnj 3 (by decide), tn32 1 (by decide), tnj 1 (by decide), tl32 0 (by decide), tl64 0 (by decide), tl32 1 (by decide), tl64 1 (by decide), tl32 3 (by decide), tl64 3 (by decide), tl32 4 (by decide), tl64 4 (by decide), tl32 20 (by decide), tl64 20 (by decide)]); omega) hw (lv_sub hl [0, 1, 2, 4] rfl)
            · (try simp (disch := omega) only [ta_lt, ta_le, ta_eq, tnI] at c21)
              refine lv_iconst (v := 1) hx hb (dkP dF_4 DX12_check (i := 48) rfl rfl) (by decide) ?_
              refine lv_goto (tgt := 80) hx hb (dkS dF_167 DX12_check (i := 49) rfl rfl rfl) (by decide) ?_
              refine lv_istore_n (lv' := [(2, .int 1), (1, .int v15), (4, .int (nI (414028 + 5 * q3_6))), (3, .int (nI q3_6)), (0, .ref (ad 0))]) hx hb (dkP dF_61 DX12_check (i := 51) rfl rfl) rfl hl (by decide) rfl (fun ls hl => ?_)
              refine lv_iinc (v := nI (q3_6 + 1)) (lv' := [(3, .int (nI (q3_6 + 1))), (2, .int 1), (1, .int v15), (4, .int (nI (414028 + 5 * q3_6))), (0, .ref (ad 0))]) hx hb (dkI DX12_check (i := 52) rfl rfl rfl rfl) hl (k := 3) rfl (nI_1 _) (by decide) rfl (fun ls hl => ?_)
              refine lv_goto (tgt := 6) hx hb (dkS dF_167 DX12_check (i := 53) rfl rfl rfl) (by decide) ?_
              exact ih1 (q3_6 + 1) 1 v15 _ _ _ (by omega) (by (try simp only [lg_cmp_lt, lg_cmp_le, lg_cmp_gt, lg_cmp_ge, lg_cmp_eq] at c2); (try simp (disch := omega) only [ta_lt, ta_le, ta_eq, tb_lt, tb_le, tb_eq, tw, tnI, tsub1, tsv, tn32 3 (by decide), tnj 3 (by decide), tn32 1 (by decide), tnj 1 (by decide), tl32 0 (by decide), tl64 0 (by decide), tl32 1 (by decide), tl64 1 (by decide), tl32 3 (by decide), tl64 3 (by decide), tl32 4 (by decide), tl64 4 (by decide), tl32 20 (by decide), tl64 20 (by decide)] at c2); (try simp only [lg_cmp_lt, lg_cmp_le, lg_cmp_gt, lg_cmp_ge, lg_cmp_eq] at c7); (try simp (disch := omega) only [ta_lt, ta_le, ta_eq, tb_lt, tb_le, tb_eq, tw, tnI, tsub1, tsv, tn32 3 (by decide), tnj 3 (by decide), tn32 1 (by decide), tnj 1 (by decide), tl32 0 (by decide), tl64 0 (by decide), tl32 1 (by decide), tl64 1 (by decide), tl32 3 (by decide), tl64 3 (by decide), tl32 4 (by decide), tl64 4 (by decide), tl32 20 (by decide), tl64 20 (by decide)] at c7); (try simp only [lg_cmp_lt, lg_cmp_le, lg_cmp_gt, lg_cmp_ge, lg_cmp_eq] at c16); (try simp (disch := omega) only [ta_lt, ta_le, ta_eq, tb_lt, tb_le, tb_eq, tw, tnI, tsub1, tsv, tn32 3 (by decide), tnj 3 (by decide), tn32 1 (by decide), tnj 1 (by decide), tl32 0 (by decide), tl64 0 (by decide), tl32 1 (by decide), tl64 1 (by decide), tl32 3 (by decide), tl64 3 (by decide), tl32 4 (by decide), tl64 4 (by decide), tl32 20 (by decide), tl64 20 (by decide)] at c16); (try simp only [lg_cmp_lt, lg_cmp_le, lg_cmp_gt, lg_cmp_ge, lg_cmp_eq] at c21); (try simp (disch := omega) only [ta_lt, ta_le, ta_eq, tb_lt, tb_le, tb_eq, tw, tnI, tsub1, tsv, tn32 3 (by decide), tnj 3 (by decide), tn32 1 (by decide), tnj 1 (by decide), tl32 0 (by decide), tl64 0 (by decide), tl32 1 (by decide), tl64 1 (by decide), tl32 3 (by decide), tl64 3 (by decide), tl32 4 (by decide), tl64 4 (by decide), tl32 20 (by decide), tl64 20 (by decide)] at c21); (try simp (disch := omega) only [ta_lt, ta_le, ta_eq, tb_lt, tb_le, tb_eq, tw, tnI, tsub1, tsv, tn32 3 (by decide), tnj 3 (by decide), tn32 1 (by decide), tnj 1 (by decide), tl32 0 (by decide), tl64 0 (by decide), tl32 1 (by decide), tl64 1 (by decide), tl32 3 (by decide), tl64 3 (by decide), tl32 4 (by decide), tl64 4 (by decide), tl32 20 (by decide), tl64 20 (by decide)]); omega) hw (lv_sub hl [0, 1, 2, 4] rfl)
  exact lp1 _ 0 1 0 _ _ _ (Nat.lt_succ_self _) (by (try simp (disch := omega) only [ta_lt, ta_le, ta_eq, tb_lt, tb_le, tb_eq, tw, tnI, tsub1, tsv, tn32 3 (by decide), tnj 3 (by decide), tn32 1 (by decide), tnj 1 (by decide), tl32 0 (by decide), tl64 0 (by decide), tl32 1 (by decide), tl64 1 (by decide), tl32 3 (by decide), tl64 3 (by decide), tl32 4 (by decide), tl64 4 (by decide), tl32 20 (by decide), tl64 20 (by decide)]); omega) hw (lv_sub hl [0, 1, 2, 3] rfl)
set_option maxRecDepth 100000 in
set_option maxHeartbeats 8000000 in
theorem c_X12_statesOf (l : Launch) (G : va_G) (kc : KC) (ad : Nat → Nat) (σ : Sg) (stt : Int32) (hT : TM σ) : MI l G kc yX12_statesOf cX12_statesOf 4 (some .int) 2 41 [.ref (ad 0), .int stt] shM ad σ (fun r σ1 => σ1 = σ) := by
  intro sz
  refine z_body (y := yX12_statesOf) (n := 4) (av := [.ref (ad 0), .int stt]) (Qc := fun A => va_Qi (fun r σ1 => σ1 = σ) (PoC G kc shM ad A) A) (plainFor_of_name (by decide)) (Nat.le_of_ble_eq_true rfl) (fun pr e s m below meth c A C0 hr hlk hnm hw hRo ls hl => ?_) sz
  have hx := C0.1
  have hb := C0.2.1
  have hown := C0.2.2.2.1
  have hts := C0.2.2.2.2.1
  have hl : lv_has ls 4 [(0, .ref (ad 0)), (1, .int stt)] := hl
  refine lv_iconst (v := 0) hx hb (dkP dF_3 DX12_statesOf (i := 0) rfl rfl) (by decide) ?_
  refine lv_istore_n (lv' := [(2, .int 0), (0, .ref (ad 0)), (1, .int stt)]) hx hb (dkP dF_61 DX12_statesOf (i := 1) rfl rfl) rfl hl (by decide) rfl (fun ls hl => ?_)
  refine lv_iconst (v := 0) hx hb (dkP dF_3 DX12_statesOf (i := 2) rfl rfl) (by decide) ?_
  refine lv_istore_n (lv' := [(3, .int 0), (2, .int 0), (0, .ref (ad 0)), (1, .int stt)]) hx hb (dkP dF_62 DX12_statesOf (i := 3) rfl rfl) rfl hl (by decide) rfl (fun ls hl => ?_)
  have lp1 : ∀ (nq : Nat) (q3_4 : Nat) (q2_4 : Int32) (H : Heap) (locs : List Loc) (ls : Array Slot), 8 - q3_4 < nq → (q3_4 ≤ 8) → St G kc A s.heap shM ad σ H locs → lv_has ls 4 [(3, .int (nI q3_4)), (2, .int q2_4), (0, .ref (ad 0)), (1, .int stt)] → W pr l e { frames := 2, cells := 0, slots := 0, locals := 41 } s m ([.ref (ad 0), .int stt] : List Value).toArray below meth c H locs 0 0 (MQ below (va_Qi (fun r σ1 => σ1 = σ) (PoC G kc shM ad A) A) ([.ref (ad 0), .int stt] : List Value).toArray s 0 0 A) (F0 m 4 ls []) := by
    intro nq
    induction nq with
    | zero => intro q3_4 q2_4 H locs ls hmu; exact absurd hmu (Nat.not_lt_zero _)
    | succ nq ih1 =>
      intro q3_4 q2_4 H locs ls hmu hq3_4 hw hl
      refine lv_iload_n hx hb (dkP dF_29 DX12_statesOf (i := 4) rfl rfl) rfl (lv_at hl 0 rfl) ?_
      refine lv_bipush (v := 8) hx hb (dks dF_16 DX12_statesOf (i := 5) rfl rfl rfl) (by decide) ?_
      refine lv_icmp_ge (tgt := 33) hx hb (dkS dF_162 DX12_statesOf (i := 6) rfl rfl rfl) (by decide) (fun c2 => ?_) (fun c2 => ?_)
      · simp (disch := omega) only [ta_lt, ta_le, ta_eq, tnI, tl32 8 (by decide)] at c2
        refine lv_iload_n hx hb (dkP dF_28 DX12_statesOf (i := 20) rfl rfl) rfl (lv_at hl 1 rfl) ?_
        exact z_iret C0 hr hlk hw rfl (dkP dF_172 DX12_statesOf (i := 21) rfl rfl)
      · simp (disch := omega) only [ta_lt, ta_le, ta_eq, tnI, tl32 8 (by decide)] at c2
        refine lv_iload_n hx hb (dkP dF_28 DX12_statesOf (i := 7) rfl rfl) rfl (lv_at hl 1 rfl) ?_
        refine lv_aload_n hx hb (dkP dF_42 DX12_statesOf (i := 8) rfl rfl) rfl (lv_at hl 2 rfl) ?_
        refine lv_iload_n hx hb (dkP dF_29 DX12_statesOf (i := 9) rfl rfl) rfl (lv_at hl 0 rfl) ?_
        refine zk_I hw (zr_V (As := [.int (nI q3_4)]) (rest := [.int q2_4]) C0 (c_X12_stateOf l G kc ad σ q3_4 (by first | omega | assumption | decide | rfl) _) cv_X12_stateOf lk_X12_275 (zp_V C0 hRo hw 0 rfl rfl rfl) rfl hl.1 rfl ⟨by decide, by decide⟩ (Nat.le_of_ble_eq_true rfl) (dk2 dF_182 DX12_statesOf (i := 10) rfl rfl rfl) ⟨Nat.le_refl _, Nat.le_refl _⟩) (fun r3 s3 H locs hp hw => ?_)
        obtain ⟨rfl, hs3⟩ := hp
        (rw [hs3] at hw; clear hs3)
        obtain ⟨v4, ev4⟩ : ∃ y : Int32, σ.1 1 (8 + 20 * q3_4) = y := ⟨_, rfl⟩
        refine z_top (y := v4) ev4 ?_
        refine lv_iload_n hx hb (dkP dF_27 DX12_statesOf (i := 11) rfl rfl) rfl (lv_at hl 3 rfl) ?_
        refine lv_icmp_ne (tgt := 24) hx hb (dkS dF_160 DX12_statesOf (i := 12) rfl rfl rfl) (by decide) (fun c5 => ?_) (fun c5 => ?_)
        · (try simp (disch := omega) only [ta_lt, ta_le, ta_eq, tnI] at c5)
          refine lv_iconst (v := 0) hx hb (dkP dF_3 DX12_statesOf (i := 15) rfl rfl) (by decide) ?_
          refine lv_iadd hx hb (dkP dF_96 DX12_statesOf (i := 16) rfl rfl) ?_
          refine lv_topi (fun v6 ev6 => ?_)
          refine lv_istore_n (lv' := [(2, .int v6), (3, .int (nI q3_4)), (0, .ref (ad 0)), (1, .int stt)]) hx hb (dkP dF_61 DX12_statesOf (i := 17) rfl rfl) rfl hl (by decide) rfl (fun ls hl => ?_)
          refine lv_iinc (v := nI (q3_4 + 1)) (lv' := [(3, .int (nI (q3_4 + 1))), (2, .int v6), (0, .ref (ad 0)), (1, .int stt)]) hx hb (dkI DX12_statesOf (i := 18) rfl rfl rfl rfl) hl (k := 1) rfl (nI_1 _) (by decide) rfl (fun ls hl => ?_)
          refine lv_goto (tgt := 4) hx hb (dkS dF_167 DX12_statesOf (i := 19) rfl rfl rfl) (by decide) ?_
          exact ih1 (q3_4 + 1) v6 _ _ _ (by omega) (by (try simp only [lg_cmp_lt, lg_cmp_le, lg_cmp_gt, lg_cmp_ge, lg_cmp_eq] at c2); (try simp (disch := omega) only [ta_lt, ta_le, ta_eq, tb_lt, tb_le, tb_eq, tw, tnI, tsub1, tsv, tn32 1 (by decide), tnj 1 (by decide), tl32 0 (by decide), tl64 0 (by decide), tl32 8 (by decide), tl64 8 (by decide)] at c2); (try simp only [lg_cmp_lt, lg_cmp_le, lg_cmp_gt, lg_cmp_ge, lg_cmp_eq] at c5); (try simp (disch := omega) only [ta_lt, ta_le, ta_eq, tb_lt, tb_le, tb_eq, tw, tnI, tsub1, tsv, tn32 1 (by decide), tnj 1 (by decide), tl32 0 (by decide), tl64 0 (by decide), tl32 8 (by decide), tl64 8 (by decide)] at c5); (try simp (disch := omega) only [ta_lt, ta_le, ta_eq, tb_lt, tb_le, tb_eq, tw, tnI, tsub1, tsv, tn32 1 (by decide), tnj 1 (by decide), tl32 0 (by decide), tl64 0 (by decide), tl32 8 (by decide), tl64 8 (by decide)]); omega) hw (lv_sub hl [0, 1, 2, 3] rfl)
        · (try simp (disch := omega) only [ta_lt, ta_le, ta_eq, tnI] at c5)
          refine lv_iconst (v := 1) hx hb (dkP dF_4 DX12_statesOf (i := 13) rfl rfl) (by decide) ?_
          refine lv_goto (tgt := 25) hx hb (dkS dF_167 DX12_statesOf (i := 14) rfl rfl rfl) (by decide) ?_
          refine lv_iadd hx hb (dkP dF_96 DX12_statesOf (i := 16) rfl rfl) ?_
          refine lv_topi (fun v7 ev7 => ?_)
          refine lv_istore_n (lv' := [(2, .int v7), (3, .int (nI q3_4)), (0, .ref (ad 0)), (1, .int stt)]) hx hb (dkP dF_61 DX12_statesOf (i := 17) rfl rfl) rfl hl (by decide) rfl (fun ls hl => ?_)
          refine lv_iinc (v := nI (q3_4 + 1)) (lv' := [(3, .int (nI (q3_4 + 1))), (2, .int v7), (0, .ref (ad 0)), (1, .int stt)]) hx hb (dkI DX12_statesOf (i := 18) rfl rfl rfl rfl) hl (k := 1) rfl (nI_1 _) (by decide) rfl (fun ls hl => ?_)
          refine lv_goto (tgt := 4) hx hb (dkS dF_167 DX12_statesOf (i := 19) rfl rfl rfl) (by decide) ?_
          exact ih1 (q3_4 + 1) v7 _ _ _ (by omega) (by (try simp only [lg_cmp_lt, lg_cmp_le, lg_cmp_gt, lg_cmp_ge, lg_cmp_eq] at c2); (try simp (disch := omega) only [ta_lt, ta_le, ta_eq, tb_lt, tb_le, tb_eq, tw, tnI, tsub1, tsv, tn32 1 (by decide), tnj 1 (by decide), tl32 0 (by decide), tl64 0 (by decide), tl32 1 (by decide), tl64 1 (by decide), tl32 8 (by decide), tl64 8 (by decide)] at c2); (try simp only [lg_cmp_lt, lg_cmp_le, lg_cmp_gt, lg_cmp_ge, lg_cmp_eq] at c5); (try simp (disch := omega) only [ta_lt, ta_le, ta_eq, tb_lt, tb_le, tb_eq, tw, tnI, tsub1, tsv, tn32 1 (by decide), tnj 1 (by decide), tl32 0 (by decide), tl64 0 (by decide), tl32 1 (by decide), tl64 1 (by decide), tl32 8 (by decide), tl64 8 (by decide)] at c5); (try simp (disch := omega) only [ta_lt, ta_le, ta_eq, tb_lt, tb_le, tb_eq, tw, tnI, tsub1, tsv, tn32 1 (by decide), tnj 1 (by decide), tl32 0 (by decide), tl64 0 (by decide), tl32 1 (by decide), tl64 1 (by decide), tl32 8 (by decide), tl64 8 (by decide)]); omega) hw (lv_sub hl [0, 1, 2, 3] rfl)
  exact lp1 _ 0 0 _ _ _ (Nat.lt_succ_self _) (by (try simp (disch := omega) only [ta_lt, ta_le, ta_eq, tb_lt, tb_le, tb_eq, tw, tnI, tsub1, tsv, tn32 1 (by decide), tnj 1 (by decide), tl32 0 (by decide), tl64 0 (by decide), tl32 1 (by decide), tl64 1 (by decide), tl32 8 (by decide), tl64 8 (by decide)]); omega) hw (lv_sub hl [0, 1, 2, 3] rfl)
set_option maxRecDepth 100000 in
set_option maxHeartbeats 8000000 in
theorem c_X12_count (l : Launch) (G : va_G) (kc : KC) (ad : Nat → Nat) (σ : Sg) (what : Int32) (hT : TM σ) : MI l G kc yX12_count cX12_count 4 (some .int) 3 64 [.ref (ad 0), .int what] shM ad σ (fun r σ1 => σ1 = σ) := by
  intro sz
  refine z_body (y := yX12_count) (n := 4) (av := [.ref (ad 0), .int what]) (Qc := fun A => va_Qi (fun r σ1 => σ1 = σ) (PoC G kc shM ad A) A) (plainFor_of_name (by decide)) (Nat.le_of_ble_eq_true rfl) (fun pr e s m below meth c A C0 hr hlk hnm hw hRo ls hl => ?_) sz
  have hx := C0.1
  have hb := C0.2.1
  have hown := C0.2.2.2.1
  have hts := C0.2.2.2.2.1
  have hl : lv_has ls 4 [(0, .ref (ad 0)), (1, .int what)] := hl
  refine lv_iconst (v := 0) hx hb (dkP dF_3 DX12_count (i := 0) rfl rfl) (by decide) ?_
  refine lv_istore_n (lv' := [(2, .int 0), (0, .ref (ad 0)), (1, .int what)]) hx hb (dkP dF_61 DX12_count (i := 1) rfl rfl) rfl hl (by decide) rfl (fun ls hl => ?_)
  refine lv_iload_n hx hb (dkP dF_27 DX12_count (i := 2) rfl rfl) rfl (lv_at hl 2 rfl) ?_
  by_cases hsw1 : 0 ≤ what.toInt ∧ what.toInt ≤ 10
  · obtain ⟨j1, hj1, rfl⟩ := to_nat (x := what) (n := 11) (by omega)
    match j1, hj1 with
    | 0, _ =>
      refine lv_tableIn (x := nI 0) (off := 57) (tgt := 60) hx hb (dX12_count_3) (by decide) (by decide) rfl (by decide) ?_
      refine lv_iconst (v := 0) hx hb (dkP dF_3 DX12_count (i := 4) rfl rfl) (by decide) ?_
      refine lv_istore_n (lv' := [(3, .int 0), (2, .int 0), (0, .ref (ad 0)), (1, .int (nI 0))]) hx hb (dkP dF_62 DX12_count (i := 5) rfl rfl) rfl hl (by decide) rfl (fun ls hl => ?_)
      have lp2 : ∀ (nq : Nat) (q3_62 : Nat) (q2_62 : Int32) (H : Heap) (locs : List Loc) (ls : Array Slot), 8 - q3_62 < nq → (q3_62 ≤ 8) → St G kc A s.heap shM ad σ H locs → lv_has ls 4 [(3, .int (nI q3_62)), (2, .int q2_62), (0, .ref (ad 0)), (1, .int (nI 0))] → W pr l e { frames := 3, cells := 0, slots := 0, locals := 64 } s m ([.ref (ad 0), .int (nI 0)] : List Value).toArray below meth c H locs 0 0 (MQ below (va_Qi (fun r σ1 => σ1 = σ) (PoC G kc shM ad A) A) ([.ref (ad 0), .int (nI 0)] : List Value).toArray s 0 0 A) (F0 m 62 ls []) := by
        intro nq
        induction nq with
        | zero => intro q3_62 q2_62 H locs ls hmu; exact absurd hmu (Nat.not_lt_zero _)
        | succ nq ih2 =>
          intro q3_62 q2_62 H locs ls hmu hq3_62 hw hl
          refine lv_iload_n hx hb (dkP dF_29 DX12_count (i := 6) rfl rfl) rfl (lv_at hl 0 rfl) ?_
          refine lv_bipush (v := 8) hx hb (dks dF_16 DX12_count (i := 7) rfl rfl rfl) (by decide) ?_
          refine lv_icmp_ge (tgt := 94) hx hb (dkS dF_162 DX12_count (i := 8) rfl rfl rfl) (by decide) (fun c3 => ?_) (fun c3 => ?_)
          · simp (disch := omega) only [ta_lt, ta_le, ta_eq, tnI, tl32 8 (by decide)] at c3
            refine lv_iload_n hx hb (dkP dF_28 DX12_count (i := 25) rfl rfl) rfl (lv_at hl 1 rfl) ?_
            exact z_iret C0 hr hlk hw rfl (dkP dF_172 DX12_count (i := 26) rfl rfl)
          · simp (disch := omega) only [ta_lt, ta_le, ta_eq, tnI, tl32 8 (by decide)] at c3
            refine lv_iload_n hx hb (dkP dF_28 DX12_count (i := 9) rfl rfl) rfl (lv_at hl 1 rfl) ?_
            refine lv_iconst (v := 0) hx hb (dkP dF_3 DX12_count (i := 10) rfl rfl) (by decide) ?_
            refine lv_aload_n hx hb (dkP dF_42 DX12_count (i := 11) rfl rfl) rfl (lv_at hl 2 rfl) ?_
            refine z_gr C0 hw 0 1 1 rfl fl_X12_20 (dk2 dF_180 DX12_count (i := 12) rfl rfl rfl) ?_
            refine lv_iload_n hx hb (dkP dF_29 DX12_count (i := 13) rfl rfl) rfl (lv_at hl 0 rfl) ?_
            refine zn_I hw (zr_S (As := [.int (nI q3_62)]) (rest := [.ref (ad 1), .int 0, .int q2_62]) C0 (c_X12_of l G kc q3_62  _) cs_X12_of lk_X12_139 (zp_P C0 hRo hw a00 s00) rfl hl.1 rfl ⟨by decide, by decide⟩ (Nat.le_of_ble_eq_true rfl) (dk2 dF_184 DX12_count (i := 14) rfl rfl rfl) ⟨Nat.le_refl _, Nat.le_refl _⟩) (fun r4 s4 H locs hp hw => ?_)
            subst hp
            refine lv_iconst (v := 1) hx hb (dkP dF_4 DX12_count (i := 15) rfl rfl) (by decide) ?_
            refine lv_iadd hx hb (dkP dF_96 DX12_count (i := 16) rfl rfl) ?_
            refine z_top (y := nI ((8 + 20 * q3_62) + 1)) (by simp only [fa_lit, nI_add, pk_mul]) ?_
            refine lv_iload_n hx hb (dkP dF_27 DX12_count (i := 17) rfl rfl) rfl (lv_at hl 3 rfl) ?_
            refine lv_iadd hx hb (dkP dF_96 DX12_count (i := 18) rfl rfl) ?_
            refine z_top (y := nI (((8 + 20 * q3_62) + 1) + 0)) (by simp only [fa_lit, nI_add, pk_mul]) ?_
            refine z_ialdN (n := 414128) C0 hw 1 (((8 + 20 * q3_62) + 1) + 0) rfl (by omega) (by decide) (dkP dF_46 DX12_count (i := 19) rfl rfl) ?_
            obtain ⟨v5, ev5⟩ : ∃ y : Int32, σ.1 1 (((8 + 20 * q3_62) + 1) + 0) = y := ⟨_, rfl⟩
            refine z_top (y := v5) ev5 ?_
            refine zn_I hw (zr_S (As := [.int 0, .int v5]) (rest := [.int q2_62]) C0 (c_J9_max_7cf53 l G kc 0 v5  _) cs_J9_max_7cf53 lk_X12_326 (zp_P C0 hRo hw a00 s00) rfl hl.1 rfl ⟨by decide, by decide⟩ (Nat.le_of_ble_eq_true rfl) (dk2 dF_184 DX12_count (i := 20) rfl rfl rfl) ⟨Nat.le_refl _, Nat.le_refl _⟩) (fun r6 s6 H locs hp hw => ?_)
            subst hp
            refine lv_iadd hx hb (dkP dF_96 DX12_count (i := 21) rfl rfl) ?_
            refine lv_topi (fun v7 ev7 => ?_)
            refine lv_istore_n (lv' := [(2, .int v7), (3, .int (nI q3_62)), (0, .ref (ad 0)), (1, .int (nI 0))]) hx hb (dkP dF_61 DX12_count (i := 22) rfl rfl) rfl hl (by decide) rfl (fun ls hl => ?_)
            refine lv_iinc (v := nI (q3_62 + 1)) (lv' := [(3, .int (nI (q3_62 + 1))), (2, .int v7), (0, .ref (ad 0)), (1, .int (nI 0))]) hx hb (dkI DX12_count (i := 23) rfl rfl rfl rfl) hl (k := 1) rfl (nI_1 _) (by decide) rfl (fun ls hl => ?_)
            refine lv_goto (tgt := 62) hx hb (dkS dF_167 DX12_count (i := 24) rfl rfl rfl) (by decide) ?_
            exact ih2 (q3_62 + 1) v7 _ _ _ (by omega) (by (try simp only [lg_cmp_lt, lg_cmp_le, lg_cmp_gt, lg_cmp_ge, lg_cmp_eq] at c3); (try simp (disch := omega) only [ta_lt, ta_le, ta_eq, tb_lt, tb_le, tb_eq, tw, tnI, tsub1, tsv, tn32 1 (by decide), tnj 1 (by decide), tl32 0 (by decide), tl64 0 (by decide), tl32 1 (by decide), tl64 1 (by decide), tl32 8 (by decide), tl64 8 (by decide)] at c3); (try simp (disch := omega) only [ta_lt, ta_le, ta_eq, tb_lt, tb_le, tb_eq, tw, tnI, tsub1, tsv, tn32 1 (by decide), tnj 1 (by decide), tl32 0 (by decide), tl64 0 (by decide), tl32 1 (by decide), tl64 1 (by decide), tl32 8 (by decide), tl64 8 (by decide)]); omega) hw (lv_sub hl [0, 1, 2, 3] rfl)
      exact lp2 _ 0 0 _ _ _ (Nat.lt_succ_self _) (by (try simp (disch := omega) only [ta_lt, ta_le, ta_eq, tb_lt, tb_le, tb_eq, tw, tnI, tsub1, tsv, tn32 1 (by decide), tnj 1 (by decide), tl32 0 (by decide), tl64 0 (by decide), tl32 1 (by decide), tl64 1 (by decide), tl32 8 (by decide), tl64 8 (by decide)]); omega) hw (lv_sub hl [0, 1, 2, 3] rfl)
    | 1, _ =>
      refine lv_tableIn (x := nI 1) (off := 57) (tgt := 60) hx hb (dX12_count_3) (by decide) (by decide) rfl (by decide) ?_
      refine lv_iconst (v := 0) hx hb (dkP dF_3 DX12_count (i := 4) rfl rfl) (by decide) ?_
      refine lv_istore_n (lv' := [(3, .int 0), (2, .int 0), (0, .ref (ad 0)), (1, .int (nI 1))]) hx hb (dkP dF_62 DX12_count (i := 5) rfl rfl) rfl hl (by decide) rfl (fun ls hl => ?_)
      have lp8 : ∀ (nq : Nat) (q3_62 : Nat) (q2_62 : Int32) (H : Heap) (locs : List Loc) (ls : Array Slot), 8 - q3_62 < nq → (q3_62 ≤ 8) → St G kc A s.heap shM ad σ H locs → lv_has ls 4 [(3, .int (nI q3_62)), (2, .int q2_62), (0, .ref (ad 0)), (1, .int (nI 1))] → W pr l e { frames := 3, cells := 0, slots := 0, locals := 64 } s m ([.ref (ad 0), .int (nI 1)] : List Value).toArray below meth c H locs 0 0 (MQ below (va_Qi (fun r σ1 => σ1 = σ) (PoC G kc shM ad A) A) ([.ref (ad 0), .int (nI 1)] : List Value).toArray s 0 0 A) (F0 m 62 ls []) := by
        intro nq
        induction nq with
        | zero => intro q3_62 q2_62 H locs ls hmu; exact absurd hmu (Nat.not_lt_zero _)
        | succ nq ih8 =>
          intro q3_62 q2_62 H locs ls hmu hq3_62 hw hl
          refine lv_iload_n hx hb (dkP dF_29 DX12_count (i := 6) rfl rfl) rfl (lv_at hl 0 rfl) ?_
          refine lv_bipush (v := 8) hx hb (dks dF_16 DX12_count (i := 7) rfl rfl rfl) (by decide) ?_
          refine lv_icmp_ge (tgt := 94) hx hb (dkS dF_162 DX12_count (i := 8) rfl rfl rfl) (by decide) (fun c9 => ?_) (fun c9 => ?_)
          · simp (disch := omega) only [ta_lt, ta_le, ta_eq, tnI, tl32 8 (by decide)] at c9
            refine lv_iload_n hx hb (dkP dF_28 DX12_count (i := 25) rfl rfl) rfl (lv_at hl 1 rfl) ?_
            exact z_iret C0 hr hlk hw rfl (dkP dF_172 DX12_count (i := 26) rfl rfl)
          · simp (disch := omega) only [ta_lt, ta_le, ta_eq, tnI, tl32 8 (by decide)] at c9
            refine lv_iload_n hx hb (dkP dF_28 DX12_count (i := 9) rfl rfl) rfl (lv_at hl 1 rfl) ?_
            refine lv_iconst (v := 0) hx hb (dkP dF_3 DX12_count (i := 10) rfl rfl) (by decide) ?_
            refine lv_aload_n hx hb (dkP dF_42 DX12_count (i := 11) rfl rfl) rfl (lv_at hl 2 rfl) ?_
            refine z_gr C0 hw 0 1 1 rfl fl_X12_20 (dk2 dF_180 DX12_count (i := 12) rfl rfl rfl) ?_
            refine lv_iload_n hx hb (dkP dF_29 DX12_count (i := 13) rfl rfl) rfl (lv_at hl 0 rfl) ?_
            refine zn_I hw (zr_S (As := [.int (nI q3_62)]) (rest := [.ref (ad 1), .int 0, .int q2_62]) C0 (c_X12_of l G kc q3_62  _) cs_X12_of lk_X12_139 (zp_P C0 hRo hw a00 s00) rfl hl.1 rfl ⟨by decide, by decide⟩ (Nat.le_of_ble_eq_true rfl) (dk2 dF_184 DX12_count (i := 14) rfl rfl rfl) ⟨Nat.le_refl _, Nat.le_refl _⟩) (fun r10 s10 H locs hp hw => ?_)
            subst hp
            refine lv_iconst (v := 1) hx hb (dkP dF_4 DX12_count (i := 15) rfl rfl) (by decide) ?_
            refine lv_iadd hx hb (dkP dF_96 DX12_count (i := 16) rfl rfl) ?_
            refine z_top (y := nI ((8 + 20 * q3_62) + 1)) (by simp only [fa_lit, nI_add, pk_mul]) ?_
            refine lv_iload_n hx hb (dkP dF_27 DX12_count (i := 17) rfl rfl) rfl (lv_at hl 3 rfl) ?_
            refine lv_iadd hx hb (dkP dF_96 DX12_count (i := 18) rfl rfl) ?_
            refine z_top (y := nI (((8 + 20 * q3_62) + 1) + 1)) (by simp only [fa_lit, nI_add, pk_mul]) ?_
            refine z_ialdN (n := 414128) C0 hw 1 (((8 + 20 * q3_62) + 1) + 1) rfl (by omega) (by decide) (dkP dF_46 DX12_count (i := 19) rfl rfl) ?_
            obtain ⟨v11, ev11⟩ : ∃ y : Int32, σ.1 1 (((8 + 20 * q3_62) + 1) + 1) = y := ⟨_, rfl⟩
            refine z_top (y := v11) ev11 ?_
            refine zn_I hw (zr_S (As := [.int 0, .int v11]) (rest := [.int q2_62]) C0 (c_J9_max_7cf53 l G kc 0 v11  _) cs_J9_max_7cf53 lk_X12_326 (zp_P C0 hRo hw a00 s00) rfl hl.1 rfl ⟨by decide, by decide⟩ (Nat.le_of_ble_eq_true rfl) (dk2 dF_184 DX12_count (i := 20) rfl rfl rfl) ⟨Nat.le_refl _, Nat.le_refl _⟩) (fun r12 s12 H locs hp hw => ?_)
            subst hp
            refine lv_iadd hx hb (dkP dF_96 DX12_count (i := 21) rfl rfl) ?_
            refine lv_topi (fun v13 ev13 => ?_)
            refine lv_istore_n (lv' := [(2, .int v13), (3, .int (nI q3_62)), (0, .ref (ad 0)), (1, .int (nI 1))]) hx hb (dkP dF_61 DX12_count (i := 22) rfl rfl) rfl hl (by decide) rfl (fun ls hl => ?_)
            refine lv_iinc (v := nI (q3_62 + 1)) (lv' := [(3, .int (nI (q3_62 + 1))), (2, .int v13), (0, .ref (ad 0)), (1, .int (nI 1))]) hx hb (dkI DX12_count (i := 23) rfl rfl rfl rfl) hl (k := 1) rfl (nI_1 _) (by decide) rfl (fun ls hl => ?_)
            refine lv_goto (tgt := 62) hx hb (dkS dF_167 DX12_count (i := 24) rfl rfl rfl) (by decide) ?_
            exact ih8 (q3_62 + 1) v13 _ _ _ (by omega) (by (try simp only [lg_cmp_lt, lg_cmp_le, lg_cmp_gt, lg_cmp_ge, lg_cmp_eq] at c9); (try simp (disch := omega) only [ta_lt, ta_le, ta_eq, tb_lt, tb_le, tb_eq, tw, tnI, tsub1, tsv, tn32 1 (by decide), tnj 1 (by decide), tl32 0 (by decide), tl64 0 (by decide), tl32 1 (by decide), tl64 1 (by decide), tl32 8 (by decide), tl64 8 (by decide)] at c9); (try simp (disch := omega) only [ta_lt, ta_le, ta_eq, tb_lt, tb_le, tb_eq, tw, tnI, tsub1, tsv, tn32 1 (by decide), tnj 1 (by decide), tl32 0 (by decide), tl64 0 (by decide), tl32 1 (by decide), tl64 1 (by decide), tl32 8 (by decide), tl64 8 (by decide)]); omega) hw (lv_sub hl [0, 1, 2, 3] rfl)
      exact lp8 _ 0 0 _ _ _ (Nat.lt_succ_self _) (by (try simp (disch := omega) only [ta_lt, ta_le, ta_eq, tb_lt, tb_le, tb_eq, tw, tnI, tsub1, tsv, tn32 1 (by decide), tnj 1 (by decide), tl32 0 (by decide), tl64 0 (by decide), tl32 1 (by decide), tl64 1 (by decide), tl32 8 (by decide), tl64 8 (by decide)]); omega) hw (lv_sub hl [0, 1, 2, 3] rfl)
    | 2, _ =>
      refine lv_tableIn (x := nI 2) (off := 93) (tgt := 96) hx hb (dX12_count_3) (by decide) (by decide) rfl (by decide) ?_
      refine lv_aload_n hx hb (dkP dF_42 DX12_count (i := 27) rfl rfl) rfl (lv_at hl 1 rfl) ?_
      refine lv_iconst (v := 2) hx hb (dkP dF_5 DX12_count (i := 28) rfl rfl) (by decide) ?_
      refine zk_I hw (zr_V (As := [.int 2]) (rest := []) C0 (c_X12_statesOf l G kc ad σ 2 hT _) cv_X12_statesOf lk_X12_498 (zp_V C0 hRo hw 0 rfl rfl rfl) rfl hl.1 rfl ⟨by decide, by decide⟩ (Nat.le_of_ble_eq_true rfl) (dk2 dF_182 DX12_count (i := 29) rfl rfl rfl) ⟨Nat.le_refl _, Nat.le_refl _⟩) (fun r14 s14 H locs hp hw => ?_)
      have hs14 := hp
      (rw [hs14] at hw)
      exact z_iret C0 hr hlk hw rfl (dkP dF_172 DX12_count (i := 30) rfl rfl)
    | 3, _ =>
      refine lv_tableIn (x := nI 3) (off := 99) (tgt := 102) hx hb (dX12_count_3) (by decide) (by decide) rfl (by decide) ?_
      refine lv_aload_n hx hb (dkP dF_42 DX12_count (i := 31) rfl rfl) rfl (lv_at hl 1 rfl) ?_
      refine lv_iconst (v := 4) hx hb (dkP dF_7 DX12_count (i := 32) rfl rfl) (by decide) ?_
      refine zk_I hw (zr_V (As := [.int 4]) (rest := []) C0 (c_X12_statesOf l G kc ad σ 4 hT _) cv_X12_statesOf lk_X12_498 (zp_V C0 hRo hw 0 rfl rfl rfl) rfl hl.1 rfl ⟨by decide, by decide⟩ (Nat.le_of_ble_eq_true rfl) (dk2 dF_182 DX12_count (i := 33) rfl rfl rfl) ⟨Nat.le_refl _, Nat.le_refl _⟩) (fun r15 s15 H locs hp hw => ?_)
      have hs15 := hp
      (rw [hs15] at hw)
      exact z_iret C0 hr hlk hw rfl (dkP dF_172 DX12_count (i := 34) rfl rfl)
    | 4, _ =>
      refine lv_tableIn (x := nI 4) (off := 105) (tgt := 108) hx hb (dX12_count_3) (by decide) (by decide) rfl (by decide) ?_
      refine lv_aload_n hx hb (dkP dF_42 DX12_count (i := 35) rfl rfl) rfl (lv_at hl 1 rfl) ?_
      refine lv_iconst (v := 1) hx hb (dkP dF_4 DX12_count (i := 36) rfl rfl) (by decide) ?_
      refine zk_I hw (zr_V (As := [.int 1]) (rest := []) C0 (c_X12_statesOf l G kc ad σ 1 hT _) cv_X12_statesOf lk_X12_498 (zp_V C0 hRo hw 0 rfl rfl rfl) rfl hl.1 rfl ⟨by decide, by decide⟩ (Nat.le_of_ble_eq_true rfl) (dk2 dF_182 DX12_count (i := 37) rfl rfl rfl) ⟨Nat.le_refl _, Nat.le_refl _⟩) (fun r16 s16 H locs hp hw => ?_)
      have hs16 := hp
      (rw [hs16] at hw)
      exact z_iret C0 hr hlk hw rfl (dkP dF_172 DX12_count (i := 38) rfl rfl)
    | 5, _ =>
      refine lv_tableIn (x := nI 5) (off := 111) (tgt := 114) hx hb (dX12_count_3) (by decide) (by decide) rfl (by decide) ?_
      refine lv_aload_n hx hb (dkP dF_42 DX12_count (i := 39) rfl rfl) rfl (lv_at hl 1 rfl) ?_
      refine z_gi C0 hw 0 5 rfl fl_X12_147 (dk2 dF_180 DX12_count (i := 40) rfl rfl rfl) ?_
      obtain ⟨n17, hn17, en17⟩ := rngN (x := σ.1 0 5) (h := 600) (show 0 ≤ _ ∧ _ ≤ 600 from hT 0 5)
      refine z_top (y := nI n17) en17 ?_
      exact z_iret C0 hr hlk hw rfl (dkP dF_172 DX12_count (i := 41) rfl rfl)
    | 6, _ =>
      refine lv_tableIn (x := nI 6) (off := 116) (tgt := 119) hx hb (dX12_count_3) (by decide) (by decide) rfl (by decide) ?_
      refine lv_aload_n hx hb (dkP dF_42 DX12_count (i := 42) rfl rfl) rfl (lv_at hl 1 rfl) ?_
      refine z_gr C0 hw 0 1 1 rfl fl_X12_20 (dk2 dF_180 DX12_count (i := 43) rfl rfl rfl) ?_
      refine lv_iconst (v := 0) hx hb (dkP dF_3 DX12_count (i := 44) rfl rfl) (by decide) ?_
      refine z_ialdN (n := 414128) C0 hw 1 0 rfl (by omega) (by decide) (dkP dF_46 DX12_count (i := 45) rfl rfl) ?_
      obtain ⟨v18, ev18⟩ : ∃ y : Int32, σ.1 1 0 = y := ⟨_, rfl⟩
      refine z_top (y := v18) ev18 ?_
      exact z_iret C0 hr hlk hw rfl (dkP dF_172 DX12_count (i := 46) rfl rfl)
    | 7, _ =>
      refine lv_tableIn (x := nI 7) (off := 123) (tgt := 126) hx hb (dX12_count_3) (by decide) (by decide) rfl (by decide) ?_
      refine lv_aload_n hx hb (dkP dF_42 DX12_count (i := 47) rfl rfl) rfl (lv_at hl 1 rfl) ?_
      refine z_gr C0 hw 0 1 1 rfl fl_X12_20 (dk2 dF_180 DX12_count (i := 48) rfl rfl rfl) ?_
      refine lv_iconst (v := 1) hx hb (dkP dF_4 DX12_count (i := 49) rfl rfl) (by decide) ?_
      refine z_ialdN (n := 414128) C0 hw 1 1 rfl (by omega) (by decide) (dkP dF_46 DX12_count (i := 50) rfl rfl) ?_
      obtain ⟨v19, ev19⟩ : ∃ y : Int32, σ.1 1 1 = y := ⟨_, rfl⟩
      refine z_top (y := v19) ev19 ?_
      exact z_iret C0 hr hlk hw rfl (dkP dF_172 DX12_count (i := 51) rfl rfl)
    | 8, _ =>
      refine lv_tableIn (x := nI 8) (off := 130) (tgt := 133) hx hb (dX12_count_3) (by decide) (by decide) rfl (by decide) ?_
      refine lv_iconst (v := 0) hx hb (dkP dF_3 DX12_count (i := 52) rfl rfl) (by decide) ?_
      refine lv_istore_n (lv' := [(3, .int 0), (2, .int 0), (0, .ref (ad 0)), (1, .int (nI 8))]) hx hb (dkP dF_62 DX12_count (i := 53) rfl rfl) rfl hl (by decide) rfl (fun ls hl => ?_)
      have lp20 : ∀ (nq : Nat) (q3_135 : Nat) (q2_135 : Int32) (H : Heap) (locs : List Loc) (ls : Array Slot), 2147483647 - q3_135 < nq → (q3_135 ≤ 2147483647) → St G kc A s.heap shM ad σ H locs → lv_has ls 4 [(3, .int (nI q3_135)), (2, .int q2_135), (0, .ref (ad 0)), (1, .int (nI 8))] → W pr l e { frames := 3, cells := 0, slots := 0, locals := 64 } s m ([.ref (ad 0), .int (nI 8)] : List Value).toArray below meth c H locs 0 0 (MQ below (va_Qi (fun r σ1 => σ1 = σ) (PoC G kc shM ad A) A) ([.ref (ad 0), .int (nI 8)] : List Value).toArray s 0 0 A) (F0 m 135 ls []) := by
        intro nq
        induction nq with
        | zero => intro q3_135 q2_135 H locs ls hmu; exact absurd hmu (Nat.not_lt_zero _)
        | succ nq ih20 =>
          intro q3_135 q2_135 H locs ls hmu hq3_135 hw hl
          refine lv_iload_n hx hb (dkP dF_29 DX12_count (i := 54) rfl rfl) rfl (lv_at hl 0 rfl) ?_
          refine lv_aload_n hx hb (dkP dF_42 DX12_count (i := 55) rfl rfl) rfl (lv_at hl 2 rfl) ?_
          refine z_gr C0 hw 0 1 1 rfl fl_X12_20 (dk2 dF_180 DX12_count (i := 56) rfl rfl rfl) ?_
          refine lv_iconst (v := 2) hx hb (dkP dF_5 DX12_count (i := 57) rfl rfl) (by decide) ?_
          refine z_ialdN (n := 414128) C0 hw 1 2 rfl (by omega) (by decide) (dkP dF_46 DX12_count (i := 58) rfl rfl) ?_
          obtain ⟨n21, hn21, en21⟩ := rngN (x := σ.1 1 2) (h := 60) (show 0 ≤ _ ∧ _ ≤ 60 from hT 1 2)
          refine z_top (y := nI n21) en21 ?_
          refine lv_icmp_ge (tgt := 177) hx hb (dkS dF_162 DX12_count (i := 59) rfl rfl rfl) (by decide) (fun c22 => ?_) (fun c22 => ?_)
          · simp (disch := omega) only [ta_lt, ta_le, ta_eq, tnI] at c22
            refine lv_iload_n hx hb (dkP dF_28 DX12_count (i := 79) rfl rfl) rfl (lv_at hl 1 rfl) ?_
            exact z_iret C0 hr hlk hw rfl (dkP dF_172 DX12_count (i := 80) rfl rfl)
          · simp (disch := omega) only [ta_lt, ta_le, ta_eq, tnI] at c22
            refine lv_iload_n hx hb (dkP dF_28 DX12_count (i := 60) rfl rfl) rfl (lv_at hl 1 rfl) ?_
            refine lv_aload_n hx hb (dkP dF_42 DX12_count (i := 61) rfl rfl) rfl (lv_at hl 2 rfl) ?_
            refine z_gr C0 hw 0 1 1 rfl fl_X12_20 (dk2 dF_180 DX12_count (i := 62) rfl rfl rfl) ?_
            refine lv_ldcw hx hb hown (hts _ kn_X12_441) (dk2 dF_19 DX12_count (i := 63) rfl rfl rfl) ?_
            refine lv_bipush (v := 7) hx hb (dks dF_16 DX12_count (i := 64) rfl rfl rfl) (by decide) ?_
            refine lv_iload_n hx hb (dkP dF_29 DX12_count (i := 65) rfl rfl) rfl (lv_at hl 0 rfl) ?_
            refine lv_imul hx hb (dkP dF_104 DX12_count (i := 66) rfl rfl) ?_
            refine z_top (y := nI (7 * q3_135)) (by simp only [fa_lit, nI_add, pk_mul]) ?_
            refine lv_iadd hx hb (dkP dF_96 DX12_count (i := 67) rfl rfl) ?_
            refine z_top (y := nI (413608 + (7 * q3_135))) (by simp only [fa_lit, nI_add, pk_mul]) ?_
            refine lv_iconst (v := 5) hx hb (dkP dF_8 DX12_count (i := 68) rfl rfl) (by decide) ?_
            refine lv_iadd hx hb (dkP dF_96 DX12_count (i := 69) rfl rfl) ?_
            refine z_top (y := nI ((413608 + (7 * q3_135)) + 5)) (by simp only [fa_lit, nI_add, pk_mul]) ?_
            refine z_ialdN (n := 414128) C0 hw 1 ((413608 + (7 * q3_135)) + 5) rfl (by omega) (by decide) (dkP dF_46 DX12_count (i := 70) rfl rfl) ?_
            obtain ⟨v23, ev23⟩ : ∃ y : Int32, σ.1 1 ((413608 + (7 * q3_135)) + 5) = y := ⟨_, rfl⟩
            refine z_top (y := v23) ev23 ?_
            refine lv_if_ne (tgt := 168) hx hb (dkS dF_154 DX12_count (i := 71) rfl rfl rfl) (by decide) (fun c24 => ?_) (fun c24 => ?_)
            · (try simp (disch := omega) only [ta_lt, ta_le, ta_eq, tnI, tl32 0 (by decide)] at c24)
              refine lv_iconst (v := 0) hx hb (dkP dF_3 DX12_count (i := 74) rfl rfl) (by decide) ?_
              refine lv_iadd hx hb (dkP dF_96 DX12_count (i := 75) rfl rfl) ?_
              refine lv_topi (fun v25 ev25 => ?_)
              refine lv_istore_n (lv' := [(2, .int v25), (3, .int (nI q3_135)), (0, .ref (ad 0)), (1, .int (nI 8))]) hx hb (dkP dF_61 DX12_count (i := 76) rfl rfl) rfl hl (by decide) rfl (fun ls hl => ?_)
              refine lv_iinc (v := nI (q3_135 + 1)) (lv' := [(3, .int (nI (q3_135 + 1))), (2, .int v25), (0, .ref (ad 0)), (1, .int (nI 8))]) hx hb (dkI DX12_count (i := 77) rfl rfl rfl rfl) hl (k := 1) rfl (nI_1 _) (by decide) rfl (fun ls hl => ?_)
              refine lv_goto (tgt := 135) hx hb (dkS dF_167 DX12_count (i := 78) rfl rfl rfl) (by decide) ?_
              exact ih20 (q3_135 + 1) v25 _ _ _ (by omega) (by (try simp only [lg_cmp_lt, lg_cmp_le, lg_cmp_gt, lg_cmp_ge, lg_cmp_eq] at c22); (try simp (disch := omega) only [ta_lt, ta_le, ta_eq, tb_lt, tb_le, tb_eq, tw, tnI, tsub1, tsv, tn32 1 (by decide), tnj 1 (by decide), tl32 0 (by decide), tl64 0 (by decide), tl32 1 (by decide), tl64 1 (by decide), tl32 2 (by decide), tl64 2 (by decide), tl32 4 (by decide), tl64 4 (by decide), tl32 5 (by decide), tl64 5 (by decide), tl32 7 (by decide), tl64 7 (by decide), tl32 8 (by decide), tl64 8 (by decide), tl32 413608 (by decide), tl64 413608 (by decide)] at c22); (try simp only [lg_cmp_lt, lg_cmp_le, lg_cmp_gt, lg_cmp_ge, lg_cmp_eq] at c24); (try simp (disch := omega) only [ta_lt, ta_le, ta_eq, tb_lt, tb_le, tb_eq, tw, tnI, tsub1, tsv, tn32 1 (by decide), tnj 1 (by decide), tl32 0 (by decide), tl64 0 (by decide), tl32 1 (by decide), tl64 1 (by decide), tl32 2 (by decide), tl64 2 (by decide), tl32 4 (by decide), tl64 4 (by decide), tl32 5 (by decide), tl64 5 (by decide), tl32 7 (by decide), tl64 7 (by decide), tl32 8 (by decide), tl64 8 (by decide), tl32 413608 (by decide), tl64 413608 (by decide)] at c24); (try simp (disch := omega) only [ta_lt, ta_le, ta_eq, tb_lt, tb_le, tb_eq, tw, tnI, tsub1, tsv, tn32 1 (by decide), tnj 1 (by decide), tl32 0 (by decide), tl64 0 (by decide), tl32 1 (by decide), tl64 1 (by decide), tl32 2 (by decide), tl64 2 (by decide), tl32 4 (by decide), tl64 4 (by decide), tl32 5 (by decide), tl64 5 (by decide), tl32 7 (by decide), tl64 7 (by decide), tl32 8 (by decide), tl64 8 (by decide), tl32 413608 (by decide), tl64 413608 (by decide)]); omega) hw (lv_sub hl [0, 1, 2, 3] rfl)
            · (try simp (disch := omega) only [ta_lt, ta_le, ta_eq, tnI, tl32 0 (by decide)] at c24)
              refine lv_iconst (v := 1) hx hb (dkP dF_4 DX12_count (i := 72) rfl rfl) (by decide) ?_
              refine lv_goto (tgt := 169) hx hb (dkS dF_167 DX12_count (i := 73) rfl rfl rfl) (by decide) ?_
              refine lv_iadd hx hb (dkP dF_96 DX12_count (i := 75) rfl rfl) ?_
              refine lv_topi (fun v26 ev26 => ?_)
              refine lv_istore_n (lv' := [(2, .int v26), (3, .int (nI q3_135)), (0, .ref (ad 0)), (1, .int (nI 8))]) hx hb (dkP dF_61 DX12_count (i := 76) rfl rfl) rfl hl (by decide) rfl (fun ls hl => ?_)
              refine lv_iinc (v := nI (q3_135 + 1)) (lv' := [(3, .int (nI (q3_135 + 1))), (2, .int v26), (0, .ref (ad 0)), (1, .int (nI 8))]) hx hb (dkI DX12_count (i := 77) rfl rfl rfl rfl) hl (k := 1) rfl (nI_1 _) (by decide) rfl (fun ls hl => ?_)
              refine lv_goto (tgt := 135) hx hb (dkS dF_167 DX12_count (i := 78) rfl rfl rfl) (by decide) ?_
              exact ih20 (q3_135 + 1) v26 _ _ _ (by omega) (by (try simp only [lg_cmp_lt, lg_cmp_le, lg_cmp_gt, lg_cmp_ge, lg_cmp_eq] at c22); (try simp (disch := omega) only [ta_lt, ta_le, ta_eq, tb_lt, tb_le, tb_eq, tw, tnI, tsub1, tsv, tn32 1 (by decide), tnj 1 (by decide), tl32 0 (by decide), tl64 0 (by decide), tl32 1 (by decide), tl64 1 (by decide), tl32 2 (by decide), tl64 2 (by decide), tl32 4 (by decide), tl64 4 (by decide), tl32 5 (by decide), tl64 5 (by decide), tl32 7 (by decide), tl64 7 (by decide), tl32 8 (by decide), tl64 8 (by decide), tl32 413608 (by decide), tl64 413608 (by decide)] at c22); (try simp only [lg_cmp_lt, lg_cmp_le, lg_cmp_gt, lg_cmp_ge, lg_cmp_eq] at c24); (try simp (disch := omega) only [ta_lt, ta_le, ta_eq, tb_lt, tb_le, tb_eq, tw, tnI, tsub1, tsv, tn32 1 (by decide), tnj 1 (by decide), tl32 0 (by decide), tl64 0 (by decide), tl32 1 (by decide), tl64 1 (by decide), tl32 2 (by decide), tl64 2 (by decide), tl32 4 (by decide), tl64 4 (by decide), tl32 5 (by decide), tl64 5 (by decide), tl32 7 (by decide), tl64 7 (by decide), tl32 8 (by decide), tl64 8 (by decide), tl32 413608 (by decide), tl64 413608 (by decide)] at c24); (try simp (disch := omega) only [ta_lt, ta_le, ta_eq, tb_lt, tb_le, tb_eq, tw, tnI, tsub1, tsv, tn32 1 (by decide), tnj 1 (by decide), tl32 0 (by decide), tl64 0 (by decide), tl32 1 (by decide), tl64 1 (by decide), tl32 2 (by decide), tl64 2 (by decide), tl32 4 (by decide), tl64 4 (by decide), tl32 5 (by decide), tl64 5 (by decide), tl32 7 (by decide), tl64 7 (by decide), tl32 8 (by decide), tl64 8 (by decide), tl32 413608 (by decide), tl64 413608 (by decide)]); omega) hw (lv_sub hl [0, 1, 2, 3] rfl)
      exact lp20 _ 0 0 _ _ _ (Nat.lt_succ_self _) (by (try simp (disch := omega) only [ta_lt, ta_le, ta_eq, tb_lt, tb_le, tb_eq, tw, tnI, tsub1, tsv, tn32 1 (by decide), tnj 1 (by decide), tl32 0 (by decide), tl64 0 (by decide), tl32 1 (by decide), tl64 1 (by decide), tl32 2 (by decide), tl64 2 (by decide), tl32 4 (by decide), tl64 4 (by decide), tl32 5 (by decide), tl64 5 (by decide), tl32 7 (by decide), tl64 7 (by decide), tl32 8 (by decide), tl64 8 (by decide), tl32 413608 (by decide), tl64 413608 (by decide)]); omega) hw (lv_sub hl [0, 1, 2, 3] rfl)
    | 9, _ =>
      refine lv_tableIn (x := nI 9) (off := 176) (tgt := 179) hx hb (dX12_count_3) (by decide) (by decide) rfl (by decide) ?_
      refine lv_iconst (v := 0) hx hb (dkP dF_3 DX12_count (i := 81) rfl rfl) (by decide) ?_
      refine lv_istore_n (lv' := [(3, .int 0), (2, .int 0), (0, .ref (ad 0)), (1, .int (nI 9))]) hx hb (dkP dF_62 DX12_count (i := 82) rfl rfl) rfl hl (by decide) rfl (fun ls hl => ?_)
      have lp27 : ∀ (nq : Nat) (q3_181 : Nat) (q2_181 : Int32) (H : Heap) (locs : List Loc) (ls : Array Slot), 4 - q3_181 < nq → (q3_181 ≤ 4) → St G kc A s.heap shM ad σ H locs → lv_has ls 4 [(3, .int (nI q3_181)), (2, .int q2_181), (0, .ref (ad 0)), (1, .int (nI 9))] → W pr l e { frames := 3, cells := 0, slots := 0, locals := 64 } s m ([.ref (ad 0), .int (nI 9)] : List Value).toArray below meth c H locs 0 0 (MQ below (va_Qi (fun r σ1 => σ1 = σ) (PoC G kc shM ad A) A) ([.ref (ad 0), .int (nI 9)] : List Value).toArray s 0 0 A) (F0 m 181 ls []) := by
        intro nq
        induction nq with
        | zero => intro q3_181 q2_181 H locs ls hmu; exact absurd hmu (Nat.not_lt_zero _)
        | succ nq ih27 =>
          intro q3_181 q2_181 H locs ls hmu hq3_181 hw hl
          refine lv_iload_n hx hb (dkP dF_29 DX12_count (i := 83) rfl rfl) rfl (lv_at hl 0 rfl) ?_
          refine lv_iconst (v := 4) hx hb (dkP dF_7 DX12_count (i := 84) rfl rfl) (by decide) ?_
          refine lv_icmp_ge (tgt := 210) hx hb (dkS dF_162 DX12_count (i := 85) rfl rfl rfl) (by decide) (fun c28 => ?_) (fun c28 => ?_)
          · simp (disch := omega) only [ta_lt, ta_le, ta_eq, tnI, tl32 4 (by decide)] at c28
            refine lv_iload_n hx hb (dkP dF_28 DX12_count (i := 100) rfl rfl) rfl (lv_at hl 1 rfl) ?_
            exact z_iret C0 hr hlk hw rfl (dkP dF_172 DX12_count (i := 101) rfl rfl)
          · simp (disch := omega) only [ta_lt, ta_le, ta_eq, tnI, tl32 4 (by decide)] at c28
            refine lv_iload_n hx hb (dkP dF_28 DX12_count (i := 86) rfl rfl) rfl (lv_at hl 1 rfl) ?_
            refine lv_aload_n hx hb (dkP dF_42 DX12_count (i := 87) rfl rfl) rfl (lv_at hl 2 rfl) ?_
            refine z_gr C0 hw 0 50 33 rfl fl_X12_126 (dk2 dF_180 DX12_count (i := 88) rfl rfl rfl) ?_
            refine lv_iload_n hx hb (dkP dF_29 DX12_count (i := 89) rfl rfl) rfl (lv_at hl 0 rfl) ?_
            refine z_ialdN (n := 4) C0 hw 33 q3_181 rfl (by omega) (by decide) (dkP dF_46 DX12_count (i := 90) rfl rfl) ?_
            obtain ⟨v29, ev29⟩ : ∃ y : Int32, σ.1 33 q3_181 = y := ⟨_, rfl⟩
            have hv29 : -1 ≤ v29.toInt ∧ v29.toInt ≤ 60 := by rw [← ev29]; exact (show -1 ≤ _ ∧ _ ≤ 60 from hT 33 _)
            refine z_top (y := v29) ev29 ?_
            refine lv_iconst (v := (-1)) hx hb (dkP dF_2 DX12_count (i := 91) rfl rfl) (by decide) ?_
            refine lv_icmp_ne (tgt := 201) hx hb (dkS dF_160 DX12_count (i := 92) rfl rfl rfl) (by decide) (fun c30 => ?_) (fun c30 => ?_)
            · (try simp (disch := omega) only [ta_lt, ta_le, ta_eq, tnI, tn32 1 (by decide)] at c30)
              refine lv_iconst (v := 1) hx hb (dkP dF_4 DX12_count (i := 95) rfl rfl) (by decide) ?_
              refine lv_iadd hx hb (dkP dF_96 DX12_count (i := 96) rfl rfl) ?_
              refine lv_topi (fun v31 ev31 => ?_)
              refine lv_istore_n (lv' := [(2, .int v31), (3, .int (nI q3_181)), (0, .ref (ad 0)), (1, .int (nI 9))]) hx hb (dkP dF_61 DX12_count (i := 97) rfl rfl) rfl hl (by decide) rfl (fun ls hl => ?_)
              refine lv_iinc (v := nI (q3_181 + 1)) (lv' := [(3, .int (nI (q3_181 + 1))), (2, .int v31), (0, .ref (ad 0)), (1, .int (nI 9))]) hx hb (dkI DX12_count (i := 98) rfl rfl rfl rfl) hl (k := 1) rfl (nI_1 _) (by decide) rfl (fun ls hl => ?_)
              refine lv_goto (tgt := 181) hx hb (dkS dF_167 DX12_count (i := 99) rfl rfl rfl) (by decide) ?_
              exact ih27 (q3_181 + 1) v31 _ _ _ (by omega) (by (try simp only [lg_cmp_lt, lg_cmp_le, lg_cmp_gt, lg_cmp_ge, lg_cmp_eq] at c28); (try simp (disch := omega) only [ta_lt, ta_le, ta_eq, tb_lt, tb_le, tb_eq, tw, tnI, tsub1, tsv, tn32 1 (by decide), tnj 1 (by decide), tl32 0 (by decide), tl64 0 (by decide), tl32 1 (by decide), tl64 1 (by decide), tl32 2 (by decide), tl64 2 (by decide), tl32 4 (by decide), tl64 4 (by decide), tl32 5 (by decide), tl64 5 (by decide), tl32 7 (by decide), tl64 7 (by decide), tl32 8 (by decide), tl64 8 (by decide), tl32 413608 (by decide), tl64 413608 (by decide)] at c28); (try simp only [lg_cmp_lt, lg_cmp_le, lg_cmp_gt, lg_cmp_ge, lg_cmp_eq] at c30); (try simp (disch := omega) only [ta_lt, ta_le, ta_eq, tb_lt, tb_le, tb_eq, tw, tnI, tsub1, tsv, tn32 1 (by decide), tnj 1 (by decide), tl32 0 (by decide), tl64 0 (by decide), tl32 1 (by decide), tl64 1 (by decide), tl32 2 (by decide), tl64 2 (by decide), tl32 4 (by decide), tl64 4 (by decide), tl32 5 (by decide), tl64 5 (by decide), tl32 7 (by decide), tl64 7 (by decide), tl32 8 (by decide), tl64 8 (by decide), tl32 413608 (by decide), tl64 413608 (by decide)] at c30); (try simp (disch := omega) only [ta_lt, ta_le, ta_eq, tb_lt, tb_le, tb_eq, tw, tnI, tsub1, tsv, tn32 1 (by decide), tnj 1 (by decide), tl32 0 (by decide), tl64 0 (by decide), tl32 1 (by decide), tl64 1 (by decide), tl32 2 (by decide), tl64 2 (by decide), tl32 4 (by decide), tl64 4 (by decide), tl32 5 (by decide), tl64 5 (by decide), tl32 7 (by decide), tl64 7 (by decide), tl32 8 (by decide), tl64 8 (by decide), tl32 413608 (by decide), tl64 413608 (by decide)]); omega) hw (lv_sub hl [0, 1, 2, 3] rfl)
            · (try simp (disch := omega) only [ta_lt, ta_le, ta_eq, tnI, tn32 1 (by decide)] at c30)
              refine lv_iconst (v := 0) hx hb (dkP dF_3 DX12_count (i := 93) rfl rfl) (by decide) ?_
              refine lv_goto (tgt := 202) hx hb (dkS dF_167 DX12_count (i := 94) rfl rfl rfl) (by decide) ?_
              refine lv_iadd hx hb (dkP dF_96 DX12_count (i := 96) rfl rfl) ?_
              refine lv_topi (fun v32 ev32 => ?_)
              refine lv_istore_n (lv' := [(2, .int v32), (3, .int (nI q3_181)), (0, .ref (ad 0)), (1, .int (nI 9))]) hx hb (dkP dF_61 DX12_count (i := 97) rfl rfl) rfl hl (by decide) rfl (fun ls hl => ?_)
              refine lv_iinc (v := nI (q3_181 + 1)) (lv' := [(3, .int (nI (q3_181 + 1))), (2, .int v32), (0, .ref (ad 0)), (1, .int (nI 9))]) hx hb (dkI DX12_count (i := 98) rfl rfl rfl rfl) hl (k := 1) rfl (nI_1 _) (by decide) rfl (fun ls hl => ?_)
              refine lv_goto (tgt := 181) hx hb (dkS dF_167 DX12_count (i := 99) rfl rfl rfl) (by decide) ?_
              exact ih27 (q3_181 + 1) v32 _ _ _ (by omega) (by (try simp only [lg_cmp_lt, lg_cmp_le, lg_cmp_gt, lg_cmp_ge, lg_cmp_eq] at c28); (try simp (disch := omega) only [ta_lt, ta_le, ta_eq, tb_lt, tb_le, tb_eq, tw, tnI, tsub1, tsv, tn32 1 (by decide), tnj 1 (by decide), tl32 0 (by decide), tl64 0 (by decide), tl32 1 (by decide), tl64 1 (by decide), tl32 2 (by decide), tl64 2 (by decide), tl32 4 (by decide), tl64 4 (by decide), tl32 5 (by decide), tl64 5 (by decide), tl32 7 (by decide), tl64 7 (by decide), tl32 8 (by decide), tl64 8 (by decide), tl32 413608 (by decide), tl64 413608 (by decide)] at c28); (try simp only [lg_cmp_lt, lg_cmp_le, lg_cmp_gt, lg_cmp_ge, lg_cmp_eq] at c30); (try simp (disch := omega) only [ta_lt, ta_le, ta_eq, tb_lt, tb_le, tb_eq, tw, tnI, tsub1, tsv, tn32 1 (by decide), tnj 1 (by decide), tl32 0 (by decide), tl64 0 (by decide), tl32 1 (by decide), tl64 1 (by decide), tl32 2 (by decide), tl64 2 (by decide), tl32 4 (by decide), tl64 4 (by decide), tl32 5 (by decide), tl64 5 (by decide), tl32 7 (by decide), tl64 7 (by decide), tl32 8 (by decide), tl64 8 (by decide), tl32 413608 (by decide), tl64 413608 (by decide)] at c30); (try simp (disch := omega) only [ta_lt, ta_le, ta_eq, tb_lt, tb_le, tb_eq, tw, tnI, tsub1, tsv, tn32 1 (by decide), tnj 1 (by decide), tl32 0 (by decide), tl64 0 (by decide), tl32 1 (by decide), tl64 1 (by decide), tl32 2 (by decide), tl64 2 (by decide), tl32 4 (by decide), tl64 4 (by decide), tl32 5 (by decide), tl64 5 (by decide), tl32 7 (by decide), tl64 7 (by decide), tl32 8 (by decide), tl64 8 (by decide), tl32 413608 (by decide), tl64 413608 (by decide)]); omega) hw (lv_sub hl [0, 1, 2, 3] rfl)
      exact lp27 _ 0 0 _ _ _ (Nat.lt_succ_self _) (by (try simp (disch := omega) only [ta_lt, ta_le, ta_eq, tb_lt, tb_le, tb_eq, tw, tnI, tsub1, tsv, tn32 1 (by decide), tnj 1 (by decide), tl32 0 (by decide), tl64 0 (by decide), tl32 1 (by decide), tl64 1 (by decide), tl32 2 (by decide), tl64 2 (by decide), tl32 4 (by decide), tl64 4 (by decide), tl32 5 (by decide), tl64 5 (by decide), tl32 7 (by decide), tl64 7 (by decide), tl32 8 (by decide), tl64 8 (by decide), tl32 413608 (by decide), tl64 413608 (by decide)]); omega) hw (lv_sub hl [0, 1, 2, 3] rfl)
    | 10, _ =>
      refine lv_tableIn (x := nI 10) (off := 209) (tgt := 212) hx hb (dX12_count_3) (by decide) (by decide) rfl (by decide) ?_
      refine lv_iconst (v := 0) hx hb (dkP dF_3 DX12_count (i := 102) rfl rfl) (by decide) ?_
      refine lv_istore_n (lv' := [(3, .int 0), (2, .int 0), (0, .ref (ad 0)), (1, .int (nI 10))]) hx hb (dkP dF_62 DX12_count (i := 103) rfl rfl) rfl hl (by decide) rfl (fun ls hl => ?_)
      have lp33 : ∀ (nq : Nat) (q3_214 : Nat) (q2_214 : Int32) (H : Heap) (locs : List Loc) (ls : Array Slot), 20 - q3_214 < nq → (q3_214 ≤ 20) → St G kc A s.heap shM ad σ H locs → lv_has ls 4 [(3, .int (nI q3_214)), (2, .int q2_214), (0, .ref (ad 0)), (1, .int (nI 10))] → W pr l e { frames := 3, cells := 0, slots := 0, locals := 64 } s m ([.ref (ad 0), .int (nI 10)] : List Value).toArray below meth c H locs 0 0 (MQ below (va_Qi (fun r σ1 => σ1 = σ) (PoC G kc shM ad A) A) ([.ref (ad 0), .int (nI 10)] : List Value).toArray s 0 0 A) (F0 m 214 ls []) := by
        intro nq
        induction nq with
        | zero => intro q3_214 q2_214 H locs ls hmu; exact absurd hmu (Nat.not_lt_zero _)
        | succ nq ih33 =>
          intro q3_214 q2_214 H locs ls hmu hq3_214 hw hl
          refine lv_iload_n hx hb (dkP dF_29 DX12_count (i := 104) rfl rfl) rfl (lv_at hl 0 rfl) ?_
          refine lv_bipush (v := 20) hx hb (dks dF_16 DX12_count (i := 105) rfl rfl rfl) (by decide) ?_
          refine lv_icmp_ge (tgt := 240) hx hb (dkS dF_162 DX12_count (i := 106) rfl rfl rfl) (by decide) (fun c34 => ?_) (fun c34 => ?_)
          · simp (disch := omega) only [ta_lt, ta_le, ta_eq, tnI, tl32 20 (by decide)] at c34
            refine lv_iload_n hx hb (dkP dF_28 DX12_count (i := 119) rfl rfl) rfl (lv_at hl 1 rfl) ?_
            exact z_iret C0 hr hlk hw rfl (dkP dF_172 DX12_count (i := 120) rfl rfl)
          · simp (disch := omega) only [ta_lt, ta_le, ta_eq, tnI, tl32 20 (by decide)] at c34
            refine lv_iload_n hx hb (dkP dF_28 DX12_count (i := 107) rfl rfl) rfl (lv_at hl 1 rfl) ?_
            refine lv_aload_n hx hb (dkP dF_42 DX12_count (i := 108) rfl rfl) rfl (lv_at hl 2 rfl) ?_
            refine z_gr C0 hw 0 1 1 rfl fl_X12_20 (dk2 dF_180 DX12_count (i := 109) rfl rfl rfl) ?_
            refine lv_iload_n hx hb (dkP dF_29 DX12_count (i := 110) rfl rfl) rfl (lv_at hl 0 rfl) ?_
            refine zn_I hw (zr_S (As := [.int (nI q3_214)]) (rest := [.ref (ad 1), .int q2_214]) C0 (c_X12_rowAt l G kc q3_214  _) cs_X12_rowAt lk_X12_489 (zp_P C0 hRo hw a00 s00) rfl hl.1 rfl ⟨by decide, by decide⟩ (Nat.le_of_ble_eq_true rfl) (dk2 dF_184 DX12_count (i := 111) rfl rfl rfl) ⟨Nat.le_refl _, Nat.le_refl _⟩) (fun r35 s35 H locs hp hw => ?_)
            subst hp
            refine lv_iconst (v := 4) hx hb (dkP dF_7 DX12_count (i := 112) rfl rfl) (by decide) ?_
            refine lv_iadd hx hb (dkP dF_96 DX12_count (i := 113) rfl rfl) ?_
            refine z_top (y := nI ((414028 + 5 * q3_214) + 4)) (by simp only [fa_lit, nI_add, pk_mul]) ?_
            refine z_ialdN (n := 414128) C0 hw 1 ((414028 + 5 * q3_214) + 4) rfl (by omega) (by decide) (dkP dF_46 DX12_count (i := 114) rfl rfl) ?_
            obtain ⟨v36, ev36⟩ : ∃ y : Int32, σ.1 1 ((414028 + 5 * q3_214) + 4) = y := ⟨_, rfl⟩
            refine z_top (y := v36) ev36 ?_
            refine lv_iadd hx hb (dkP dF_96 DX12_count (i := 115) rfl rfl) ?_
            refine lv_topi (fun v37 ev37 => ?_)
            refine lv_istore_n (lv' := [(2, .int v37), (3, .int (nI q3_214)), (0, .ref (ad 0)), (1, .int (nI 10))]) hx hb (dkP dF_61 DX12_count (i := 116) rfl rfl) rfl hl (by decide) rfl (fun ls hl => ?_)
            refine lv_iinc (v := nI (q3_214 + 1)) (lv' := [(3, .int (nI (q3_214 + 1))), (2, .int v37), (0, .ref (ad 0)), (1, .int (nI 10))]) hx hb (dkI DX12_count (i := 117) rfl rfl rfl rfl) hl (k := 1) rfl (nI_1 _) (by decide) rfl (fun ls hl => ?_)
            refine lv_goto (tgt := 214) hx hb (dkS dF_167 DX12_count (i := 118) rfl rfl rfl) (by decide) ?_
            exact ih33 (q3_214 + 1) v37 _ _ _ (by omega) (by (try simp only [lg_cmp_lt, lg_cmp_le, lg_cmp_gt, lg_cmp_ge, lg_cmp_eq] at c34); (try simp (disch := omega) only [ta_lt, ta_le, ta_eq, tb_lt, tb_le, tb_eq, tw, tnI, tsub1, tsv, tn32 1 (by decide), tnj 1 (by decide), tl32 0 (by decide), tl64 0 (by decide), tl32 1 (by decide), tl64 1 (by decide), tl32 2 (by decide), tl64 2 (by decide), tl32 4 (by decide), tl64 4 (by decide), tl32 5 (by decide), tl64 5 (by decide), tl32 7 (by decide), tl64 7 (by decide), tl32 8 (by decide), tl64 8 (by decide), tl32 20 (by decide), tl64 20 (by decide), tl32 413608 (by decide), tl64 413608 (by decide)] at c34); (try simp (disch := omega) only [ta_lt, ta_le, ta_eq, tb_lt, tb_le, tb_eq, tw, tnI, tsub1, tsv, tn32 1 (by decide), tnj 1 (by decide), tl32 0 (by decide), tl64 0 (by decide), tl32 1 (by decide), tl64 1 (by decide), tl32 2 (by decide), tl64 2 (by decide), tl32 4 (by decide), tl64 4 (by decide), tl32 5 (by decide), tl64 5 (by decide), tl32 7 (by decide), tl64 7 (by decide), tl32 8 (by decide), tl64 8 (by decide), tl32 20 (by decide), tl64 20 (by decide), tl32 413608 (by decide), tl64 413608 (by decide)]); omega) hw (lv_sub hl [0, 1, 2, 3] rfl)
      exact lp33 _ 0 0 _ _ _ (Nat.lt_succ_self _) (by (try simp (disch := omega) only [ta_lt, ta_le, ta_eq, tb_lt, tb_le, tb_eq, tw, tnI, tsub1, tsv, tn32 1 (by decide), tnj 1 (by decide), tl32 0 (by decide), tl64 0 (by decide), tl32 1 (by decide), tl64 1 (by decide), tl32 2 (by decide), tl64 2 (by decide), tl32 4 (by decide), tl64 4 (by decide), tl32 5 (by decide), tl64 5 (by decide), tl32 7 (by decide), tl64 7 (by decide), tl32 8 (by decide), tl64 8 (by decide), tl32 20 (by decide), tl64 20 (by decide), tl32 413608 (by decide), tl64 413608 (by decide)]); omega) hw (lv_sub hl [0, 1, 2, 3] rfl)
    | j + 11, hj => exact absurd hj (by omega)
  · refine lv_tableOut (tgt := 242) hx hb (dX12_count_3) (by omega) (by decide) ?_
    refine lv_iconst (v := (-1)) hx hb (dkP dF_2 DX12_count (i := 121) rfl rfl) (by decide) ?_
    exact z_iret C0 hr hlk hw rfl (dkP dF_172 DX12_count (i := 122) rfl rfl)
