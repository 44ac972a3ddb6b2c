set_option maxRecDepth 100000 in
set_option maxHeartbeats 8000000 in
theorem c_X12_readTest (l : Launch) (G : va_G) (kc : KC) (ad : Nat → Nat) (σ : Sg) (cs : Nat) {t : Nat} (hcs : cs ≤ 11) (ht4 : t ≤ 4) (hte : σ.1 8 (2 * cs) = nI t) (hT : TM σ) : MV l G kc yX12_readTest cX12_readTest 5 5 115 [.ref (ad 0), .int (nI cs)] shM ad σ (fun σ1 => (¬ σ1.1 0 12 = 0 ∨ (t ≤ 3 ∧ σ1.1 8 (2 * cs) = nI (t + 1))) ∧ (σ1.1 8 (2 * cs + 1) = σ.1 8 (2 * cs + 1)) ∧ TM σ1 ∧ fr true [6, 8, 9] [8, 9, 10, 11, 12, 13] σ σ1) := by
  intro sz
  refine z_body (y := yX12_readTest) (n := 5) (av := [.ref (ad 0), .int (nI cs)]) (Qc := fun A => va_Qv (fun σ1 => (¬ σ1.1 0 12 = 0 ∨ (t ≤ 3 ∧ σ1.1 8 (2 * cs) = nI (t + 1))) ∧ (σ1.1 8 (2 * cs + 1) = σ.1 8 (2 * cs + 1)) ∧ TM σ1 ∧ fr true [6, 8, 9] [8, 9, 10, 11, 12, 13] σ σ1) (PoC G kc shM ad A) A) (plainFor_of_name (by decide)) (Nat.le_of_ble_eq_true rfl) (fun pr e s m below meth c A C0 hr hlk hnm hw hRo ls hl => ?_) sz
  have hx := C0.1
  have hb := C0.2.1
  have hown := C0.2.2.2.1
  have hts := C0.2.2.2.2.1
  have hl : lv_has ls 5 [(0, .ref (ad 0)), (1, .int (nI cs))] := hl
  refine lv_aload_n hx hb (dkP dF_42 DX12_readTest (i := 0) rfl rfl) rfl (lv_at hl 0 rfl) ?_
  refine z_gr C0 hw 0 16 8 rfl fl_X12_48 (dk2 dF_180 DX12_readTest (i := 1) rfl rfl rfl) ?_
  refine lv_iconst (v := 2) hx hb (dkP dF_5 DX12_readTest (i := 2) rfl rfl) (by decide) ?_
  refine lv_iload_n hx hb (dkP dF_27 DX12_readTest (i := 3) rfl rfl) rfl (lv_at hl 1 rfl) ?_
  refine lv_imul hx hb (dkP dF_104 DX12_readTest (i := 4) rfl rfl) ?_
  refine z_top (y := nI (2 * cs)) (by simp only [fa_lit, nI_add, pk_mul]) ?_
  refine z_ialdN (n := 24) C0 hw 8 (2 * cs) rfl (by omega) (by decide) (dkP dF_46 DX12_readTest (i := 5) rfl rfl) ?_
  refine z_top (y := (nI t)) hte ?_
  refine lv_istore_n (lv' := [(2, .int (nI t)), (0, .ref (ad 0)), (1, .int (nI cs))]) hx hb (dkP dF_61 DX12_readTest (i := 6) rfl rfl) rfl hl (by decide) rfl (fun ls hl => ?_)
  have jp1 : ∀  (σb : Sg) (H : Heap) (locs : List Loc) (ls : Array Slot), (t = 4 → ¬ σb.1 0 12 = 0) → (σb.1 8 (2 * cs) = nI t) → (σb.1 8 (2 * cs + 1) = σ.1 8 (2 * cs + 1)) → (TM σb) → (fr true [6, 8, 9] [8, 9, 10, 11, 12, 13] σ σb) → St G kc A s.heap shM ad σb H locs → lv_has ls 5 [(2, .int (nI t)), (0, .ref (ad 0)), (1, .int (nI cs))] → W pr l e { frames := 5, cells := 0, slots := 0, locals := 115 } s m ([.ref (ad 0), .int (nI cs)] : List Value).toArray below meth c H locs 0 0 (MQ below (va_Qv (fun σ1 => (¬ σ1.1 0 12 = 0 ∨ (t ≤ 3 ∧ σ1.1 8 (2 * cs) = nI (t + 1))) ∧ (σ1.1 8 (2 * cs + 1) = σ.1 8 (2 * cs + 1)) ∧ TM σ1 ∧ fr true [6, 8, 9] [8, 9, 10, 11, 12, 13] σ σ1) (PoC G kc shM ad A) A) ([.ref (ad 0), .int (nI cs)] : List Value).toArray s 0 0 A) (F0 m 75 ls []) := by
    intro  σb H locs ls h4 hfc hfd hT_σb hF_σb hw hl
    refine lv_aload_n hx hb (dkP dF_42 DX12_readTest (i := 40) rfl rfl) rfl (lv_at hl 1 rfl) ?_
    refine zk_I hw (zr_V (As := []) (rest := []) C0 (c_X12_good l G kc ad σb  _) cv_X12_good lk_X12_190 (zp_V C0 hRo hw 0 rfl rfl rfl) rfl hl.1 rfl ⟨by decide, by decide⟩ (Nat.le_of_ble_eq_true rfl) (dk2 dF_182 DX12_readTest (i := 41) rfl rfl rfl) ⟨Nat.le_refl _, Nat.le_refl _⟩) (fun r2 s2 H locs hp hw => ?_)
    obtain ⟨hq2, hs2⟩ := hp
    (rw [hs2] at hw; clear hs2)
    rcases hq2 with ⟨rfl, hc2⟩ | ⟨rfl, hc2⟩
    · skip
      refine lv_if_ne (tgt := 83) hx hb (dkS dF_154 DX12_readTest (i := 42) rfl rfl rfl) (by decide) (fun _ => ?_) (fun h => absurd h (by decide))
      have h3 : t ≠ 4 := fun h => h4 h hc2
      refine lv_bipush (v := 12) hx hb (dks dF_16 DX12_readTest (i := 44) rfl rfl rfl) (by decide) ?_
      refine lv_iconst (v := 4) hx hb (dkP dF_7 DX12_readTest (i := 45) rfl rfl) (by decide) ?_
      refine lv_iload_n hx hb (dkP dF_27 DX12_readTest (i := 46) rfl rfl) rfl (lv_at hl 2 rfl) ?_
      refine lv_imul hx hb (dkP dF_104 DX12_readTest (i := 47) rfl rfl) ?_
      refine z_top (y := nI (4 * cs)) (by simp only [fa_lit, nI_add, pk_mul]) ?_
      refine lv_iload_n hx hb (dkP dF_28 DX12_readTest (i := 48) rfl rfl) rfl (lv_at hl 0 rfl) ?_
      refine lv_iadd hx hb (dkP dF_96 DX12_readTest (i := 49) rfl rfl) ?_
      refine z_top (y := nI ((4 * cs) + t)) (by simp only [fa_lit, nI_add, pk_mul]) ?_
      refine lv_imul hx hb (dkP dF_104 DX12_readTest (i := 50) rfl rfl) ?_
      refine z_top (y := nI (12 * ((4 * cs) + t))) (by simp only [fa_lit, nI_add, pk_mul]) ?_
      refine lv_istore (lv' := [(4, .int (nI (12 * ((4 * cs) + t)))), (2, .int (nI t)), (0, .ref (ad 0)), (1, .int (nI cs))]) hx hb (dk1 dF_54 DX12_readTest (i := 51) rfl rfl rfl) hl (by decide) rfl (fun ls hl => ?_)
      refine lv_aload_n hx hb (dkP dF_42 DX12_readTest (i := 52) rfl rfl) rfl (lv_at hl 2 rfl) ?_
      refine zk_V hw (zr_V (As := []) (rest := []) C0 (c_X12_readSum l G kc ad σb hT_σb _) cv_X12_readSum lk_X12_252 (zp_V C0 hRo hw 0 rfl rfl rfl) rfl hl.1 rfl ⟨by decide, by decide⟩ (Nat.le_of_ble_eq_true rfl) (dk2 dF_182 DX12_readTest (i := 53) rfl rfl rfl) ⟨Nat.le_refl _, Nat.le_refl _⟩) (fun s3 H locs hp hw => ?_)
      obtain ⟨hT3, hG3⟩ := hp
      have hF3 : fr true [6, 8, 9] [8, 9, 10, 11, 12, 13] σ s3 := fr.t hF_σb hG3 (by decide) (by decide) (by decide)
      refine lv_aload_n hx hb (dkP dF_42 DX12_readTest (i := 54) rfl rfl) rfl (lv_at hl 2 rfl) ?_
      refine z_gr C0 hw 0 14 6 rfl fl_X12_42 (dk2 dF_180 DX12_readTest (i := 55) rfl rfl rfl) ?_
      refine lv_iconst (v := 0) hx hb (dkP dF_3 DX12_readTest (i := 56) rfl rfl) (by decide) ?_
      refine lv_aload_n hx hb (dkP dF_42 DX12_readTest (i := 57) rfl rfl) rfl (lv_at hl 2 rfl) ?_
      refine z_gr C0 hw 0 17 9 rfl fl_X12_51 (dk2 dF_180 DX12_readTest (i := 58) rfl rfl rfl) ?_
      refine lv_iload hx hb (dk1 dF_21 DX12_readTest (i := 59) rfl rfl rfl) (lv_at hl 0 rfl) ?_
      refine lv_bipush (v := 9) hx hb (dks dF_16 DX12_readTest (i := 60) rfl rfl rfl) (by decide) ?_
      refine zk_V hw (zr_S (As := [.ref (ad 6), .int 0, .ref (ad 9), .int (nI (12 * ((4 * cs) + t))), .int 9]) (rest := []) C0 (c_X12_lays_6_9 l G kc ad s3 0 (12 * ((4 * cs) + t)) 9 (by omega) (by omega) (fun i hi v _ => trivial) hT3 _) cs_X12_lays lk_X12_255 (zp_S C0 hRo hw) rfl hl.1 rfl ⟨by decide, by decide⟩ (Nat.le_of_ble_eq_true rfl) (dk2 dF_184 DX12_readTest (i := 61) rfl rfl rfl) ⟨Nat.le_refl _, Nat.le_refl _⟩) (fun s4 H locs hp hw => ?_)
      obtain ⟨f4_0, hT4, hG4⟩ := hp
      have hF4 : fr true [6, 8, 9] [8, 9, 10, 11, 12, 13] σ s4 := fr.t hF3 hG4 (by decide) (by decide) (by decide)
      refine lv_aload_n hx hb (dkP dF_42 DX12_readTest (i := 62) rfl rfl) rfl (lv_at hl 2 rfl) ?_
      refine z_gr C0 hw 0 17 9 rfl fl_X12_51 (dk2 dF_180 DX12_readTest (i := 63) rfl rfl rfl) ?_
      refine lv_iload hx hb (dk1 dF_21 DX12_readTest (i := 64) rfl rfl rfl) (lv_at hl 0 rfl) ?_
      refine lv_bipush (v := 9) hx hb (dks dF_16 DX12_readTest (i := 65) rfl rfl rfl) (by decide) ?_
      refine lv_iadd hx hb (dkP dF_96 DX12_readTest (i := 66) rfl rfl) ?_
      refine z_top (y := nI ((12 * ((4 * cs) + t)) + 9)) (by simp only [fa_lit, nI_add, pk_mul]) ?_
      refine lv_aload_n hx hb (dkP dF_42 DX12_readTest (i := 67) rfl rfl) rfl (lv_at hl 2 rfl) ?_
      refine zk_I hw (zr_V (As := []) (rest := [.int (nI ((12 * ((4 * cs) + t)) + 9)), .ref (ad 9)]) C0 (c_X12_compared l G kc ad s4 hT4 _) cv_X12_compared lk_X12_261 (zp_V C0 hRo hw 0 rfl rfl rfl) rfl hl.1 rfl ⟨by decide, by decide⟩ (Nat.le_of_ble_eq_true rfl) (dk2 dF_182 DX12_readTest (i := 68) rfl rfl rfl) ⟨Nat.le_refl _, Nat.le_refl _⟩) (fun r5 s5 H locs hp hw => ?_)
      obtain ⟨hT5, hG5⟩ := hp
      have hF5 : fr true [6, 8, 9] [8, 9, 10, 11, 12, 13] σ s5 := fr.t hF4 hG5 (by decide) (by decide) (by decide)
      refine z_iastN (n := 576) C0 hw 9 ((12 * ((4 * cs) + t)) + 9) rfl (by omega) (by decide) (dkP dF_79 DX12_readTest (i := 69) rfl rfl) (fun H locs hw => ?_)
      have hT6 : TM (sI s5 9 ((12 * ((4 * cs) + t)) + 9) r5) := TM.w hT5 (show True from trivial)
      have hF6 : fr true [6, 8, 9] [8, 9, 10, 11, 12, 13] σ (sI s5 9 ((12 * ((4 * cs) + t)) + 9) r5) := fr.w hF5 (Or.inl ⟨by decide, by decide⟩) (fun _ h => absurd h (by decide))
      refine lv_aload_n hx hb (dkP dF_42 DX12_readTest (i := 70) rfl rfl) rfl (lv_at hl 2 rfl) ?_
      refine z_gr C0 hw 0 17 9 rfl fl_X12_51 (dk2 dF_180 DX12_readTest (i := 71) rfl rfl rfl) ?_
      refine lv_iload hx hb (dk1 dF_21 DX12_readTest (i := 72) rfl rfl rfl) (lv_at hl 0 rfl) ?_
      refine lv_bipush (v := 10) hx hb (dks dF_16 DX12_readTest (i := 73) rfl rfl rfl) (by decide) ?_
      refine lv_iadd hx hb (dkP dF_96 DX12_readTest (i := 74) rfl rfl) ?_
      refine z_top (y := nI ((12 * ((4 * cs) + t)) + 10)) (by simp only [fa_lit, nI_add, pk_mul]) ?_
      refine lv_aload_n hx hb (dkP dF_42 DX12_readTest (i := 75) rfl rfl) rfl (lv_at hl 2 rfl) ?_
      refine lv_iconst (v := 0) hx hb (dkP dF_3 DX12_readTest (i := 76) rfl rfl) (by decide) ?_
      refine lv_sipush (v := 9999) hx hb (dkS dF_17 DX12_readTest (i := 77) rfl rfl rfl) (by decide) ?_
      refine zk_I hw (zr_V (As := [.int 0, .int 9999]) (rest := [.int (nI ((12 * ((4 * cs) + t)) + 10)), .ref (ad 9)]) C0 (c_X12_number l G kc ad (sI s5 9 ((12 * ((4 * cs) + t)) + 9) r5) 0 9999 hT6 _) cv_X12_number lk_X12_232 (zp_V C0 hRo hw 0 rfl rfl rfl) rfl hl.1 rfl ⟨by decide, by decide⟩ (Nat.le_of_ble_eq_true rfl) (dk2 dF_182 DX12_readTest (i := 78) rfl rfl rfl) ⟨Nat.le_refl _, Nat.le_refl _⟩) (fun r7 s7 H locs hp hw => ?_)
      obtain ⟨hT7, hG7⟩ := hp
      have hF7 : fr true [6, 8, 9] [8, 9, 10, 11, 12, 13] σ s7 := fr.t hF6 hG7 (by decide) (by decide) (by decide)
      refine z_iastN (n := 576) C0 hw 9 ((12 * ((4 * cs) + t)) + 10) rfl (by omega) (by decide) (dkP dF_79 DX12_readTest (i := 79) rfl rfl) (fun H locs hw => ?_)
      have hT8 : TM (sI s7 9 ((12 * ((4 * cs) + t)) + 10) r7) := TM.w hT7 (show True from trivial)
      have hF8 : fr true [6, 8, 9] [8, 9, 10, 11, 12, 13] σ (sI s7 9 ((12 * ((4 * cs) + t)) + 10) r7) := fr.w hF7 (Or.inl ⟨by decide, by decide⟩) (fun _ h => absurd h (by decide))
      refine lv_aload_n hx hb (dkP dF_42 DX12_readTest (i := 80) rfl rfl) rfl (lv_at hl 2 rfl) ?_
      refine z_gr C0 hw 0 17 9 rfl fl_X12_51 (dk2 dF_180 DX12_readTest (i := 81) rfl rfl rfl) ?_
      refine lv_iload hx hb (dk1 dF_21 DX12_readTest (i := 82) rfl rfl rfl) (lv_at hl 0 rfl) ?_
      refine lv_bipush (v := 11) hx hb (dks dF_16 DX12_readTest (i := 83) rfl rfl rfl) (by decide) ?_
      refine lv_iadd hx hb (dkP dF_96 DX12_readTest (i := 84) rfl rfl) ?_
      refine z_top (y := nI ((12 * ((4 * cs) + t)) + 11)) (by simp only [fa_lit, nI_add, pk_mul]) ?_
      refine lv_iconst (v := 0) hx hb (dkP dF_3 DX12_readTest (i := 85) rfl rfl) (by decide) ?_
      refine z_iastN (n := 576) C0 hw 9 ((12 * ((4 * cs) + t)) + 11) rfl (by omega) (by decide) (dkP dF_79 DX12_readTest (i := 86) rfl rfl) (fun H locs hw => ?_)
      have hT9 : TM (sI (sI s7 9 ((12 * ((4 * cs) + t)) + 10) r7) 9 ((12 * ((4 * cs) + t)) + 11) 0) := TM.w hT8 (show True from trivial)
      have hF9 : fr true [6, 8, 9] [8, 9, 10, 11, 12, 13] σ (sI (sI s7 9 ((12 * ((4 * cs) + t)) + 10) r7) 9 ((12 * ((4 * cs) + t)) + 11) 0) := fr.w hF8 (Or.inl ⟨by decide, by decide⟩) (fun _ h => absurd h (by decide))
      refine lv_aload_n hx hb (dkP dF_42 DX12_readTest (i := 87) rfl rfl) rfl (lv_at hl 2 rfl) ?_
      refine z_gr C0 hw 0 16 8 rfl fl_X12_48 (dk2 dF_180 DX12_readTest (i := 88) rfl rfl rfl) ?_
      refine lv_iconst (v := 2) hx hb (dkP dF_5 DX12_readTest (i := 89) rfl rfl) (by decide) ?_
      refine lv_iload_n hx hb (dkP dF_27 DX12_readTest (i := 90) rfl rfl) rfl (lv_at hl 3 rfl) ?_
      refine lv_imul hx hb (dkP dF_104 DX12_readTest (i := 91) rfl rfl) ?_
      refine z_top (y := nI (2 * cs)) (by simp only [fa_lit, nI_add, pk_mul]) ?_
      refine lv_dup2_11 hx hb (dkP dF_92 DX12_readTest (i := 92) rfl rfl) rfl rfl ?_
      refine z_ialdN (n := 24) C0 hw 8 (2 * cs) rfl (by omega) (by decide) (dkP dF_46 DX12_readTest (i := 93) rfl rfl) ?_
      refine z_top (y := (nI t)) ((rd_n (by omega)).trans ((rd_n (by omega)).trans ((congrFun (hG7.1 8 (by decide) (by decide)) _).trans ((rd_n (by omega)).trans ((congrFun (hG5.1 8 (by decide) (by decide)) _).trans ((congrFun (hG4.1 8 (by decide) (by decide)) _).trans ((congrFun (hG3.1 8 (by decide) (by decide)) _).trans hfc))))))) ?_
      refine lv_iconst (v := 1) hx hb (dkP dF_4 DX12_readTest (i := 94) rfl rfl) (by decide) ?_
      refine lv_iadd hx hb (dkP dF_96 DX12_readTest (i := 95) rfl rfl) ?_
      refine z_top (y := nI (t + 1)) (by simp only [fa_lit, nI_add, pk_mul]) ?_
      refine z_iastN (n := 24) C0 hw 8 (2 * cs) rfl (by omega) (by decide) (dkP dF_79 DX12_readTest (i := 96) rfl rfl) (fun H locs hw => ?_)
      have hT10 : TM (sI (sI (sI s7 9 ((12 * ((4 * cs) + t)) + 10) r7) 9 ((12 * ((4 * cs) + t)) + 11) 0) 8 (2 * cs) (nI (t + 1))) := TM.w hT9 (by simp only [tyM, wTy]; (repeat' split) <;> first | trivial | omega | (simp (disch := omega) only [tnI, tn32 1 (by decide), tl32 0 (by decide), tl32 1 (by decide), tl32 2 (by decide), tl32 4 (by decide), tl32 9 (by decide), tl32 10 (by decide), tl32 11 (by decide), tl32 12 (by decide), tl32 9999 (by decide)]; omega))
      have hF10 : fr true [6, 8, 9] [8, 9, 10, 11, 12, 13] σ (sI (sI (sI s7 9 ((12 * ((4 * cs) + t)) + 10) r7) 9 ((12 * ((4 * cs) + t)) + 11) 0) 8 (2 * cs) (nI (t + 1))) := fr.w hF9 (Or.inl ⟨by decide, by decide⟩) (fun _ h => absurd h (by decide))
      exact z_vret C0 hr hlk hw (⟨(Or.inr ⟨by omega, rd_s⟩), ((rd_n (by omega)).trans ((rd_n (by omega)).trans ((rd_n (by omega)).trans ((congrFun (hG7.1 8 (by decide) (by decide)) _).trans ((rd_n (by omega)).trans ((congrFun (hG5.1 8 (by decide) (by decide)) _).trans ((congrFun (hG4.1 8 (by decide) (by decide)) _).trans ((congrFun (hG3.1 8 (by decide) (by decide)) _).trans hfd)))))))), hT10, hF10⟩) (dkP dF_177 DX12_readTest (i := 97) rfl rfl)
    · skip
      refine lv_if_ne (tgt := 83) hx hb (dkS dF_154 DX12_readTest (i := 42) rfl rfl rfl) (by decide) (fun h => absurd h (by decide)) (fun _ => ?_)
      exact z_vret C0 hr hlk hw (⟨(Or.inl hc2), hfd, hT_σb, hF_σb⟩) (dkP dF_177 DX12_readTest (i := 43) rfl rfl)
  refine lv_aload_n hx hb (dkP dF_42 DX12_readTest (i := 7) rfl rfl) rfl (lv_at hl 1 rfl) ?_
  refine zk_I hw (zr_V (As := []) (rest := []) C0 (c_X12_beginsTerm l G kc ad σ hT _) cv_X12_beginsTerm lk_X12_229 (zp_V C0 hRo hw 0 rfl rfl rfl) rfl hl.1 rfl ⟨by decide, by decide⟩ (Nat.le_of_ble_eq_true rfl) (dk2 dF_182 DX12_readTest (i := 8) rfl rfl rfl) ⟨Nat.le_refl _, Nat.le_refl _⟩) (fun r11 s11 H locs hp hw => ?_)
  obtain ⟨f11_0, hs11⟩ := hp
  (rw [hs11] at hw)
  rcases f11_0 with ⟨rfl, hc11⟩ | ⟨rfl, hc11⟩
  · skip
    refine lv_if_ne (tgt := 25) hx hb (dkS dF_154 DX12_readTest (i := 9) rfl rfl rfl) (by decide) (fun _ => ?_) (fun h => absurd h (by decide))
    refine lv_iconst (v := 1) hx hb (dkP dF_4 DX12_readTest (i := 14) rfl rfl) (by decide) ?_
    refine lv_goto (tgt := 30) hx hb (dkS dF_167 DX12_readTest (i := 15) rfl rfl rfl) (by decide) ?_
    refine lv_istore_n (lv' := [(3, .int 1), (2, .int (nI t)), (0, .ref (ad 0)), (1, .int (nI cs))]) hx hb (dkP dF_62 DX12_readTest (i := 17) rfl rfl) rfl hl (by decide) rfl (fun ls hl => ?_)
    refine lv_iload_n hx hb (dkP dF_28 DX12_readTest (i := 18) rfl rfl) rfl (lv_at hl 1 rfl) ?_
    refine lv_iconst (v := 4) hx hb (dkP dF_7 DX12_readTest (i := 19) rfl rfl) (by decide) ?_
    refine lv_icmp_ne (tgt := 75) hx hb (dkS dF_160 DX12_readTest (i := 20) rfl rfl rfl) (by decide) (fun c12 => ?_) (fun c12 => ?_)
    · simp (disch := omega) only [ta_lt, ta_le, ta_eq, tnI, tl32 4 (by decide)] at c12
      exact jp1 σ _ _ _ (fun h => by exfalso; (try simp only [lg_cmp_lt, lg_cmp_le, lg_cmp_gt, lg_cmp_ge, lg_cmp_eq] at f11_0); (try simp (disch := omega) only [ta_lt, ta_le, ta_eq, tb_lt, tb_le, tb_eq, tw, tnI, tsub1, tsv, tn32 1 (by decide), tnj 1 (by decide), tl32 0 (by decide), tl64 0 (by decide), tl32 1 (by decide), tl64 1 (by decide), tl32 2 (by decide), tl64 2 (by decide), tl32 4 (by decide), tl64 4 (by decide), tl32 9 (by decide), tl64 9 (by decide), tl32 10 (by decide), tl64 10 (by decide), tl32 11 (by decide), tl64 11 (by decide), tl32 12 (by decide), tl64 12 (by decide), tl32 9999 (by decide), tl64 9999 (by decide)] at f11_0); (try simp only [lg_cmp_lt, lg_cmp_le, lg_cmp_gt, lg_cmp_ge, lg_cmp_eq] at hc11); (try simp (disch := omega) only [ta_lt, ta_le, ta_eq, tb_lt, tb_le, tb_eq, tw, tnI, tsub1, tsv, tn32 1 (by decide), tnj 1 (by decide), tl32 0 (by decide), tl64 0 (by decide), tl32 1 (by decide), tl64 1 (by decide), tl32 2 (by decide), tl64 2 (by decide), tl32 4 (by decide), tl64 4 (by decide), tl32 9 (by decide), tl64 9 (by decide), tl32 10 (by decide), tl64 10 (by decide), tl32 11 (by decide), tl64 11 (by decide), tl32 12 (by decide), tl64 12 (by decide), tl32 9999 (by decide), tl64 9999 (by decide)] at hc11); (try simp only [lg_cmp_lt, lg_cmp_le, lg_cmp_gt, lg_cmp_ge, lg_cmp_eq] at c12); (try simp (disch := omega) only [ta_lt, ta_le, ta_eq, tb_lt, tb_le, tb_eq, tw, tnI, tsub1, tsv, tn32 1 (by decide), tnj 1 (by decide), tl32 0 (by decide), tl64 0 (by decide), tl32 1 (by decide), tl64 1 (by decide), tl32 2 (by decide), tl64 2 (by decide), tl32 4 (by decide), tl64 4 (by decide), tl32 9 (by decide), tl64 9 (by decide), tl32 10 (by decide), tl64 10 (by decide), tl32 11 (by decide), tl64 11 (by decide), tl32 12 (by decide), tl64 12 (by decide), tl32 9999 (by decide), tl64 9999 (by decide)] at c12); (try simp (disch := omega) only [ta_lt, ta_le, ta_eq, tb_lt, tb_le, tb_eq, tw, tnI, tsub1, tsv, tn32 1 (by decide), tnj 1 (by decide), tl32 0 (by decide), tl64 0 (by decide), tl32 1 (by decide), tl64 1 (by decide), tl32 2 (by decide), tl64 2 (by decide), tl32 4 (by decide), tl64 4 (by decide), tl32 9 (by decide), tl64 9 (by decide), tl32 10 (by decide), tl64 10 (by decide), tl32 11 (by decide), tl64 11 (by decide), tl32 12 (by decide), tl64 12 (by decide), tl32 9999 (by decide), tl64 9999 (by decide)]); omega) hte rfl hT fr.refl hw (lv_sub hl [1, 2, 3] rfl)
    · simp (disch := omega) only [ta_lt, ta_le, ta_eq, tnI, tl32 4 (by decide)] at c12
      refine lv_iload_n hx hb (dkP dF_29 DX12_readTest (i := 21) rfl rfl) rfl (lv_at hl 0 rfl) ?_
      refine lv_if_ne (tgt := 48) hx hb (dkS dF_154 DX12_readTest (i := 22) rfl rfl rfl) (by decide) (fun _ => ?_) (fun h => absurd h (by decide))
      refine lv_aload_n hx hb (dkP dF_42 DX12_readTest (i := 27) rfl rfl) rfl (lv_at hl 2 rfl) ?_
      refine lv_aload_n hx hb (dkP dF_42 DX12_readTest (i := 28) rfl rfl) rfl (lv_at hl 2 rfl) ?_
      refine z_gi C0 hw 0 10 rfl fl_X12_162 (dk2 dF_180 DX12_readTest (i := 29) rfl rfl rfl) ?_
      obtain ⟨v13, ev13⟩ : ∃ y : Int32, σ.1 0 10 = y := ⟨_, rfl⟩
      refine z_top (y := v13) ev13 ?_
      refine lv_iconst (v := 2) hx hb (dkP dF_5 DX12_readTest (i := 30) rfl rfl) (by decide) ?_
      refine lv_icmp_ne (tgt := 71) hx hb (dkS dF_160 DX12_readTest (i := 31) rfl rfl rfl) (by decide) (fun c14 => ?_) (fun c14 => ?_)
      · (try simp (disch := omega) only [ta_lt, ta_le, ta_eq, tnI, tl32 2 (by decide)] at c14)
        refine lv_iconst (v := 3) hx hb (dkP dF_6 DX12_readTest (i := 38) rfl rfl) (by decide) ?_
        refine zk_V hw (zr_V (As := [.int 3]) (rest := []) C0 (c_X12_wrong l G kc ad σ 3 (by decide) hT _) cv_X12_wrong lk_X12_214 (zp_V C0 hRo hw 0 rfl rfl rfl) rfl hl.1 rfl ⟨by decide, by decide⟩ (Nat.le_of_ble_eq_true rfl) (dk2 dF_182 DX12_readTest (i := 39) rfl rfl rfl) ⟨Nat.le_refl _, Nat.le_refl _⟩) (fun s15 H locs hp hw => ?_)
        obtain ⟨f15_0, hT15, hG15⟩ := hp
        have hF15 : fr true [6, 8, 9] [8, 9, 10, 11, 12, 13] σ s15 := fr.t fr.refl hG15 (by decide) (by decide) (by decide)
        exact jp1 s15 _ _ _ (fun _ => f15_0) ((congrFun (hG15.1 8 (by decide) (by decide)) _).trans hte) ((congrFun (hG15.1 8 (by decide) (by decide)) _).trans rfl) hT15 hF15 hw (lv_sub hl [1, 2, 3] rfl)
      · (try simp (disch := omega) only [ta_lt, ta_le, ta_eq, tnI, tl32 2 (by decide)] at c14)
        refine lv_aload_n hx hb (dkP dF_42 DX12_readTest (i := 32) rfl rfl) rfl (lv_at hl 2 rfl) ?_
        refine z_gi C0 hw 0 11 rfl fl_X12_173 (dk2 dF_180 DX12_readTest (i := 33) rfl rfl rfl) ?_
        obtain ⟨v16, ev16⟩ : ∃ y : Int32, σ.1 0 11 = y := ⟨_, rfl⟩
        refine z_top (y := v16) ev16 ?_
        refine lv_sipush (v := 9999) hx hb (dkS dF_17 DX12_readTest (i := 34) rfl rfl rfl) (by decide) ?_
        refine lv_icmp_le (tgt := 71) hx hb (dkS dF_164 DX12_readTest (i := 35) rfl rfl rfl) (by decide) (fun c17 => ?_) (fun c17 => ?_)
        · (try simp (disch := omega) only [ta_lt, ta_le, ta_eq, tnI, tl32 9999 (by decide)] at c17)
          refine lv_iconst (v := 3) hx hb (dkP dF_6 DX12_readTest (i := 38) rfl rfl) (by decide) ?_
          refine zk_V hw (zr_V (As := [.int 3]) (rest := []) C0 (c_X12_wrong l G kc ad σ 3 (by decide) hT _) cv_X12_wrong lk_X12_214 (zp_V C0 hRo hw 0 rfl rfl rfl) rfl hl.1 rfl ⟨by decide, by decide⟩ (Nat.le_of_ble_eq_true rfl) (dk2 dF_182 DX12_readTest (i := 39) rfl rfl rfl) ⟨Nat.le_refl _, Nat.le_refl _⟩) (fun s18 H locs hp hw => ?_)
          obtain ⟨f18_0, hT18, hG18⟩ := hp
          have hF18 : fr true [6, 8, 9] [8, 9, 10, 11, 12, 13] σ s18 := fr.t fr.refl hG18 (by decide) (by decide) (by decide)
          exact jp1 s18 _ _ _ (fun _ => f18_0) ((congrFun (hG18.1 8 (by decide) (by decide)) _).trans hte) ((congrFun (hG18.1 8 (by decide) (by decide)) _).trans rfl) hT18 hF18 hw (lv_sub hl [1, 2, 3] rfl)
        · (try simp (disch := omega) only [ta_lt, ta_le, ta_eq, tnI, tl32 9999 (by decide)] at c17)
          refine lv_iconst (v := 2) hx hb (dkP dF_5 DX12_readTest (i := 36) rfl rfl) (by decide) ?_
          refine lv_goto (tgt := 72) hx hb (dkS dF_167 DX12_readTest (i := 37) rfl rfl rfl) (by decide) ?_
          refine zk_V hw (zr_V (As := [.int 2]) (rest := []) C0 (c_X12_wrong l G kc ad σ 2 (by decide) hT _) cv_X12_wrong lk_X12_214 (zp_V C0 hRo hw 0 rfl rfl rfl) rfl hl.1 rfl ⟨by decide, by decide⟩ (Nat.le_of_ble_eq_true rfl) (dk2 dF_182 DX12_readTest (i := 39) rfl rfl rfl) ⟨Nat.le_refl _, Nat.le_refl _⟩) (fun s19 H locs hp hw => ?_)
          obtain ⟨f19_0, hT19, hG19⟩ := hp
          have hF19 : fr true [6, 8, 9] [8, 9, 10, 11, 12, 13] σ s19 := fr.t fr.refl hG19 (by decide) (by decide) (by decide)
          exact jp1 s19 _ _ _ (fun _ => f19_0) ((congrFun (hG19.1 8 (by decide) (by decide)) _).trans hte) ((congrFun (hG19.1 8 (by decide) (by decide)) _).trans rfl) hT19 hF19 hw (lv_sub hl [1, 2, 3] rfl)
  · skip
    refine lv_if_ne (tgt := 25) hx hb (dkS dF_154 DX12_readTest (i := 9) rfl rfl rfl) (by decide) (fun h => absurd h (by decide)) (fun _ => ?_)
    refine lv_aload_n hx hb (dkP dF_42 DX12_readTest (i := 10) rfl rfl) rfl (lv_at hl 1 rfl) ?_
    refine lv_bipush (v := 45) hx hb (dks dF_16 DX12_readTest (i := 11) rfl rfl rfl) (by decide) ?_
    refine zk_I hw (zr_V (As := [.int 45]) (rest := []) C0 (c_X12_isSign l G kc ad σ 45 hT _) cv_X12_isSign lk_X12_218 (zp_V C0 hRo hw 0 rfl rfl rfl) rfl hl.1 rfl ⟨by decide, by decide⟩ (Nat.le_of_ble_eq_true rfl) (dk2 dF_182 DX12_readTest (i := 12) rfl rfl rfl) ⟨Nat.le_refl _, Nat.le_refl _⟩) (fun r20 s20 H locs hp hw => ?_)
    obtain ⟨f20_0, hs20⟩ := hp
    (rw [hs20] at hw)
    rcases f20_0 with ⟨rfl, hc20⟩ | ⟨rfl, hc20⟩
    · skip
      refine lv_if_eq (tgt := 29) hx hb (dkS dF_153 DX12_readTest (i := 13) rfl rfl rfl) (by decide) (fun h => absurd h (by decide)) (fun _ => ?_)
      refine lv_iconst (v := 1) hx hb (dkP dF_4 DX12_readTest (i := 14) rfl rfl) (by decide) ?_
      refine lv_goto (tgt := 30) hx hb (dkS dF_167 DX12_readTest (i := 15) rfl rfl rfl) (by decide) ?_
      refine lv_istore_n (lv' := [(3, .int 1), (2, .int (nI t)), (0, .ref (ad 0)), (1, .int (nI cs))]) hx hb (dkP dF_62 DX12_readTest (i := 17) rfl rfl) rfl hl (by decide) rfl (fun ls hl => ?_)
      refine lv_iload_n hx hb (dkP dF_28 DX12_readTest (i := 18) rfl rfl) rfl (lv_at hl 1 rfl) ?_
      refine lv_iconst (v := 4) hx hb (dkP dF_7 DX12_readTest (i := 19) rfl rfl) (by decide) ?_
      refine lv_icmp_ne (tgt := 75) hx hb (dkS dF_160 DX12_readTest (i := 20) rfl rfl rfl) (by decide) (fun c21 => ?_) (fun c21 => ?_)
      · simp (disch := omega) only [ta_lt, ta_le, ta_eq, tnI, tl32 4 (by decide)] at c21
        exact jp1 σ _ _ _ (fun h => by exfalso; (try simp only [lg_cmp_lt, lg_cmp_le, lg_cmp_gt, lg_cmp_ge, lg_cmp_eq] at f11_0); (try simp (disch := omega) only [ta_lt, ta_le, ta_eq, tb_lt, tb_le, tb_eq, tw, tnI, tsub1, tsv, tn32 1 (by decide), tnj 1 (by decide), tl32 0 (by decide), tl64 0 (by decide), tl32 1 (by decide), tl64 1 (by decide), tl32 2 (by decide), tl64 2 (by decide), tl32 3 (by decide), tl64 3 (by decide), tl32 4 (by decide), tl64 4 (by decide), tl32 9 (by decide), tl64 9 (by decide), tl32 10 (by decide), tl64 10 (by decide), tl32 11 (by decide), tl64 11 (by decide), tl32 12 (by decide), tl64 12 (by decide), tl32 45 (by decide), tl64 45 (by decide), tl32 9999 (by decide), tl64 9999 (by decide)] at f11_0); (try simp only [lg_cmp_lt, lg_cmp_le, lg_cmp_gt, lg_cmp_ge, lg_cmp_eq] at hc11); (try simp (disch := omega) only [ta_lt, ta_le, ta_eq, tb_lt, tb_le, tb_eq, tw, tnI, tsub1, tsv, tn32 1 (by decide), tnj 1 (by decide), tl32 0 (by decide), tl64 0 (by decide), tl32 1 (by decide), tl64 1 (by decide), tl32 2 (by decide), tl64 2 (by decide), tl32 3 (by decide), tl64 3 (by decide), tl32 4 (by decide), tl64 4 (by decide), tl32 9 (by decide), tl64 9 (by decide), tl32 10 (by decide), tl64 10 (by decide), tl32 11 (by decide), tl64 11 (by decide), tl32 12 (by decide), tl64 12 (by decide), tl32 45 (by decide), tl64 45 (by decide), tl32 9999 (by decide), tl64 9999 (by decide)] at hc11); (try simp only [lg_cmp_lt, lg_cmp_le, lg_cmp_gt, lg_cmp_ge, lg_cmp_eq] at f20_0); (try simp (disch := omega) only [ta_lt, ta_le, ta_eq, tb_lt, tb_le, tb_eq, tw, tnI, tsub1, tsv, tn32 1 (by decide), tnj 1 (by decide), tl32 0 (by decide), tl64 0 (by decide), tl32 1 (by decide), tl64 1 (by decide), tl32 2 (by decide), tl64 2 (by decide), tl32 3 (by decide), tl64 3 (by decide), tl32 4 (by decide), tl64 4 (by decide), tl32 9 (by decide), tl64 9 (by decide), tl32 10 (by decide), tl64 10 (by decide), tl32 11 (by decide), tl64 11 (by decide), tl32 12 (by decide), tl64 12 (by decide), tl32 45 (by decide), tl64 45 (by decide), tl32 9999 (by decide), tl64 9999 (by decide)] at f20_0); (try simp only [lg_cmp_lt, lg_cmp_le, lg_cmp_gt, lg_cmp_ge, lg_cmp_eq] at hc20); (try simp (disch := omega) only [ta_lt, ta_le, ta_eq, tb_lt, tb_le, tb_eq, tw, tnI, tsub1, tsv, tn32 1 (by decide), tnj 1 (by decide), tl32 0 (by decide), tl64 0 (by decide), tl32 1 (by decide), tl64 1 (by decide), tl32 2 (by decide), tl64 2 (by decide), tl32 3 (by decide), tl64 3 (by decide), tl32 4 (by decide), tl64 4 (by decide), tl32 9 (by decide), tl64 9 (by decide), tl32 10 (by decide), tl64 10 (by decide), tl32 11 (by decide), tl64 11 (by decide), tl32 12 (by decide), tl64 12 (by decide), tl32 45 (by decide), tl64 45 (by decide), tl32 9999 (by decide), tl64 9999 (by decide)] at hc20); (try simp only [lg_cmp_lt, lg_cmp_le, lg_cmp_gt, lg_cmp_ge, lg_cmp_eq] at c21); (try simp (disch := omega) only [ta_lt, ta_le, ta_eq, tb_lt, tb_le, tb_eq, tw, tnI, tsub1, tsv, tn32 1 (by decide), tnj 1 (by decide), tl32 0 (by decide), tl64 0 (by decide), tl32 1 (by decide), tl64 1 (by decide), tl32 2 (by decide), tl64 2 (by decide), tl32 3 (by decide), tl64 3 (by decide), tl32 4 (by decide), tl64 4 (by decide), tl32 9 (by decide), tl64 9 (by decide), tl32 10 (by decide), tl64 10 (by decide), tl32 11 (by decide), tl64 11 (by decide), tl32 12 (by decide), tl64 12 (by decide), tl32 45 (by decide), tl64 45 (by decide), tl32 9999 (by decide), tl64 9999 (by decide)] at c21); (try simp (disch := omega) only [ta_lt, ta_le, ta_eq, tb_lt, tb_le, tb_eq, tw, tnI, tsub1, tsv, tn32 1 (by decide), tnj 1 (by decide), tl32 0 (by decide), tl64 0 (by decide), tl32 1 (by decide), tl64 1 (by decide), tl32 2 (by decide), tl64 2 (by decide), tl32 3 (by decide), tl64 3 (by decide), tl32 4 (by decide), tl64 4 (by decide), tl32 9 (by decide), tl64 9 (by decide), tl32 10 (by decide), tl64 10 (by decide), tl32 11 (by decide), tl64 11 (by decide), tl32 12 (by decide), tl64 12 (by decide), tl32 45 (by decide), tl64 45 (by decide), tl32 9999 (by decide), tl64 9999 (by decide)]); omega) hte rfl hT fr.refl hw (lv_sub hl [1, 2, 3] rfl)
      · simp (disch := omega) only [ta_lt, ta_le, ta_eq, tnI, tl32 4 (by decide)] at c21
        refine lv_iload_n hx hb (dkP dF_29 DX12_readTest (i := 21) rfl rfl) rfl (lv_at hl 0 rfl) ?_
        refine lv_if_ne (tgt := 48) hx hb (dkS dF_154 DX12_readTest (i := 22) rfl rfl rfl) (by decide) (fun _ => ?_) (fun h => absurd h (by decide))
        refine lv_aload_n hx hb (dkP dF_42 DX12_readTest (i := 27) rfl rfl) rfl (lv_at hl 2 rfl) ?_
        refine lv_aload_n hx hb (dkP dF_42 DX12_readTest (i := 28) rfl rfl) rfl (lv_at hl 2 rfl) ?_
        refine z_gi C0 hw 0 10 rfl fl_X12_162 (dk2 dF_180 DX12_readTest (i := 29) rfl rfl rfl) ?_
        obtain ⟨v22, ev22⟩ : ∃ y : Int32, σ.1 0 10 = y := ⟨_, rfl⟩
        refine z_top (y := v22) ev22 ?_
        refine lv_iconst (v := 2) hx hb (dkP dF_5 DX12_readTest (i := 30) rfl rfl) (by decide) ?_
        refine lv_icmp_ne (tgt := 71) hx hb (dkS dF_160 DX12_readTest (i := 31) rfl rfl rfl) (by decide) (fun c23 => ?_) (fun c23 => ?_)
        · (try simp (disch := omega) only [ta_lt, ta_le, ta_eq, tnI, tl32 2 (by decide)] at c23)
          refine lv_iconst (v := 3) hx hb (dkP dF_6 DX12_readTest (i := 38) rfl rfl) (by decide) ?_
          refine zk_V hw (zr_V (As := [.int 3]) (rest := []) C0 (c_X12_wrong l G kc ad σ 3 (by decide) hT _) cv_X12_wrong lk_X12_214 (zp_V C0 hRo hw 0 rfl rfl rfl) rfl hl.1 rfl ⟨by decide, by decide⟩ (Nat.le_of_ble_eq_true rfl) (dk2 dF_182 DX12_readTest (i := 39) rfl rfl rfl) ⟨Nat.le_refl _, Nat.le_refl _⟩) (fun s24 H locs hp hw => ?_)
          obtain ⟨f24_0, hT24, hG24⟩ := hp
          have hF24 : fr true [6, 8, 9] [8, 9, 10, 11, 12, 13] σ s24 := fr.t fr.refl hG24 (by decide) (by decide) (by decide)
          exact jp1 s24 _ _ _ (fun _ => f24_0) ((congrFun (hG24.1 8 (by decide) (by decide)) _).trans hte) ((congrFun (hG24.1 8 (by decide) (by decide)) _).trans rfl) hT24 hF24 hw (lv_sub hl [1, 2, 3] rfl)
        · (try simp (disch := omega) only [ta_lt, ta_le, ta_eq, tnI, tl32 2 (by decide)] at c23)
          refine lv_aload_n hx hb (dkP dF_42 DX12_readTest (i := 32) rfl rfl) rfl (lv_at hl 2 rfl) ?_
          refine z_gi C0 hw 0 11 rfl fl_X12_173 (dk2 dF_180 DX12_readTest (i := 33) rfl rfl rfl) ?_
          obtain ⟨v25, ev25⟩ : ∃ y : Int32, σ.1 0 11 = y := ⟨_, rfl⟩
          refine z_top (y := v25) ev25 ?_
          refine lv_sipush (v := 9999) hx hb (dkS dF_17 DX12_readTest (i := 34) rfl rfl rfl) (by decide) ?_
          refine lv_icmp_le (tgt := 71) hx hb (dkS dF_164 DX12_readTest (i := 35) rfl rfl rfl) (by decide) (fun c26 => ?_) (fun c26 => ?_)
          · (try simp (disch := omega) only [ta_lt, ta_le, ta_eq, tnI, tl32 9999 (by decide)] at c26)
            refine lv_iconst (v := 3) hx hb (dkP dF_6 DX12_readTest (i := 38) rfl rfl) (by decide) ?_
            refine zk_V hw (zr_V (As := [.int 3]) (rest := []) C0 (c_X12_wrong l G kc ad σ 3 (by decide) hT _) cv_X12_wrong lk_X12_214 (zp_V C0 hRo hw 0 rfl rfl rfl) rfl hl.1 rfl ⟨by decide, by decide⟩ (Nat.le_of_ble_eq_true rfl) (dk2 dF_182 DX12_readTest (i := 39) rfl rfl rfl) ⟨Nat.le_refl _, Nat.le_refl _⟩) (fun s27 H locs hp hw => ?_)
            obtain ⟨f27_0, hT27, hG27⟩ := hp
            have hF27 : fr true [6, 8, 9] [8, 9, 10, 11, 12, 13] σ s27 := fr.t fr.refl hG27 (by decide) (by decide) (by decide)
            exact jp1 s27 _ _ _ (fun _ => f27_0) ((congrFun (hG27.1 8 (by decide) (by decide)) _).trans hte) ((congrFun (hG27.1 8 (by decide) (by decide)) _).trans rfl) hT27 hF27 hw (lv_sub hl [1, 2, 3] rfl)
          · (try simp (disch := omega) only [ta_lt, ta_le, ta_eq, tnI, tl32 9999 (by decide)] at c26)
            refine lv_iconst (v := 2) hx hb (dkP dF_5 DX12_readTest (i := 36) rfl rfl) (by decide) ?_
            refine lv_goto (tgt := 72) hx hb (dkS dF_167 DX12_readTest (i := 37) rfl rfl rfl) (by decide) ?_
            refine zk_V hw (zr_V (As := [.int 2]) (rest := []) C0 (c_X12_wrong l G kc ad σ 2 (by decide) hT _) cv_X12_wrong lk_X12_214 (zp_V C0 hRo hw 0 rfl rfl rfl) rfl hl.1 rfl ⟨by decide, by decide⟩ (Nat.le_of_ble_eq_true rfl) (dk2 dF_182 DX12_readTest (i := 39) rfl rfl rfl) ⟨Nat.le_refl _, Nat.le_refl _⟩) (fun s28 H locs hp hw => ?_)
            obtain ⟨f28_0, hT28, hG28⟩ := hp
            have hF28 : fr true [6, 8, 9] [8, 9, 10, 11, 12, 13] σ s28 := fr.t fr.refl hG28 (by decide) (by decide) (by decide)
            exact jp1 s28 _ _ _ (fun _ => f28_0) ((congrFun (hG28.1 8 (by decide) (by decide)) _).trans hte) ((congrFun (hG28.1 8 (by decide) (by decide)) _).trans rfl) hT28 hF28 hw (lv_sub hl [1, 2, 3] rfl)
    · skip
      refine lv_if_eq (tgt := 29) hx hb (dkS dF_153 DX12_readTest (i := 13) rfl rfl rfl) (by decide) (fun _ => ?_) (fun h => absurd h (by decide))
      refine lv_iconst (v := 0) hx hb (dkP dF_3 DX12_readTest (i := 16) rfl rfl) (by decide) ?_
      refine lv_istore_n (lv' := [(3, .int 0), (2, .int (nI t)), (0, .ref (ad 0)), (1, .int (nI cs))]) hx hb (dkP dF_62 DX12_readTest (i := 17) rfl rfl) rfl hl (by decide) rfl (fun ls hl => ?_)
      refine lv_iload_n hx hb (dkP dF_28 DX12_readTest (i := 18) rfl rfl) rfl (lv_at hl 1 rfl) ?_
      refine lv_iconst (v := 4) hx hb (dkP dF_7 DX12_readTest (i := 19) rfl rfl) (by decide) ?_
      refine lv_icmp_ne (tgt := 75) hx hb (dkS dF_160 DX12_readTest (i := 20) rfl rfl rfl) (by decide) (fun c29 => ?_) (fun c29 => ?_)
      · simp (disch := omega) only [ta_lt, ta_le, ta_eq, tnI, tl32 4 (by decide)] at c29
        exact jp1 σ _ _ _ (fun h => by exfalso; (try simp only [lg_cmp_lt, lg_cmp_le, lg_cmp_gt, lg_cmp_ge, lg_cmp_eq] at f11_0); (try simp (disch := omega) only [ta_lt, ta_le, ta_eq, tb_lt, tb_le, tb_eq, tw, tnI, tsub1, tsv, tn32 1 (by decide), tnj 1 (by decide), tl32 0 (by decide), tl64 0 (by decide), tl32 1 (by decide), tl64 1 (by decide), tl32 2 (by decide), tl64 2 (by decide), tl32 3 (by decide), tl64 3 (by decide), tl32 4 (by decide), tl64 4 (by decide), tl32 9 (by decide), tl64 9 (by decide), tl32 10 (by decide), tl64 10 (by decide), tl32 11 (by decide), tl64 11 (by decide), tl32 12 (by decide), tl64 12 (by decide), tl32 45 (by decide), tl64 45 (by decide), tl32 9999 (by decide), tl64 9999 (by decide)] at f11_0); (try simp only [lg_cmp_lt, lg_cmp_le, lg_cmp_gt, lg_cmp_ge, lg_cmp_eq] at hc11); (try simp (disch := omega) only [ta_lt, ta_le, ta_eq, tb_lt, tb_le, tb_eq, tw, tnI, tsub1, tsv, tn32 1 (by decide), tnj 1 (by decide), tl32 0 (by decide), tl64 0 (by decide), tl32 1 (by decide), tl64 1 (by decide), tl32 2 (by decide), tl64 2 (by decide), tl32 3 (by decide), tl64 3 (by decide), tl32 4 (by decide), tl64 4 (by decide), tl32 9 (by decide), tl64 9 (by decide), tl32 10 (by decide), tl64 10 (by decide), tl32 11 (by decide), tl64 11 (by decide), tl32 12 (by decide), tl64 12 (by decide), tl32 45 (by decide), tl64 45 (by decide), tl32 9999 (by decide), tl64 9999 (by decide)] at hc11); (try simp only [lg_cmp_lt, lg_cmp_le, lg_cmp_gt, lg_cmp_ge, lg_cmp_eq] at f20_0); (try simp (disch := omega) only [ta_lt, ta_le, ta_eq, tb_lt, tb_le, tb_eq, tw, tnI, tsub1, tsv, tn32 1 (by decide), tnj 1 (by decide), tl32 0 (by decide), tl64 0 (by decide), tl32 1 (by decide), tl64 1 (by decide), tl32 2 (by decide), tl64 2 (by decide), tl32 3 (by decide), tl64 3 (by decide), tl32 4 (by decide), tl64 4 (by decide), tl32 9 (by decide), tl64 9 (by decide), tl32 10 (by decide), tl64 10 (by decide), tl32 11 (by decide), tl64 11 (by decide), tl32 12 (by decide), tl64 12 (by decide), tl32 45 (by decide), tl64 45 (by decide), tl32 9999 (by decide), tl64 9999 (by decide)] at f20_0); (try simp only [lg_cmp_lt, lg_cmp_le, lg_cmp_gt, lg_cmp_ge, lg_cmp_eq] at hc20); (try simp (disch := omega) only [ta_lt, ta_le, ta_eq, tb_lt, tb_le, tb_eq, tw, tnI, tsub1, tsv, tn32 1 (by decide), tnj 1 (by decide), tl32 0 (by decide), tl64 0 (by decide), tl32 1 (by decide), tl64 1 (by decide), tl32 2 (by decide), tl64 2 (by decide), tl32 3 (by decide), tl64 3 (by decide), tl32 4 (by decide), tl64 4 (by decide), tl32 9 (by decide), tl64 9 (by decide), tl32 10 (by decide), tl64 10 (by decide), tl32 11 (by decide), tl64 11 (by decide), tl32 12 (by decide), tl64 12 (by decide), tl32 45 (by decide), tl64 45 (by decide), tl32 9999 (by decide), tl64 9999 (by decide)] at hc20); (try simp only [lg_cmp_lt, lg_cmp_le, lg_cmp_gt, lg_cmp_ge, lg_cmp_eq] at c29); (try simp (disch := omega) only [ta_lt, ta_le, ta_eq, tb_lt, tb_le, tb_eq, tw, tnI, tsub1, tsv, tn32 1 (by decide), tnj 1 (by decide), tl32 0 (by decide), tl64 0 (by decide), tl32 1 (by decide), tl64 1 (by decide), tl32 2 (by decide), tl64 2 (by decide), tl32 3 (by decide), tl64 3 (by decide), tl32 4 (by decide), tl64 4 (by decide), tl32 9 (by decide), tl64 9 (by decide), tl32 10 (by decide), tl64 10 (by decide), tl32 11 (by decide), tl64 11 (by decide), tl32 12 (by decide), tl64 12 (by decide), tl32 45 (by decide), tl64 45 (by decide), tl32 9999 (by decide), tl64 9999 (by decide)] at c29); (try simp (disch := omega) only [ta_lt, ta_le, ta_eq, tb_lt, tb_le, tb_eq, tw, tnI, tsub1, tsv, tn32 1 (by decide), tnj 1 (by decide), tl32 0 (by decide), tl64 0 (by decide), tl32 1 (by decide), tl64 1 (by decide), tl32 2 (by decide), tl64 2 (by decide), tl32 3 (by decide), tl64 3 (by decide), tl32 4 (by decide), tl64 4 (by decide), tl32 9 (by decide), tl64 9 (by decide), tl32 10 (by decide), tl64 10 (by decide), tl32 11 (by decide), tl64 11 (by decide), tl32 12 (by decide), tl64 12 (by decide), tl32 45 (by decide), tl64 45 (by decide), tl32 9999 (by decide), tl64 9999 (by decide)]); omega) hte rfl hT fr.refl hw (lv_sub hl [1, 2, 3] rfl)
      · simp (disch := omega) only [ta_lt, ta_le, ta_eq, tnI, tl32 4 (by decide)] at c29
        refine lv_iload_n hx hb (dkP dF_29 DX12_readTest (i := 21) rfl rfl) rfl (lv_at hl 0 rfl) ?_
        refine lv_if_ne (tgt := 48) hx hb (dkS dF_154 DX12_readTest (i := 22) rfl rfl rfl) (by decide) (fun h => absurd h (by decide)) (fun _ => ?_)
        refine lv_aload_n hx hb (dkP dF_42 DX12_readTest (i := 23) rfl rfl) rfl (lv_at hl 2 rfl) ?_
        refine lv_iconst (v := 1) hx hb (dkP dF_4 DX12_readTest (i := 24) rfl rfl) (by decide) ?_
        refine zk_V hw (zr_V (As := [.int 1]) (rest := []) C0 (c_X12_wrong l G kc ad σ 1 (by decide) hT _) cv_X12_wrong lk_X12_214 (zp_V C0 hRo hw 0 rfl rfl rfl) rfl hl.1 rfl ⟨by decide, by decide⟩ (Nat.le_of_ble_eq_true rfl) (dk2 dF_182 DX12_readTest (i := 25) rfl rfl rfl) ⟨Nat.le_refl _, Nat.le_refl _⟩) (fun s30 H locs hp hw => ?_)
        obtain ⟨f30_0, hT30, hG30⟩ := hp
        have hF30 : fr true [6, 8, 9] [8, 9, 10, 11, 12, 13] σ s30 := fr.t fr.refl hG30 (by decide) (by decide) (by decide)
        refine lv_goto (tgt := 75) hx hb (dkS dF_167 DX12_readTest (i := 26) rfl rfl rfl) (by decide) ?_
        exact jp1 s30 _ _ _ (fun _ => f30_0) ((congrFun (hG30.1 8 (by decide) (by decide)) _).trans hte) ((congrFun (hG30.1 8 (by decide) (by decide)) _).trans rfl) hT30 hF30 hw (lv_sub hl [1, 2, 3] rfl)
