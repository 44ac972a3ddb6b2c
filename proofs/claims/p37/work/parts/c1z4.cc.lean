set_option maxRecDepth 100000 in
set_option maxHeartbeats 8000000 in
theorem c_X6_has_w (l : Launch) (G : va_G) (kc : KC) (ad : Nat → Nat) (σ : Sg) (ri : Int32) (hT : TC σ) : MI l G kc yX6_has cX6_has 2 (some .boolean) 0 0 [.ref (ad 6), .int ri] shC ad σ (fun r σ1 => ((r = 1 ∧ (0 ≤ ri.toInt ∧ ri.toInt ≤ 19)) ∨ (r = 0 ∧ (ri.toInt < 0 ∨ 19 < ri.toInt))) ∧ σ1 = σ) := by
  intro sz
  refine z_body (y := yX6_has) (n := 2) (av := [.ref (ad 6), .int ri]) (Qc := fun A => va_Qi (fun r σ1 => ((r = 1 ∧ (0 ≤ ri.toInt ∧ ri.toInt ≤ 19)) ∨ (r = 0 ∧ (ri.toInt < 0 ∨ 19 < ri.toInt))) ∧ σ1 = σ) (PoC G kc shC ad A) A) (plainFor_of_name (by decide)) (Nat.le_of_ble_eq_true rfl) (fun pr e s m below meth c A C0 hr hlk hnm hw hRo ls hl => ?_) sz
  have hx := C0.1
  have hb := C0.2.1
  have hown := C0.2.2.2.1
  have hts := C0.2.2.2.2.1
  have hl : lv_has ls 2 [(0, .ref (ad 6)), (1, .int ri)] := hl
  refine lv_iload_n hx hb (dkP dF_27 DX6_has (i := 0) rfl rfl) rfl (lv_at hl 1 rfl) ?_
  refine lv_if_lt (tgt := 14) hx hb (dkS dF_155 DX6_has (i := 1) rfl rfl rfl) (by decide) (fun c1 => ?_) (fun c1 => ?_)
  · (try simp (disch := omega) only [ta_lt, ta_le, ta_eq, tnI, tl32 0 (by decide)] at c1)
    refine lv_iconst (v := 0) hx hb (dkP dF_3 DX6_has (i := 7) rfl rfl) (by decide) ?_
    exact z_zret C0 hr hlk (by decide) hw (⟨(Or.inr ⟨rfl, (by (try simp only [lg_cmp_lt, lg_cmp_le, lg_cmp_gt, lg_cmp_ge, lg_cmp_eq] at c1); (try simp (disch := omega) only [ta_lt, ta_le, ta_eq, tb_lt, tb_le, tb_eq, tw, tnI, tsub1, tsv, tsb32, tn32 1 (by decide), tnj 1 (by decide), tl32 0 (by decide), tl64 0 (by decide)] at c1); (try simp (disch := omega) only [ta_lt, ta_le, ta_eq, tb_lt, tb_le, tb_eq, tw, tnI, tsub1, tsv, tsb32, tn32 1 (by decide), tnj 1 (by decide), tl32 0 (by decide), tl64 0 (by decide)]); omega)⟩), rfl⟩) (dkP dF_172 DX6_has (i := 8) rfl rfl)
  · (try simp (disch := omega) only [ta_lt, ta_le, ta_eq, tnI, tl32 0 (by decide)] at c1)
    refine lv_iload_n hx hb (dkP dF_27 DX6_has (i := 2) rfl rfl) rfl (lv_at hl 1 rfl) ?_
    refine lv_bipush (v := 20) hx hb (dks dF_16 DX6_has (i := 3) rfl rfl rfl) (by decide) ?_
    refine lv_icmp_ge (tgt := 14) hx hb (dkS dF_162 DX6_has (i := 4) rfl rfl rfl) (by decide) (fun c2 => ?_) (fun c2 => ?_)
    · (try simp (disch := omega) only [ta_lt, ta_le, ta_eq, tnI, tl32 20 (by decide)] at c2)
      refine lv_iconst (v := 0) hx hb (dkP dF_3 DX6_has (i := 7) rfl rfl) (by decide) ?_
      exact z_zret C0 hr hlk (by decide) hw (⟨(Or.inr ⟨rfl, (by (try simp only [lg_cmp_lt, lg_cmp_le, lg_cmp_gt, lg_cmp_ge, lg_cmp_eq] at c1); (try simp (disch := omega) only [ta_lt, ta_le, ta_eq, tb_lt, tb_le, tb_eq, tw, tnI, tsub1, tsv, tsb32, tn32 1 (by decide), tnj 1 (by decide), tl32 0 (by decide), tl64 0 (by decide), tl32 20 (by decide), tl64 20 (by decide)] at c1); (try simp only [lg_cmp_lt, lg_cmp_le, lg_cmp_gt, lg_cmp_ge, lg_cmp_eq] at c2); (try simp (disch := omega) only [ta_lt, ta_le, ta_eq, tb_lt, tb_le, tb_eq, tw, tnI, tsub1, tsv, tsb32, tn32 1 (by decide), tnj 1 (by decide), tl32 0 (by decide), tl64 0 (by decide), tl32 20 (by decide), tl64 20 (by decide)] at c2); (try simp (disch := omega) only [ta_lt, ta_le, ta_eq, tb_lt, tb_le, tb_eq, tw, tnI, tsub1, tsv, tsb32, tn32 1 (by decide), tnj 1 (by decide), tl32 0 (by decide), tl64 0 (by decide), tl32 20 (by decide), tl64 20 (by decide)]); omega)⟩), rfl⟩) (dkP dF_172 DX6_has (i := 8) rfl rfl)
    · (try simp (disch := omega) only [ta_lt, ta_le, ta_eq, tnI, tl32 20 (by decide)] at c2)
      refine lv_iconst (v := 1) hx hb (dkP dF_4 DX6_has (i := 5) rfl rfl) (by decide) ?_
      refine lv_goto (tgt := 15) hx hb (dkS dF_167 DX6_has (i := 6) rfl rfl rfl) (by decide) ?_
      exact z_zret C0 hr hlk (by decide) hw (⟨(Or.inl ⟨rfl, (by (try simp only [lg_cmp_lt, lg_cmp_le, lg_cmp_gt, lg_cmp_ge, lg_cmp_eq] at c1); (try simp (disch := omega) only [ta_lt, ta_le, ta_eq, tb_lt, tb_le, tb_eq, tw, tnI, tsub1, tsv, tsb32, tn32 1 (by decide), tnj 1 (by decide), tl32 0 (by decide), tl64 0 (by decide), tl32 1 (by decide), tl64 1 (by decide), tl32 20 (by decide), tl64 20 (by decide)] at c1); (try simp only [lg_cmp_lt, lg_cmp_le, lg_cmp_gt, lg_cmp_ge, lg_cmp_eq] at c2); (try simp (disch := omega) only [ta_lt, ta_le, ta_eq, tb_lt, tb_le, tb_eq, tw, tnI, tsub1, tsv, tsb32, tn32 1 (by decide), tnj 1 (by decide), tl32 0 (by decide), tl64 0 (by decide), tl32 1 (by decide), tl64 1 (by decide), tl32 20 (by decide), tl64 20 (by decide)] at c2); (try simp (disch := omega) only [ta_lt, ta_le, ta_eq, tb_lt, tb_le, tb_eq, tw, tnI, tsub1, tsv, tsb32, tn32 1 (by decide), tnj 1 (by decide), tl32 0 (by decide), tl64 0 (by decide), tl32 1 (by decide), tl64 1 (by decide), tl32 20 (by decide), tl64 20 (by decide)]); omega)⟩), rfl⟩) (dkP dF_172 DX6_has (i := 8) rfl rfl)
set_option maxRecDepth 100000 in
set_option maxHeartbeats 8000000 in
theorem c_X6_leadOver_w (l : Launch) (G : va_G) (kc : KC) (ad : Nat → Nat) (σ : Sg) (ri : Nat) (hri : ri < 20) (hT : TC σ) : MI l G kc yX6_leadOver cX6_leadOver 4 (some .int) 1 22 [.ref (ad 6), .int (nI ri)] shC ad σ (fun r σ1 => (∀ j, σ1.1 7 j = LDF (σ.1 6 1) (σ.1 6 2) (σ.1 7) (5 * ri) j) ∧ (r = LDR (σ.1 7) (σ1.1 7) (5 * ri)) ∧ TC σ1 ∧ frC (fun x y => (x = 7)) σ σ1) := by
  intro sz
  refine z_body (y := yX6_leadOver) (n := 4) (av := [.ref (ad 6), .int (nI ri)]) (Qc := fun A => va_Qi (fun r σ1 => (∀ j, σ1.1 7 j = LDF (σ.1 6 1) (σ.1 6 2) (σ.1 7) (5 * ri) j) ∧ (r = LDR (σ.1 7) (σ1.1 7) (5 * ri)) ∧ TC σ1 ∧ frC (fun x y => (x = 7)) σ σ1) (PoC G kc shC ad A) A) (plainFor_of_name (by decide)) (Nat.le_of_ble_eq_true rfl) (fun pr e s m below meth c A C0 hr hlk hnm hw hRo ls hl => ?_) sz
  have hx := C0.1
  have hb := C0.2.1
  have hown := C0.2.2.2.1
  have hts := C0.2.2.2.2.1
  have hl : lv_has ls 4 [(0, .ref (ad 6)), (1, .int (nI ri))] := hl
  obtain ⟨w0, e0⟩ : ∃ y : Int32, σ.1 7 (ri * 5) = y := ⟨_, rfl⟩
  obtain ⟨w1, e1⟩ : ∃ y : Int32, σ.1 7 (ri * 5 + 1) = y := ⟨_, rfl⟩
  obtain ⟨w2, e2⟩ : ∃ y : Int32, σ.1 7 (ri * 5 + 2) = y := ⟨_, rfl⟩
  obtain ⟨wc, ec⟩ : ∃ y : Int32, σ.1 6 2 = y := ⟨_, rfl⟩
  obtain ⟨mn, hm0, hm9, em⟩ := rngP (x := σ.1 6 1) (l := 1) (h := 9) (by decide) (tcr_16_1 hT tcl_6)
  refine lv_iload_n hx hb (dkP dF_27 DX6_leadOver (i := 0) rfl rfl) rfl (lv_at hl 1 rfl) ?_
  refine lv_iconst (v := 5) hx hb (dkP dF_8 DX6_leadOver (i := 1) rfl rfl) (by decide) ?_
  refine lv_imul hx hb (dkP dF_104 DX6_leadOver (i := 2) rfl rfl) ?_
  refine z_top (y := nI (ri * 5)) (by simp only [fa_lit, nI_add, pk_mul]) ?_
  refine lv_istore_n (lv' := [(2, .int (nI (ri * 5))), (0, .ref (ad 6)), (1, .int (nI ri))]) hx hb (dkP dF_61 DX6_leadOver (i := 3) rfl rfl) rfl hl (by decide) rfl (fun ls hl => ?_)
  refine lv_aload_n hx hb (dkP dF_42 DX6_leadOver (i := 4) rfl rfl) rfl (lv_at hl 1 rfl) ?_
  refine z_gr C0 hw 6 0 7 (fk_of shc_6 rfl) fl_X6_11 (dk2 dF_180 DX6_leadOver (i := 5) rfl rfl rfl) ?_
  refine lv_iload_n hx hb (dkP dF_28 DX6_leadOver (i := 6) rfl rfl) rfl (lv_at hl 0 rfl) ?_
  refine lv_iconst (v := 3) hx hb (dkP dF_6 DX6_leadOver (i := 7) rfl rfl) (by decide) ?_
  refine lv_iadd hx hb (dkP dF_96 DX6_leadOver (i := 8) rfl rfl) ?_
  refine z_top (y := nI ((ri * 5) + 3)) (by simp only [fa_lit, nI_add, pk_mul]) ?_
  refine lv_iconst (v := 0) hx hb (dkP dF_3 DX6_leadOver (i := 9) rfl rfl) (by decide) ?_
  refine z_iastN (n := 100) C0 hw 7 ((ri * 5) + 3) (ak_of shc_7) (by omega) (by decide) (dkP dF_79 DX6_leadOver (i := 10) rfl rfl) (fun H locs hw => ?_)
  have hT1 : TC (sI σ 7 ((ri * 5) + 3) 0) := TC.w hT (tc0 tcl_7)
  have hF1 : frC (fun x y => (x = 7)) σ (sI σ 7 ((ri * 5) + 3) 0) := frC.w frC.refl (by show (7 = 7); exact rfl)
  refine lv_aload_n hx hb (dkP dF_42 DX6_leadOver (i := 11) rfl rfl) rfl (lv_at hl 1 rfl) ?_
  refine z_gr C0 hw 6 0 7 (fk_of shc_6 rfl) fl_X6_11 (dk2 dF_180 DX6_leadOver (i := 12) rfl rfl rfl) ?_
  refine lv_iload_n hx hb (dkP dF_28 DX6_leadOver (i := 13) rfl rfl) rfl (lv_at hl 0 rfl) ?_
  refine lv_iconst (v := 2) hx hb (dkP dF_5 DX6_leadOver (i := 14) rfl rfl) (by decide) ?_
  refine lv_iadd hx hb (dkP dF_96 DX6_leadOver (i := 15) rfl rfl) ?_
  refine z_top (y := nI ((ri * 5) + 2)) (by simp only [fa_lit, nI_add, pk_mul]) ?_
  refine z_ialdN (n := 100) C0 hw 7 ((ri * 5) + 2) (ak_of shc_7) (by omega) (by decide) (dkP dF_46 DX6_leadOver (i := 16) rfl rfl) ?_
  refine z_top (y := w2) ((rd_n (by omega)).trans e2) ?_
  refine lv_if_ne (tgt := 66) hx hb (dkS dF_154 DX6_leadOver (i := 17) rfl rfl rfl) (by decide) (fun c2 => ?_) (fun c2 => ?_)
  · skip
    refine lv_aload_n hx hb (dkP dF_42 DX6_leadOver (i := 48) rfl rfl) rfl (lv_at hl 1 rfl) ?_
    refine z_gr C0 hw 6 0 7 (fk_of shc_6 rfl) fl_X6_11 (dk2 dF_180 DX6_leadOver (i := 49) rfl rfl rfl) ?_
    refine lv_iload_n hx hb (dkP dF_28 DX6_leadOver (i := 50) rfl rfl) rfl (lv_at hl 0 rfl) ?_
    refine lv_iconst (v := 1) hx hb (dkP dF_4 DX6_leadOver (i := 51) rfl rfl) (by decide) ?_
    refine lv_iadd hx hb (dkP dF_96 DX6_leadOver (i := 52) rfl rfl) ?_
    refine z_top (y := nI ((ri * 5) + 1)) (by simp only [fa_lit, nI_add, pk_mul]) ?_
    refine z_ialdN (n := 100) C0 hw 7 ((ri * 5) + 1) (ak_of shc_7) (by omega) (by decide) (dkP dF_46 DX6_leadOver (i := 53) rfl rfl) ?_
    refine z_top (y := w1) ((rd_n (by omega)).trans e1) ?_
    refine lv_aload_n hx hb (dkP dF_42 DX6_leadOver (i := 54) rfl rfl) rfl (lv_at hl 1 rfl) ?_
    refine z_gi C0 hw 6 2 (fk_of shc_6 rfl) fl_X6_25 (dk2 dF_180 DX6_leadOver (i := 55) rfl rfl rfl) ?_
    refine z_top (y := wc) ((rd_n (by omega)).trans ec) ?_
    refine lv_isub hx hb (dkP dF_100 DX6_leadOver (i := 56) rfl rfl) ?_
    refine lv_istore_n (lv' := [(3, .int (w1 - wc)), (2, .int (nI (ri * 5))), (0, .ref (ad 6)), (1, .int (nI ri))]) hx hb (dkP dF_62 DX6_leadOver (i := 57) rfl rfl) rfl hl (by decide) rfl (fun ls hl => ?_)
    refine lv_aload_n hx hb (dkP dF_42 DX6_leadOver (i := 58) rfl rfl) rfl (lv_at hl 2 rfl) ?_
    refine z_gr C0 hw 6 0 7 (fk_of shc_6 rfl) fl_X6_11 (dk2 dF_180 DX6_leadOver (i := 59) rfl rfl rfl) ?_
    refine lv_iload_n hx hb (dkP dF_28 DX6_leadOver (i := 60) rfl rfl) rfl (lv_at hl 1 rfl) ?_
    refine lv_iconst (v := 4) hx hb (dkP dF_7 DX6_leadOver (i := 61) rfl rfl) (by decide) ?_
    refine lv_iadd hx hb (dkP dF_96 DX6_leadOver (i := 62) rfl rfl) ?_
    refine z_top (y := nI ((ri * 5) + 4)) (by simp only [fa_lit, nI_add, pk_mul]) ?_
    refine lv_iload_n hx hb (dkP dF_29 DX6_leadOver (i := 63) rfl rfl) rfl (lv_at hl 0 rfl) ?_
    refine lv_aload_n hx hb (dkP dF_42 DX6_leadOver (i := 64) rfl rfl) rfl (lv_at hl 2 rfl) ?_
    refine z_gi C0 hw 6 1 (fk_of shc_6 rfl) fl_X6_15 (dk2 dF_180 DX6_leadOver (i := 65) rfl rfl rfl) ?_
    refine z_top (y := (nI mn)) ((rd_n (by omega)).trans em) ?_
    refine zn_I hw (zr_S (As := [.int (w1 - wc), .int (nI mn)]) (rest := [.int (nI ((ri * 5) + 4)), .ref (ad 7)]) C0 (c_J9_floorMod_7cf53_f l G kc (w1 - wc) (nI mn) (nI_ne (by omega) (by omega)) _) cs_J9_floorMod_7cf53 lk_X6_32 (zp_P C0 hRo hw a00 s00) rfl hl.1 rfl ⟨by decide, by decide⟩ (Nat.le_of_ble_eq_true rfl) (dk2 dF_184 DX6_leadOver (i := 66) rfl rfl rfl) ⟨Nat.le_refl _, Nat.le_refl _⟩) (fun r3 s3 H locs hp hw => ?_)
    subst hp
    refine z_iastN (n := 100) C0 hw 7 ((ri * 5) + 4) (ak_of shc_7) (by omega) (by decide) (dkP dF_79 DX6_leadOver (i := 67) rfl rfl) (fun H locs hw => ?_)
    have hT4 : TC (sI (sI σ 7 ((ri * 5) + 3) 0) 7 ((ri * 5) + 4) (flM (w1 - wc) (nI mn))) := TC.w hT1 (tc0 tcl_7)
    have hF4 : frC (fun x y => (x = 7)) σ (sI (sI σ 7 ((ri * 5) + 3) 0) 7 ((ri * 5) + 4) (flM (w1 - wc) (nI mn))) := frC.w hF1 (by show (7 = 7); exact rfl)
    refine lv_aload_n hx hb (dkP dF_42 DX6_leadOver (i := 68) rfl rfl) rfl (lv_at hl 2 rfl) ?_
    refine z_gr C0 hw 6 0 7 (fk_of shc_6 rfl) fl_X6_11 (dk2 dF_180 DX6_leadOver (i := 69) rfl rfl rfl) ?_
    refine lv_iload_n hx hb (dkP dF_28 DX6_leadOver (i := 70) rfl rfl) rfl (lv_at hl 1 rfl) ?_
    refine lv_iload_n hx hb (dkP dF_29 DX6_leadOver (i := 71) rfl rfl) rfl (lv_at hl 0 rfl) ?_
    refine lv_aload_n hx hb (dkP dF_42 DX6_leadOver (i := 72) rfl rfl) rfl (lv_at hl 2 rfl) ?_
    refine z_gi C0 hw 6 1 (fk_of shc_6 rfl) fl_X6_15 (dk2 dF_180 DX6_leadOver (i := 73) rfl rfl rfl) ?_
    refine z_top (y := (nI mn)) ((rd_n (by omega)).trans ((rd_n (by omega)).trans em)) ?_
    refine zn_I hw (zr_S (As := [.int (w1 - wc), .int (nI mn)]) (rest := [.int (nI (ri * 5)), .ref (ad 7)]) C0 (c_J9_floorDiv_7cf53_f l G kc (w1 - wc) (nI mn) (nI_ne (by omega) (by omega)) _) cs_J9_floorDiv_7cf53 lk_X6_38 (zp_P C0 hRo hw a00 s00) rfl hl.1 rfl ⟨by decide, by decide⟩ (Nat.le_of_ble_eq_true rfl) (dk2 dF_184 DX6_leadOver (i := 74) rfl rfl rfl) ⟨Nat.le_refl _, Nat.le_refl _⟩) (fun r5 s5 H locs hp hw => ?_)
    subst hp
    refine z_iastN (n := 100) C0 hw 7 (ri * 5) (ak_of shc_7) (by omega) (by decide) (dkP dF_79 DX6_leadOver (i := 75) rfl rfl) (fun H locs hw => ?_)
    have hT6 : TC (sI (sI (sI σ 7 ((ri * 5) + 3) 0) 7 ((ri * 5) + 4) (flM (w1 - wc) (nI mn))) 7 (ri * 5) (flD (w1 - wc) (nI mn))) := TC.w hT4 (tc0 tcl_7)
    have hF6 : frC (fun x y => (x = 7)) σ (sI (sI (sI σ 7 ((ri * 5) + 3) 0) 7 ((ri * 5) + 4) (flM (w1 - wc) (nI mn))) 7 (ri * 5) (flD (w1 - wc) (nI mn))) := frC.w hF4 (by show (7 = 7); exact rfl)
    refine lv_aload_n hx hb (dkP dF_42 DX6_leadOver (i := 76) rfl rfl) rfl (lv_at hl 2 rfl) ?_
    refine z_gr C0 hw 6 0 7 (fk_of shc_6 rfl) fl_X6_11 (dk2 dF_180 DX6_leadOver (i := 77) rfl rfl rfl) ?_
    refine lv_iload_n hx hb (dkP dF_28 DX6_leadOver (i := 78) rfl rfl) rfl (lv_at hl 1 rfl) ?_
    refine z_ialdN (n := 100) C0 hw 7 (ri * 5) (ak_of shc_7) (by omega) (by decide) (dkP dF_46 DX6_leadOver (i := 79) rfl rfl) ?_
    obtain ⟨v7, ev7⟩ : ∃ y : Int32, (sI (sI (sI σ 7 ((ri * 5) + 3) 0) 7 ((ri * 5) + 4) (flM (w1 - wc) (nI mn))) 7 (ri * 5) (flD (w1 - wc) (nI mn))).1 7 (ri * 5) = y := ⟨_, rfl⟩
    refine z_top (y := v7) ev7 ?_
    exact z_iret C0 hr hlk hw (⟨(by rw [Nat.mul_comm 5 ri]; exact LDF_b (f := σ.1 7) (g := (sI (sI (sI σ 7 ((ri * 5) + 3) 0) 7 ((ri * 5) + 4) (flM (w1 - wc) (nI mn))) 7 (ri * 5) (flD (w1 - wc) (nI mn))).1 7) (b := ri * 5) (fun z => c2 (e2.symm.trans z)) (by rw [em, e1, ec]; exact rd_s) ((rd_n (by omega)).trans ((rd_n (by omega)).trans rd_s)) (by rw [em, e1, ec]; exact ((rd_n (by omega)).trans rd_s)) (fun j h1 h3 h4 => ((rd_n (by omega)).trans ((rd_n (by omega)).trans ((rd_n (by omega)).trans rfl))))), (by rw [Nat.mul_comm 5 ri]; exact LDR_b (f := σ.1 7) (g := (sI (sI (sI σ 7 ((ri * 5) + 3) 0) 7 ((ri * 5) + 4) (flM (w1 - wc) (nI mn))) 7 (ri * 5) (flD (w1 - wc) (nI mn))).1 7) (b := ri * 5) (fun z => c2 (e2.symm.trans z)) ev7), hT6, hF6⟩) (dkP dF_172 DX6_leadOver (i := 80) rfl rfl)
  · skip
    refine lv_aload_n hx hb (dkP dF_42 DX6_leadOver (i := 18) rfl rfl) rfl (lv_at hl 1 rfl) ?_
    refine z_gr C0 hw 6 0 7 (fk_of shc_6 rfl) fl_X6_11 (dk2 dF_180 DX6_leadOver (i := 19) rfl rfl rfl) ?_
    refine lv_iload_n hx hb (dkP dF_28 DX6_leadOver (i := 20) rfl rfl) rfl (lv_at hl 0 rfl) ?_
    refine lv_iconst (v := 4) hx hb (dkP dF_7 DX6_leadOver (i := 21) rfl rfl) (by decide) ?_
    refine lv_iadd hx hb (dkP dF_96 DX6_leadOver (i := 22) rfl rfl) ?_
    refine z_top (y := nI ((ri * 5) + 4)) (by simp only [fa_lit, nI_add, pk_mul]) ?_
    refine lv_iconst (v := 0) hx hb (dkP dF_3 DX6_leadOver (i := 23) rfl rfl) (by decide) ?_
    refine z_iastN (n := 100) C0 hw 7 ((ri * 5) + 4) (ak_of shc_7) (by omega) (by decide) (dkP dF_79 DX6_leadOver (i := 24) rfl rfl) (fun H locs hw => ?_)
    have hT8 : TC (sI (sI σ 7 ((ri * 5) + 3) 0) 7 ((ri * 5) + 4) 0) := TC.w hT1 (tc0 tcl_7)
    have hF8 : frC (fun x y => (x = 7)) σ (sI (sI σ 7 ((ri * 5) + 3) 0) 7 ((ri * 5) + 4) 0) := frC.w hF1 (by show (7 = 7); exact rfl)
    refine lv_aload_n hx hb (dkP dF_42 DX6_leadOver (i := 25) rfl rfl) rfl (lv_at hl 1 rfl) ?_
    refine z_gr C0 hw 6 0 7 (fk_of shc_6 rfl) fl_X6_11 (dk2 dF_180 DX6_leadOver (i := 26) rfl rfl rfl) ?_
    refine lv_iload_n hx hb (dkP dF_28 DX6_leadOver (i := 27) rfl rfl) rfl (lv_at hl 0 rfl) ?_
    refine lv_iconst (v := 1) hx hb (dkP dF_4 DX6_leadOver (i := 28) rfl rfl) (by decide) ?_
    refine lv_iadd hx hb (dkP dF_96 DX6_leadOver (i := 29) rfl rfl) ?_
    refine z_top (y := nI ((ri * 5) + 1)) (by simp only [fa_lit, nI_add, pk_mul]) ?_
    refine lv_aload_n hx hb (dkP dF_42 DX6_leadOver (i := 30) rfl rfl) rfl (lv_at hl 1 rfl) ?_
    refine z_gi C0 hw 6 1 (fk_of shc_6 rfl) fl_X6_15 (dk2 dF_180 DX6_leadOver (i := 31) rfl rfl rfl) ?_
    refine z_top (y := (nI mn)) ((rd_n (by omega)).trans ((rd_n (by omega)).trans em)) ?_
    refine lv_aload_n hx hb (dkP dF_42 DX6_leadOver (i := 32) rfl rfl) rfl (lv_at hl 1 rfl) ?_
    refine z_gr C0 hw 6 0 7 (fk_of shc_6 rfl) fl_X6_11 (dk2 dF_180 DX6_leadOver (i := 33) rfl rfl rfl) ?_
    refine lv_iload_n hx hb (dkP dF_28 DX6_leadOver (i := 34) rfl rfl) rfl (lv_at hl 0 rfl) ?_
    refine z_ialdN (n := 100) C0 hw 7 (ri * 5) (ak_of shc_7) (by omega) (by decide) (dkP dF_46 DX6_leadOver (i := 35) rfl rfl) ?_
    refine z_top (y := w0) ((rd_n (by omega)).trans ((rd_n (by omega)).trans e0)) ?_
    refine lv_imul hx hb (dkP dF_104 DX6_leadOver (i := 36) rfl rfl) ?_
    refine lv_aload_n hx hb (dkP dF_42 DX6_leadOver (i := 37) rfl rfl) rfl (lv_at hl 1 rfl) ?_
    refine z_gi C0 hw 6 2 (fk_of shc_6 rfl) fl_X6_25 (dk2 dF_180 DX6_leadOver (i := 38) rfl rfl rfl) ?_
    refine z_top (y := wc) ((rd_n (by omega)).trans ((rd_n (by omega)).trans ec)) ?_
    refine lv_iadd hx hb (dkP dF_96 DX6_leadOver (i := 39) rfl rfl) ?_
    refine z_iastN (n := 100) C0 hw 7 ((ri * 5) + 1) (ak_of shc_7) (by omega) (by decide) (dkP dF_79 DX6_leadOver (i := 40) rfl rfl) (fun H locs hw => ?_)
    have hT9 : TC (sI (sI (sI σ 7 ((ri * 5) + 3) 0) 7 ((ri * 5) + 4) 0) 7 ((ri * 5) + 1) (((nI mn) * w0) + wc)) := TC.w hT8 (tc0 tcl_7)
    have hF9 : frC (fun x y => (x = 7)) σ (sI (sI (sI σ 7 ((ri * 5) + 3) 0) 7 ((ri * 5) + 4) 0) 7 ((ri * 5) + 1) (((nI mn) * w0) + wc)) := frC.w hF8 (by show (7 = 7); exact rfl)
    refine lv_aload_n hx hb (dkP dF_42 DX6_leadOver (i := 41) rfl rfl) rfl (lv_at hl 1 rfl) ?_
    refine z_gr C0 hw 6 0 7 (fk_of shc_6 rfl) fl_X6_11 (dk2 dF_180 DX6_leadOver (i := 42) rfl rfl rfl) ?_
    refine lv_iload_n hx hb (dkP dF_28 DX6_leadOver (i := 43) rfl rfl) rfl (lv_at hl 0 rfl) ?_
    refine lv_iconst (v := 1) hx hb (dkP dF_4 DX6_leadOver (i := 44) rfl rfl) (by decide) ?_
    refine lv_iadd hx hb (dkP dF_96 DX6_leadOver (i := 45) rfl rfl) ?_
    refine z_top (y := nI ((ri * 5) + 1)) (by simp only [fa_lit, nI_add, pk_mul]) ?_
    refine z_ialdN (n := 100) C0 hw 7 ((ri * 5) + 1) (ak_of shc_7) (by omega) (by decide) (dkP dF_46 DX6_leadOver (i := 46) rfl rfl) ?_
    obtain ⟨v10, ev10⟩ : ∃ y : Int32, (sI (sI (sI σ 7 ((ri * 5) + 3) 0) 7 ((ri * 5) + 4) 0) 7 ((ri * 5) + 1) (((nI mn) * w0) + wc)).1 7 ((ri * 5) + 1) = y := ⟨_, rfl⟩
    refine z_top (y := v10) ev10 ?_
    exact z_iret C0 hr hlk hw (⟨(by rw [Nat.mul_comm 5 ri]; exact LDF_a (f := σ.1 7) (g := (sI (sI (sI σ 7 ((ri * 5) + 3) 0) 7 ((ri * 5) + 4) 0) 7 ((ri * 5) + 1) (((nI mn) * w0) + wc)).1 7) (b := ri * 5) (e2.trans (by first | exact c2 | exact Decidable.not_not.mp c2)) (by rw [em, e0, ec]; exact rd_s) ((rd_n (by omega)).trans ((rd_n (by omega)).trans rd_s)) ((rd_n (by omega)).trans rd_s) (fun j h1 h3 h4 => ((rd_n (by omega)).trans ((rd_n (by omega)).trans ((rd_n (by omega)).trans rfl))))), (by rw [Nat.mul_comm 5 ri]; exact LDR_a (f := σ.1 7) (g := (sI (sI (sI σ 7 ((ri * 5) + 3) 0) 7 ((ri * 5) + 4) 0) 7 ((ri * 5) + 1) (((nI mn) * w0) + wc)).1 7) (b := ri * 5) (e2.trans (by first | exact c2 | exact Decidable.not_not.mp c2)) ev10), hT9, hF9⟩) (dkP dF_172 DX6_leadOver (i := 47) rfl rfl)
set_option maxRecDepth 100000 in
set_option maxHeartbeats 8000000 in
theorem c_X6_reform_w (l : Launch) (G : va_G) (kc : KC) (ad : Nat → Nat) (σ : Sg) (mm : Int32) (kk : Int32) (hmm : 1 ≤ mm.toInt ∧ mm.toInt ≤ 9) (hT : TC σ) : MV l G kc yX6_reform cX6_reform 4 2 45 [.ref (ad 6), .int mm, .int kk] shC ad σ (fun σ1 => (σ1.1 6 1 = mm) ∧ (σ1.1 6 2 = kk) ∧ (∀ j, σ1.1 7 j = LDN mm kk (σ.1 7) 20 j) ∧ TC σ1 ∧ frC (fun x y => (x = 6 ∧ y = 1) ∨ (x = 6 ∧ y = 2) ∨ (x = 7)) σ σ1) := by
  intro sz
  refine z_body (y := yX6_reform) (n := 4) (av := [.ref (ad 6), .int mm, .int kk]) (Qc := fun A => va_Qv (fun σ1 => (σ1.1 6 1 = mm) ∧ (σ1.1 6 2 = kk) ∧ (∀ j, σ1.1 7 j = LDN mm kk (σ.1 7) 20 j) ∧ TC σ1 ∧ frC (fun x y => (x = 6 ∧ y = 1) ∨ (x = 6 ∧ y = 2) ∨ (x = 7)) σ σ1) (PoC G kc shC ad A) A) (plainFor_of_name (by decide)) (Nat.le_of_ble_eq_true rfl) (fun pr e s m below meth c A C0 hr hlk hnm hw hRo ls hl => ?_) sz
  have hx := C0.1
  have hb := C0.2.1
  have hown := C0.2.2.2.1
  have hts := C0.2.2.2.2.1
  have hl : lv_has ls 4 [(0, .ref (ad 6)), (1, .int mm), (2, .int kk)] := hl
  refine lv_aload_n hx hb (dkP dF_42 DX6_reform (i := 0) rfl rfl) rfl (lv_at hl 0 rfl) ?_
  refine lv_iload_n hx hb (dkP dF_27 DX6_reform (i := 1) rfl rfl) rfl (lv_at hl 1 rfl) ?_
  refine z_pi C0 hw 6 1 (fk_of shc_6 rfl) fp_X6_15 (dk2 dF_181 DX6_reform (i := 2) rfl rfl rfl) (fun H locs hw => ?_)
  have hT1 : TC (sI σ 6 1 mm) := TC.w hT (tcw_16_1 tcl_6 (by (try simp (disch := omega) only [ta_lt, ta_le, ta_eq, tb_lt, tb_le, tb_eq, tw, tnI, tsub1, tsv, tsb32, tn32 1 (by decide), tnj 1 (by decide), tl32 0 (by decide), tl64 0 (by decide)]); omega))
  have hF1 : frC (fun x y => (x = 6 ∧ y = 1) ∨ (x = 6 ∧ y = 2) ∨ (x = 7)) σ (sI σ 6 1 mm) := frC.w frC.refl (by show (6 = 6 ∧ 1 = 1) ∨ (6 = 6 ∧ 1 = 2) ∨ (6 = 7); exact Or.inl (⟨rfl, rfl⟩))
  refine lv_aload_n hx hb (dkP dF_42 DX6_reform (i := 3) rfl rfl) rfl (lv_at hl 0 rfl) ?_
  refine lv_iload_n hx hb (dkP dF_28 DX6_reform (i := 4) rfl rfl) rfl (lv_at hl 2 rfl) ?_
  refine z_pi C0 hw 6 2 (fk_of shc_6 rfl) fp_X6_25 (dk2 dF_181 DX6_reform (i := 5) rfl rfl rfl) (fun H locs hw => ?_)
  have hT2 : TC (sI (sI σ 6 1 mm) 6 2 kk) := TC.w hT1 (tcw_16_2 tcl_6)
  have hF2 : frC (fun x y => (x = 6 ∧ y = 1) ∨ (x = 6 ∧ y = 2) ∨ (x = 7)) σ (sI (sI σ 6 1 mm) 6 2 kk) := frC.w hF1 (by show (6 = 6 ∧ 2 = 1) ∨ (6 = 6 ∧ 2 = 2) ∨ (6 = 7); exact Or.inr (Or.inl (⟨rfl, rfl⟩)))
  refine lv_iconst (v := 0) hx hb (dkP dF_3 DX6_reform (i := 6) rfl rfl) (by decide) ?_
  refine lv_istore_n (lv' := [(3, .int 0), (0, .ref (ad 6)), (1, .int mm), (2, .int kk)]) hx hb (dkP dF_62 DX6_reform (i := 7) rfl rfl) rfl hl (by decide) rfl (fun ls hl => ?_)
  have lp4 : ∀ (nq : Nat) (q3_12 : Nat) (τ3 : Sg) (H : Heap) (locs : List Loc) (ls : Array Slot), 20 - q3_12 < nq → (q3_12 ≤ 20) → (∀ j, τ3.1 7 j = LDN mm kk (σ.1 7) q3_12 j) → (τ3.1 6 1 = mm) → (τ3.1 6 2 = kk) → (TC τ3) → (frC (fun x y => (x = 6 ∧ y = 1) ∨ (x = 6 ∧ y = 2) ∨ (x = 7)) σ τ3) → St G kc A s.heap shC ad τ3 H locs → lv_has ls 4 [(3, .int (nI q3_12)), (0, .ref (ad 6)), (1, .int mm), (2, .int kk)] → W pr l e { frames := 2, cells := 0, slots := 0, locals := 45 } s m ([.ref (ad 6), .int mm, .int kk] : List Value).toArray below meth c H locs 0 0 (MQ below (va_Qv (fun σ1 => (σ1.1 6 1 = mm) ∧ (σ1.1 6 2 = kk) ∧ (∀ j, σ1.1 7 j = LDN mm kk (σ.1 7) 20 j) ∧ TC σ1 ∧ frC (fun x y => (x = 6 ∧ y = 1) ∨ (x = 6 ∧ y = 2) ∨ (x = 7)) σ σ1) (PoC G kc shC ad A) A) ([.ref (ad 6), .int mm, .int kk] : List Value).toArray s 0 0 A) (F0 m 12 ls []) := by
    intro nq
    induction nq with
    | zero => intro q3_12 τ3 H locs ls hmu; exact absurd hmu (Nat.not_lt_zero _)
    | succ nq ih4 =>
      intro q3_12 τ3 H locs ls hmu hq3_12 hln hl3 hl4 hT_τ3 hF_τ3 hw hl
      refine lv_iload_n hx hb (dkP dF_29 DX6_reform (i := 8) rfl rfl) rfl (lv_at hl 0 rfl) ?_
      refine lv_bipush (v := 20) hx hb (dks dF_16 DX6_reform (i := 9) rfl rfl rfl) (by decide) ?_
      refine lv_icmp_ge (tgt := 30) hx hb (dkS dF_162 DX6_reform (i := 10) rfl rfl rfl) (by decide) (fun c5 => ?_) (fun c5 => ?_)
      · simp (disch := omega) only [ta_lt, ta_le, ta_eq, tnI, tl32 20 (by decide)] at c5
        exact z_vret C0 hr hlk hw (⟨hl3, hl4, (by have e_ : q3_12 = 20 := (by omega); rw [e_] at hln; exact hln), hT_τ3, hF_τ3⟩) (dkP dF_177 DX6_reform (i := 17) rfl rfl)
      · simp (disch := omega) only [ta_lt, ta_le, ta_eq, tnI, tl32 20 (by decide)] at c5
        refine lv_aload_n hx hb (dkP dF_42 DX6_reform (i := 11) rfl rfl) rfl (lv_at hl 1 rfl) ?_
        refine lv_iload_n hx hb (dkP dF_29 DX6_reform (i := 12) rfl rfl) rfl (lv_at hl 0 rfl) ?_
        refine zk_I hw (zr_V (As := [.int (nI q3_12)]) (rest := []) C0 (c_X6_leadOver_w l G kc ad τ3 q3_12 (by first | omega | assumption | decide | rfl) hT_τ3 _) cv_X6_leadOver lk_X6_28 (zp_V C0 hRo hw 6 shc_6 rfl rfl) rfl hl.1 rfl ⟨by decide, by decide⟩ (Nat.le_of_ble_eq_true rfl) (dk2 dF_182 DX6_reform (i := 13) rfl rfl rfl) ⟨Nat.le_refl _, Nat.le_refl _⟩) (fun r6 s6 H locs hp hw => ?_)
        obtain ⟨f6_0, f6_1, hT6, hG6⟩ := hp
        have hF6 : frC (fun x y => (x = 6 ∧ y = 1) ∨ (x = 6 ∧ y = 2) ∨ (x = 7)) σ s6 := frC.t hF_τ3 hG6 (fun x y h => by have h : (x = 7) := h; show (x = 6 ∧ y = 1) ∨ (x = 6 ∧ y = 2) ∨ (x = 7); exact Or.inr (Or.inr (h)))
        refine lv_pop hx hb (dkP dF_87 DX6_reform (i := 14) rfl rfl) rfl ?_
        refine lv_iinc (v := nI (q3_12 + 1)) (lv' := [(3, .int (nI (q3_12 + 1))), (0, .ref (ad 6)), (1, .int mm), (2, .int kk)]) hx hb (dkI DX6_reform (i := 15) rfl rfl rfl rfl) hl (k := 0) rfl (nI_1 _) (by decide) rfl (fun ls hl => ?_)
        refine lv_goto (tgt := 12) hx hb (dkS dF_167 DX6_reform (i := 16) rfl rfl rfl) (by decide) ?_
        exact ih4 (q3_12 + 1) s6 _ _ _ (by omega) (by (try simp only [lg_cmp_lt, lg_cmp_le, lg_cmp_gt, lg_cmp_ge, lg_cmp_eq] at c5); (try simp (disch := omega) only [ta_lt, ta_le, ta_eq, tb_lt, tb_le, tb_eq, tw, tnI, tsub1, tsv, tsb32, tn32 1 (by decide), tnj 1 (by decide), tl32 0 (by decide), tl64 0 (by decide), tl32 20 (by decide), tl64 20 (by decide)] at c5); (try simp only [lg_cmp_lt, lg_cmp_le, lg_cmp_gt, lg_cmp_ge, lg_cmp_eq] at f6_0); (try simp (disch := omega) only [ta_lt, ta_le, ta_eq, tb_lt, tb_le, tb_eq, tw, tnI, tsub1, tsv, tsb32, tn32 1 (by decide), tnj 1 (by decide), tl32 0 (by decide), tl64 0 (by decide), tl32 20 (by decide), tl64 20 (by decide)] at f6_0); (try simp only [lg_cmp_lt, lg_cmp_le, lg_cmp_gt, lg_cmp_ge, lg_cmp_eq] at f6_1); (try simp (disch := omega) only [ta_lt, ta_le, ta_eq, tb_lt, tb_le, tb_eq, tw, tnI, tsub1, tsv, tsb32, tn32 1 (by decide), tnj 1 (by decide), tl32 0 (by decide), tl64 0 (by decide), tl32 20 (by decide), tl64 20 (by decide)] at f6_1); (try simp (disch := omega) only [ta_lt, ta_le, ta_eq, tb_lt, tb_le, tb_eq, tw, tnI, tsub1, tsv, tsb32, tn32 1 (by decide), tnj 1 (by decide), tl32 0 (by decide), tl64 0 (by decide), tl32 20 (by decide), tl64 20 (by decide)]); omega) (LDN_s (g := τ3.1 7) (h := s6.1 7) hln hl3 hl4 f6_0) (((hG6.1 6 1 (by show ¬ ((6 = 7)); omega)).trans rfl).trans hl3) (((hG6.1 6 2 (by show ¬ ((6 = 7)); omega)).trans rfl).trans hl4) hT6 hF6 hw (lv_sub hl [0, 1, 2, 3] rfl)
  exact lp4 _ 0 (sI (sI σ 6 1 mm) 6 2 kk) _ _ _ (Nat.lt_succ_self _) (by (try simp (disch := omega) only [ta_lt, ta_le, ta_eq, tb_lt, tb_le, tb_eq, tw, tnI, tsub1, tsv, tsb32, tn32 1 (by decide), tnj 1 (by decide), tl32 0 (by decide), tl64 0 (by decide), tl32 20 (by decide), tl64 20 (by decide)]); omega) (fun j => ((rd_n (by omega)).trans ((rd_n (by omega)).trans rfl))) ((rd_n (by omega)).trans rd_s) rd_s hT2 hF2 hw (lv_sub hl [0, 1, 2, 3] rfl)
set_option maxRecDepth 100000 in
set_option maxHeartbeats 8000000 in
theorem c_X6_enter_w (l : Launch) (G : va_G) (kc : KC) (ad : Nat → Nat) (σ : Sg) (ri : Nat) (sd : Nat) (va : Int32) (hri : ri < 20) (hsd : sd < 2) (hT : TC σ) : MI l G kc yX6_enter cX6_enter 5 (some .int) 0 0 [.ref (ad 6), .int (nI ri), .int (nI sd), .int va] shC ad σ (fun r σ1 => (∀ j, σ1.1 7 j = PTF (σ.1 7) (5 * ri) sd va j) ∧ (r = σ1.1 7 (5 * ri + 3)) ∧ TC σ1 ∧ frC (fun x y => (x = 7)) σ σ1) := by
  intro sz
  refine z_body (y := yX6_enter) (n := 5) (av := [.ref (ad 6), .int (nI ri), .int (nI sd), .int va]) (Qc := fun A => va_Qi (fun r σ1 => (∀ j, σ1.1 7 j = PTF (σ.1 7) (5 * ri) sd va j) ∧ (r = σ1.1 7 (5 * ri + 3)) ∧ TC σ1 ∧ frC (fun x y => (x = 7)) σ σ1) (PoC G kc shC ad A) A) (plainFor_of_name (by decide)) (Nat.le_of_ble_eq_true rfl) (fun pr e s m below meth c A C0 hr hlk hnm hw hRo ls hl => ?_) sz
  have hx := C0.1
  have hb := C0.2.1
  have hown := C0.2.2.2.1
  have hts := C0.2.2.2.2.1
  have hl : lv_has ls 5 [(0, .ref (ad 6)), (1, .int (nI ri)), (2, .int (nI sd)), (3, .int va)] := hl
  obtain ⟨w2, e2⟩ : ∃ y : Int32, σ.1 7 (ri * 5 + 2) = y := ⟨_, rfl⟩
  obtain ⟨w3, e3⟩ : ∃ y : Int32, σ.1 7 (ri * 5 + 3) = y := ⟨_, rfl⟩
  refine lv_iload_n hx hb (dkP dF_27 DX6_enter (i := 0) rfl rfl) rfl (lv_at hl 1 rfl) ?_
  refine lv_iconst (v := 5) hx hb (dkP dF_8 DX6_enter (i := 1) rfl rfl) (by decide) ?_
  refine lv_imul hx hb (dkP dF_104 DX6_enter (i := 2) rfl rfl) ?_
  refine z_top (y := nI (ri * 5)) (by simp only [fa_lit, nI_add, pk_mul]) ?_
  refine lv_istore (lv' := [(4, .int (nI (ri * 5))), (0, .ref (ad 6)), (1, .int (nI ri)), (2, .int (nI sd)), (3, .int va)]) hx hb (dk1 dF_54 DX6_enter (i := 3) rfl rfl rfl) hl (by decide) rfl (fun ls hl => ?_)
  refine lv_aload_n hx hb (dkP dF_42 DX6_enter (i := 4) rfl rfl) rfl (lv_at hl 1 rfl) ?_
  refine z_gr C0 hw 6 0 7 (fk_of shc_6 rfl) fl_X6_11 (dk2 dF_180 DX6_enter (i := 5) rfl rfl rfl) ?_
  refine lv_iload hx hb (dk1 dF_21 DX6_enter (i := 6) rfl rfl rfl) (lv_at hl 0 rfl) ?_
  refine lv_iload_n hx hb (dkP dF_28 DX6_enter (i := 7) rfl rfl) rfl (lv_at hl 3 rfl) ?_
  refine lv_iadd hx hb (dkP dF_96 DX6_enter (i := 8) rfl rfl) ?_
  refine z_top (y := nI ((ri * 5) + sd)) (by simp only [fa_lit, nI_add, pk_mul]) ?_
  refine lv_iload_n hx hb (dkP dF_29 DX6_enter (i := 9) rfl rfl) rfl (lv_at hl 4 rfl) ?_
  refine z_iastN (n := 100) C0 hw 7 ((ri * 5) + sd) (ak_of shc_7) (by omega) (by decide) (dkP dF_79 DX6_enter (i := 10) rfl rfl) (fun H locs hw => ?_)
  have hT1 : TC (sI σ 7 ((ri * 5) + sd) va) := TC.w hT (tc0 tcl_7)
  have hF1 : frC (fun x y => (x = 7)) σ (sI σ 7 ((ri * 5) + sd) va) := frC.w frC.refl (by show (7 = 7); exact rfl)
  refine lv_aload_n hx hb (dkP dF_42 DX6_enter (i := 11) rfl rfl) rfl (lv_at hl 1 rfl) ?_
  refine z_gr C0 hw 6 0 7 (fk_of shc_6 rfl) fl_X6_11 (dk2 dF_180 DX6_enter (i := 12) rfl rfl rfl) ?_
  refine lv_iload hx hb (dk1 dF_21 DX6_enter (i := 13) rfl rfl rfl) (lv_at hl 0 rfl) ?_
  refine lv_iconst (v := 2) hx hb (dkP dF_5 DX6_enter (i := 14) rfl rfl) (by decide) ?_
  refine lv_iadd hx hb (dkP dF_96 DX6_enter (i := 15) rfl rfl) ?_
  refine z_top (y := nI ((ri * 5) + 2)) (by simp only [fa_lit, nI_add, pk_mul]) ?_
  refine z_ialdN (n := 100) C0 hw 7 ((ri * 5) + 2) (ak_of shc_7) (by omega) (by decide) (dkP dF_46 DX6_enter (i := 16) rfl rfl) ?_
  refine z_top (y := w2) ((rd_n (by omega)).trans e2) ?_
  refine lv_iload_n hx hb (dkP dF_28 DX6_enter (i := 17) rfl rfl) rfl (lv_at hl 3 rfl) ?_
  refine lv_icmp_ne (tgt := 44) hx hb (dkS dF_160 DX6_enter (i := 18) rfl rfl rfl) (by decide) (fun c2 => ?_) (fun c2 => ?_)
  · skip
    refine lv_aload_n hx hb (dkP dF_42 DX6_enter (i := 30) rfl rfl) rfl (lv_at hl 1 rfl) ?_
    refine z_gr C0 hw 6 0 7 (fk_of shc_6 rfl) fl_X6_11 (dk2 dF_180 DX6_enter (i := 31) rfl rfl rfl) ?_
    refine lv_iload hx hb (dk1 dF_21 DX6_enter (i := 32) rfl rfl rfl) (lv_at hl 0 rfl) ?_
    refine lv_iconst (v := 2) hx hb (dkP dF_5 DX6_enter (i := 33) rfl rfl) (by decide) ?_
    refine lv_iadd hx hb (dkP dF_96 DX6_enter (i := 34) rfl rfl) ?_
    refine z_top (y := nI ((ri * 5) + 2)) (by simp only [fa_lit, nI_add, pk_mul]) ?_
    refine lv_iload_n hx hb (dkP dF_28 DX6_enter (i := 35) rfl rfl) rfl (lv_at hl 3 rfl) ?_
    refine z_iastN (n := 100) C0 hw 7 ((ri * 5) + 2) (ak_of shc_7) (by omega) (by decide) (dkP dF_79 DX6_enter (i := 36) rfl rfl) (fun H locs hw => ?_)
    have hT3 : TC (sI (sI σ 7 ((ri * 5) + sd) va) 7 ((ri * 5) + 2) (nI sd)) := TC.w hT1 (tc0 tcl_7)
    have hF3 : frC (fun x y => (x = 7)) σ (sI (sI σ 7 ((ri * 5) + sd) va) 7 ((ri * 5) + 2) (nI sd)) := frC.w hF1 (by show (7 = 7); exact rfl)
    refine lv_aload_n hx hb (dkP dF_42 DX6_enter (i := 37) rfl rfl) rfl (lv_at hl 1 rfl) ?_
    refine z_gr C0 hw 6 0 7 (fk_of shc_6 rfl) fl_X6_11 (dk2 dF_180 DX6_enter (i := 38) rfl rfl rfl) ?_
    refine lv_iload hx hb (dk1 dF_21 DX6_enter (i := 39) rfl rfl rfl) (lv_at hl 0 rfl) ?_
    refine lv_iconst (v := 3) hx hb (dkP dF_6 DX6_enter (i := 40) rfl rfl) (by decide) ?_
    refine lv_iadd hx hb (dkP dF_96 DX6_enter (i := 41) rfl rfl) ?_
    refine z_top (y := nI ((ri * 5) + 3)) (by simp only [fa_lit, nI_add, pk_mul]) ?_
    refine lv_iconst (v := 1) hx hb (dkP dF_4 DX6_enter (i := 42) rfl rfl) (by decide) ?_
    refine z_iastN (n := 100) C0 hw 7 ((ri * 5) + 3) (ak_of shc_7) (by omega) (by decide) (dkP dF_79 DX6_enter (i := 43) rfl rfl) (fun H locs hw => ?_)
    have hT4 : TC (sI (sI (sI σ 7 ((ri * 5) + sd) va) 7 ((ri * 5) + 2) (nI sd)) 7 ((ri * 5) + 3) 1) := TC.w hT3 (tc0 tcl_7)
    have hF4 : frC (fun x y => (x = 7)) σ (sI (sI (sI σ 7 ((ri * 5) + sd) va) 7 ((ri * 5) + 2) (nI sd)) 7 ((ri * 5) + 3) 1) := frC.w hF3 (by show (7 = 7); exact rfl)
    refine lv_aload_n hx hb (dkP dF_42 DX6_enter (i := 44) rfl rfl) rfl (lv_at hl 1 rfl) ?_
    refine z_gr C0 hw 6 0 7 (fk_of shc_6 rfl) fl_X6_11 (dk2 dF_180 DX6_enter (i := 45) rfl rfl rfl) ?_
    refine lv_iload hx hb (dk1 dF_21 DX6_enter (i := 46) rfl rfl rfl) (lv_at hl 0 rfl) ?_
    refine lv_iconst (v := 3) hx hb (dkP dF_6 DX6_enter (i := 47) rfl rfl) (by decide) ?_
    refine lv_iadd hx hb (dkP dF_96 DX6_enter (i := 48) rfl rfl) ?_
    refine z_top (y := nI ((ri * 5) + 3)) (by simp only [fa_lit, nI_add, pk_mul]) ?_
    refine z_ialdN (n := 100) C0 hw 7 ((ri * 5) + 3) (ak_of shc_7) (by omega) (by decide) (dkP dF_46 DX6_enter (i := 49) rfl rfl) ?_
    refine z_top (y := 1) rd_s ?_
    exact z_iret C0 hr hlk hw (⟨(by rw [Nat.mul_comm 5 ri]; exact PTF_a (f := σ.1 7) (g := (sI (sI (sI σ 7 ((ri * 5) + sd) va) 7 ((ri * 5) + 2) (nI sd)) 7 ((ri * 5) + 3) 1).1 7) (b := ri * 5) (Or.inr ⟨fun z => c2 (e2.symm.trans z), rd_s⟩) ((rd_n (by omega)).trans rd_s) ((rd_n (by omega)).trans ((rd_n (by omega)).trans rd_s)) (fun j h1 h2 h3 => ((rd_n (by omega)).trans ((rd_n (by omega)).trans ((rd_n (by omega)).trans rfl))))), (by rw [Nat.mul_comm 5 ri]; exact Eq.symm rd_s), hT4, hF4⟩) (dkP dF_172 DX6_enter (i := 50) rfl rfl)
  · skip
    refine lv_aload_n hx hb (dkP dF_42 DX6_enter (i := 19) rfl rfl) rfl (lv_at hl 1 rfl) ?_
    refine z_gr C0 hw 6 0 7 (fk_of shc_6 rfl) fl_X6_11 (dk2 dF_180 DX6_enter (i := 20) rfl rfl rfl) ?_
    refine lv_iload hx hb (dk1 dF_21 DX6_enter (i := 21) rfl rfl rfl) (lv_at hl 0 rfl) ?_
    refine lv_iconst (v := 3) hx hb (dkP dF_6 DX6_enter (i := 22) rfl rfl) (by decide) ?_
    refine lv_iadd hx hb (dkP dF_96 DX6_enter (i := 23) rfl rfl) ?_
    refine z_top (y := nI ((ri * 5) + 3)) (by simp only [fa_lit, nI_add, pk_mul]) ?_
    refine lv_dup2_11 hx hb (dkP dF_92 DX6_enter (i := 24) rfl rfl) rfl rfl ?_
    refine z_ialdN (n := 100) C0 hw 7 ((ri * 5) + 3) (ak_of shc_7) (by omega) (by decide) (dkP dF_46 DX6_enter (i := 25) rfl rfl) ?_
    refine z_top (y := w3) ((rd_n (by omega)).trans e3) ?_
    refine lv_iconst (v := 1) hx hb (dkP dF_4 DX6_enter (i := 26) rfl rfl) (by decide) ?_
    refine lv_iadd hx hb (dkP dF_96 DX6_enter (i := 27) rfl rfl) ?_
    refine z_iastN (n := 100) C0 hw 7 ((ri * 5) + 3) (ak_of shc_7) (by omega) (by decide) (dkP dF_79 DX6_enter (i := 28) rfl rfl) (fun H locs hw => ?_)
    have hT5 : TC (sI (sI σ 7 ((ri * 5) + sd) va) 7 ((ri * 5) + 3) (w3 + 1)) := TC.w hT1 (tc0 tcl_7)
    have hF5 : frC (fun x y => (x = 7)) σ (sI (sI σ 7 ((ri * 5) + sd) va) 7 ((ri * 5) + 3) (w3 + 1)) := frC.w hF1 (by show (7 = 7); exact rfl)
    refine lv_goto (tgt := 64) hx hb (dkS dF_167 DX6_enter (i := 29) rfl rfl rfl) (by decide) ?_
    refine lv_aload_n hx hb (dkP dF_42 DX6_enter (i := 44) rfl rfl) rfl (lv_at hl 1 rfl) ?_
    refine z_gr C0 hw 6 0 7 (fk_of shc_6 rfl) fl_X6_11 (dk2 dF_180 DX6_enter (i := 45) rfl rfl rfl) ?_
    refine lv_iload hx hb (dk1 dF_21 DX6_enter (i := 46) rfl rfl rfl) (lv_at hl 0 rfl) ?_
    refine lv_iconst (v := 3) hx hb (dkP dF_6 DX6_enter (i := 47) rfl rfl) (by decide) ?_
    refine lv_iadd hx hb (dkP dF_96 DX6_enter (i := 48) rfl rfl) ?_
    refine z_top (y := nI ((ri * 5) + 3)) (by simp only [fa_lit, nI_add, pk_mul]) ?_
    refine z_ialdN (n := 100) C0 hw 7 ((ri * 5) + 3) (ak_of shc_7) (by omega) (by decide) (dkP dF_46 DX6_enter (i := 49) rfl rfl) ?_
    obtain ⟨v6, ev6⟩ : ∃ y : Int32, (sI (sI σ 7 ((ri * 5) + sd) va) 7 ((ri * 5) + 3) (w3 + 1)).1 7 ((ri * 5) + 3) = y := ⟨_, rfl⟩
    refine z_top (y := v6) ev6 ?_
    exact z_iret C0 hr hlk hw (⟨(by rw [Nat.mul_comm 5 ri]; exact PTF_a (f := σ.1 7) (g := (sI (sI σ 7 ((ri * 5) + sd) va) 7 ((ri * 5) + 3) (w3 + 1)).1 7) (b := ri * 5) (Or.inl ⟨e2.trans (by first | exact c2 | exact Decidable.not_not.mp c2), by rw [e3]; exact rd_s⟩) (((rd_n (by omega)).trans ((rd_n (by omega)).trans rfl)).trans (e2.trans (by first | exact c2 | exact Decidable.not_not.mp c2))) ((rd_n (by omega)).trans rd_s) (fun j h1 h2 h3 => ((rd_n (by omega)).trans ((rd_n (by omega)).trans rfl)))), (by rw [Nat.mul_comm 5 ri]; exact Eq.symm ev6), hT5, hF5⟩) (dkP dF_172 DX6_enter (i := 50) rfl rfl)
set_option maxRecDepth 100000 in
set_option maxHeartbeats 8000000 in
theorem c_X6_tell_w (l : Launch) (G : va_G) (kc : KC) (ad : Nat → Nat) (σ : Sg) (ri : Int32) (what : Int32) (hT : TC σ) : MI l G kc yX6_tell cX6_tell 3 (some .int) 1 21 [.ref (ad 6), .int ri, .int what] shC ad σ (fun r σ1 => (ROQ (σ.1 7) ri what r) ∧ σ1 = σ) := by
  intro sz
  refine z_body (y := yX6_tell) (n := 3) (av := [.ref (ad 6), .int ri, .int what]) (Qc := fun A => va_Qi (fun r σ1 => (ROQ (σ.1 7) ri what r) ∧ σ1 = σ) (PoC G kc shC ad A) A) (plainFor_of_name (by decide)) (Nat.le_of_ble_eq_true rfl) (fun pr e s m below meth c A C0 hr hlk hnm hw hRo ls hl => ?_) sz
  have hx := C0.1
  have hb := C0.2.1
  have hown := C0.2.2.2.1
  have hts := C0.2.2.2.2.1
  have hl : lv_has ls 3 [(0, .ref (ad 6)), (1, .int ri), (2, .int what)] := hl
  refine lv_aload_n hx hb (dkP dF_42 DX6_tell (i := 0) rfl rfl) rfl (lv_at hl 0 rfl) ?_
  refine lv_iload_n hx hb (dkP dF_27 DX6_tell (i := 1) rfl rfl) rfl (lv_at hl 1 rfl) ?_
  refine zk_I hw (zr_V (As := [.int ri]) (rest := []) C0 (c_X6_has_w l G kc ad σ ri hT _) cv_X6_has lk_X6_41 (zp_V C0 hRo hw 6 shc_6 rfl rfl) rfl hl.1 rfl ⟨by decide, by decide⟩ (Nat.le_of_ble_eq_true rfl) (dk2 dF_182 DX6_tell (i := 2) rfl rfl rfl) ⟨Nat.le_refl _, Nat.le_refl _⟩) (fun r1 s1 H locs hp hw => ?_)
  obtain ⟨f1_0, hs1⟩ := hp
  (rw [hs1] at hw)
  rcases f1_0 with ⟨rfl, hc1⟩ | ⟨rfl, hc1⟩
  · skip
    refine lv_if_eq (tgt := 30) hx hb (dkS dF_153 DX6_tell (i := 3) rfl rfl rfl) (by decide) (fun h => absurd h (by decide)) (fun _ => ?_)
    obtain ⟨rn, hrn, rfl⟩ := to_nat (x := ri) (n := 20) (by (try simp only [lg_cmp_lt, lg_cmp_le, lg_cmp_gt, lg_cmp_ge, lg_cmp_eq] at f1_0); (try simp (disch := omega) only [ta_lt, ta_le, ta_eq, tb_lt, tb_le, tb_eq, tw, tnI, tsub1, tsv, tsb32, tn32 1 (by decide), tnj 1 (by decide), tl32 0 (by decide), tl64 0 (by decide)] at f1_0); (try simp only [lg_cmp_lt, lg_cmp_le, lg_cmp_gt, lg_cmp_ge, lg_cmp_eq] at hc1); (try simp (disch := omega) only [ta_lt, ta_le, ta_eq, tb_lt, tb_le, tb_eq, tw, tnI, tsub1, tsv, tsb32, tn32 1 (by decide), tnj 1 (by decide), tl32 0 (by decide), tl64 0 (by decide)] at hc1); (try simp (disch := omega) only [ta_lt, ta_le, ta_eq, tb_lt, tb_le, tb_eq, tw, tnI, tsub1, tsv, tsb32, tn32 1 (by decide), tnj 1 (by decide), tl32 0 (by decide), tl64 0 (by decide)]); omega)
    refine lv_iload_n hx hb (dkP dF_28 DX6_tell (i := 4) rfl rfl) rfl (lv_at hl 2 rfl) ?_
    refine lv_if_lt (tgt := 30) hx hb (dkS dF_155 DX6_tell (i := 5) rfl rfl rfl) (by decide) (fun c2 => ?_) (fun c2 => ?_)
    · (try simp (disch := omega) only [ta_lt, ta_le, ta_eq, tnI, tl32 0 (by decide)] at c2)
      refine lv_ldc hx hb hown (hts _ kn_X6_45) (dk1 dF_18 DX6_tell (i := 18) rfl rfl rfl) ?_
      exact z_iret C0 hr hlk hw (⟨(Or.inl ⟨by (try simp only [lg_cmp_lt, lg_cmp_le, lg_cmp_gt, lg_cmp_ge, lg_cmp_eq] at f1_0); (try simp (disch := omega) only [ta_lt, ta_le, ta_eq, tb_lt, tb_le, tb_eq, tw, tnI, tsub1, tsv, tsb32, tn32 2000000000 (by decide), tnj 2000000000 (by decide), tn32 1 (by decide), tnj 1 (by decide), tl32 0 (by decide), tl64 0 (by decide)] at f1_0); (try simp only [lg_cmp_lt, lg_cmp_le, lg_cmp_gt, lg_cmp_ge, lg_cmp_eq] at hc1); (try simp (disch := omega) only [ta_lt, ta_le, ta_eq, tb_lt, tb_le, tb_eq, tw, tnI, tsub1, tsv, tsb32, tn32 2000000000 (by decide), tnj 2000000000 (by decide), tn32 1 (by decide), tnj 1 (by decide), tl32 0 (by decide), tl64 0 (by decide)] at hc1); (try simp only [lg_cmp_lt, lg_cmp_le, lg_cmp_gt, lg_cmp_ge, lg_cmp_eq] at c2); (try simp (disch := omega) only [ta_lt, ta_le, ta_eq, tb_lt, tb_le, tb_eq, tw, tnI, tsub1, tsv, tsb32, tn32 2000000000 (by decide), tnj 2000000000 (by decide), tn32 1 (by decide), tnj 1 (by decide), tl32 0 (by decide), tl64 0 (by decide)] at c2); (try simp (disch := omega) only [ta_lt, ta_le, ta_eq, tb_lt, tb_le, tb_eq, tw, tnI, tsub1, tsv, tsb32, tn32 2000000000 (by decide), tnj 2000000000 (by decide), tn32 1 (by decide), tnj 1 (by decide), tl32 0 (by decide), tl64 0 (by decide)]); omega, rfl⟩), rfl⟩) (dkP dF_172 DX6_tell (i := 19) rfl rfl)
    · (try simp (disch := omega) only [ta_lt, ta_le, ta_eq, tnI, tl32 0 (by decide)] at c2)
      refine lv_iload_n hx hb (dkP dF_28 DX6_tell (i := 6) rfl rfl) rfl (lv_at hl 2 rfl) ?_
      refine lv_iconst (v := 5) hx hb (dkP dF_8 DX6_tell (i := 7) rfl rfl) (by decide) ?_
      refine lv_icmp_ge (tgt := 30) hx hb (dkS dF_162 DX6_tell (i := 8) rfl rfl rfl) (by decide) (fun c3 => ?_) (fun c3 => ?_)
      · (try simp (disch := omega) only [ta_lt, ta_le, ta_eq, tnI, tl32 5 (by decide)] at c3)
        refine lv_ldc hx hb hown (hts _ kn_X6_45) (dk1 dF_18 DX6_tell (i := 18) rfl rfl rfl) ?_
        exact z_iret C0 hr hlk hw (⟨(Or.inl ⟨by (try simp only [lg_cmp_lt, lg_cmp_le, lg_cmp_gt, lg_cmp_ge, lg_cmp_eq] at f1_0); (try simp (disch := omega) only [ta_lt, ta_le, ta_eq, tb_lt, tb_le, tb_eq, tw, tnI, tsub1, tsv, tsb32, tn32 2000000000 (by decide), tnj 2000000000 (by decide), tn32 1 (by decide), tnj 1 (by decide), tl32 0 (by decide), tl64 0 (by decide), tl32 5 (by decide), tl64 5 (by decide)] at f1_0); (try simp only [lg_cmp_lt, lg_cmp_le, lg_cmp_gt, lg_cmp_ge, lg_cmp_eq] at hc1); (try simp (disch := omega) only [ta_lt, ta_le, ta_eq, tb_lt, tb_le, tb_eq, tw, tnI, tsub1, tsv, tsb32, tn32 2000000000 (by decide), tnj 2000000000 (by decide), tn32 1 (by decide), tnj 1 (by decide), tl32 0 (by decide), tl64 0 (by decide), tl32 5 (by decide), tl64 5 (by decide)] at hc1); (try simp only [lg_cmp_lt, lg_cmp_le, lg_cmp_gt, lg_cmp_ge, lg_cmp_eq] at c2); (try simp (disch := omega) only [ta_lt, ta_le, ta_eq, tb_lt, tb_le, tb_eq, tw, tnI, tsub1, tsv, tsb32, tn32 2000000000 (by decide), tnj 2000000000 (by decide), tn32 1 (by decide), tnj 1 (by decide), tl32 0 (by decide), tl64 0 (by decide), tl32 5 (by decide), tl64 5 (by decide)] at c2); (try simp only [lg_cmp_lt, lg_cmp_le, lg_cmp_gt, lg_cmp_ge, lg_cmp_eq] at c3); (try simp (disch := omega) only [ta_lt, ta_le, ta_eq, tb_lt, tb_le, tb_eq, tw, tnI, tsub1, tsv, tsb32, tn32 2000000000 (by decide), tnj 2000000000 (by decide), tn32 1 (by decide), tnj 1 (by decide), tl32 0 (by decide), tl64 0 (by decide), tl32 5 (by decide), tl64 5 (by decide)] at c3); (try simp (disch := omega) only [ta_lt, ta_le, ta_eq, tb_lt, tb_le, tb_eq, tw, tnI, tsub1, tsv, tsb32, tn32 2000000000 (by decide), tnj 2000000000 (by decide), tn32 1 (by decide), tnj 1 (by decide), tl32 0 (by decide), tl64 0 (by decide), tl32 5 (by decide), tl64 5 (by decide)]); omega, rfl⟩), rfl⟩) (dkP dF_172 DX6_tell (i := 19) rfl rfl)
      · (try simp (disch := omega) only [ta_lt, ta_le, ta_eq, tnI, tl32 5 (by decide)] at c3)
        obtain ⟨wn, hwn, rfl⟩ := to_nat (x := what) (n := 5) (by (try simp only [lg_cmp_lt, lg_cmp_le, lg_cmp_gt, lg_cmp_ge, lg_cmp_eq] at f1_0); (try simp (disch := omega) only [ta_lt, ta_le, ta_eq, tb_lt, tb_le, tb_eq, tw, tnI, tsub1, tsv, tsb32, tn32 2000000000 (by decide), tnj 2000000000 (by decide), tn32 1 (by decide), tnj 1 (by decide), tl32 0 (by decide), tl64 0 (by decide), tl32 5 (by decide), tl64 5 (by decide)] at f1_0); (try simp only [lg_cmp_lt, lg_cmp_le, lg_cmp_gt, lg_cmp_ge, lg_cmp_eq] at hc1); (try simp (disch := omega) only [ta_lt, ta_le, ta_eq, tb_lt, tb_le, tb_eq, tw, tnI, tsub1, tsv, tsb32, tn32 2000000000 (by decide), tnj 2000000000 (by decide), tn32 1 (by decide), tnj 1 (by decide), tl32 0 (by decide), tl64 0 (by decide), tl32 5 (by decide), tl64 5 (by decide)] at hc1); (try simp only [lg_cmp_lt, lg_cmp_le, lg_cmp_gt, lg_cmp_ge, lg_cmp_eq] at c2); (try simp (disch := omega) only [ta_lt, ta_le, ta_eq, tb_lt, tb_le, tb_eq, tw, tnI, tsub1, tsv, tsb32, tn32 2000000000 (by decide), tnj 2000000000 (by decide), tn32 1 (by decide), tnj 1 (by decide), tl32 0 (by decide), tl64 0 (by decide), tl32 5 (by decide), tl64 5 (by decide)] at c2); (try simp only [lg_cmp_lt, lg_cmp_le, lg_cmp_gt, lg_cmp_ge, lg_cmp_eq] at c3); (try simp (disch := omega) only [ta_lt, ta_le, ta_eq, tb_lt, tb_le, tb_eq, tw, tnI, tsub1, tsv, tsb32, tn32 2000000000 (by decide), tnj 2000000000 (by decide), tn32 1 (by decide), tnj 1 (by decide), tl32 0 (by decide), tl64 0 (by decide), tl32 5 (by decide), tl64 5 (by decide)] at c3); (try simp (disch := omega) only [ta_lt, ta_le, ta_eq, tb_lt, tb_le, tb_eq, tw, tnI, tsub1, tsv, tsb32, tn32 2000000000 (by decide), tnj 2000000000 (by decide), tn32 1 (by decide), tnj 1 (by decide), tl32 0 (by decide), tl64 0 (by decide), tl32 5 (by decide), tl64 5 (by decide)]); omega)
        refine lv_aload_n hx hb (dkP dF_42 DX6_tell (i := 9) rfl rfl) rfl (lv_at hl 0 rfl) ?_
        refine z_gr C0 hw 6 0 7 (fk_of shc_6 rfl) fl_X6_11 (dk2 dF_180 DX6_tell (i := 10) rfl rfl rfl) ?_
        refine lv_iload_n hx hb (dkP dF_27 DX6_tell (i := 11) rfl rfl) rfl (lv_at hl 1 rfl) ?_
        refine lv_iconst (v := 5) hx hb (dkP dF_8 DX6_tell (i := 12) rfl rfl) (by decide) ?_
        refine lv_imul hx hb (dkP dF_104 DX6_tell (i := 13) rfl rfl) ?_
        refine z_top (y := nI (rn * 5)) (by simp only [fa_lit, nI_add, pk_mul]) ?_
        refine lv_iload_n hx hb (dkP dF_28 DX6_tell (i := 14) rfl rfl) rfl (lv_at hl 2 rfl) ?_
        refine lv_iadd hx hb (dkP dF_96 DX6_tell (i := 15) rfl rfl) ?_
        refine z_top (y := nI ((rn * 5) + wn)) (by simp only [fa_lit, nI_add, pk_mul]) ?_
        refine z_ialdN (n := 100) C0 hw 7 ((rn * 5) + wn) (ak_of shc_7) (by omega) (by decide) (dkP dF_46 DX6_tell (i := 16) rfl rfl) ?_
        obtain ⟨v4, ev4⟩ : ∃ y : Int32, σ.1 7 ((rn * 5) + wn) = y := ⟨_, rfl⟩
        refine z_top (y := v4) ev4 ?_
        refine lv_goto (tgt := 32) hx hb (dkS dF_167 DX6_tell (i := 17) rfl rfl rfl) (by decide) ?_
        exact z_iret C0 hr hlk hw (⟨(Or.inr ⟨rn, wn, by omega, by omega, rfl, rfl, (by rw [Nat.mul_comm 5 rn]; exact Eq.symm ev4)⟩), rfl⟩) (dkP dF_172 DX6_tell (i := 19) rfl rfl)
  · skip
    refine lv_if_eq (tgt := 30) hx hb (dkS dF_153 DX6_tell (i := 3) rfl rfl rfl) (by decide) (fun _ => ?_) (fun h => absurd h (by decide))
    refine lv_ldc hx hb hown (hts _ kn_X6_45) (dk1 dF_18 DX6_tell (i := 18) rfl rfl rfl) ?_
    exact z_iret C0 hr hlk hw (⟨(Or.inl ⟨by (try simp only [lg_cmp_lt, lg_cmp_le, lg_cmp_gt, lg_cmp_ge, lg_cmp_eq] at f1_0); (try simp (disch := omega) only [ta_lt, ta_le, ta_eq, tb_lt, tb_le, tb_eq, tw, tnI, tsub1, tsv, tsb32, tn32 2000000000 (by decide), tnj 2000000000 (by decide), tn32 1 (by decide), tnj 1 (by decide), tl32 0 (by decide), tl64 0 (by decide), tl32 5 (by decide), tl64 5 (by decide)] at f1_0); (try simp only [lg_cmp_lt, lg_cmp_le, lg_cmp_gt, lg_cmp_ge, lg_cmp_eq] at hc1); (try simp (disch := omega) only [ta_lt, ta_le, ta_eq, tb_lt, tb_le, tb_eq, tw, tnI, tsub1, tsv, tsb32, tn32 2000000000 (by decide), tnj 2000000000 (by decide), tn32 1 (by decide), tnj 1 (by decide), tl32 0 (by decide), tl64 0 (by decide), tl32 5 (by decide), tl64 5 (by decide)] at hc1); (try simp (disch := omega) only [ta_lt, ta_le, ta_eq, tb_lt, tb_le, tb_eq, tw, tnI, tsub1, tsv, tsb32, tn32 2000000000 (by decide), tnj 2000000000 (by decide), tn32 1 (by decide), tnj 1 (by decide), tl32 0 (by decide), tl64 0 (by decide), tl32 5 (by decide), tl64 5 (by decide)]); omega, rfl⟩), rfl⟩) (dkP dF_172 DX6_tell (i := 19) rfl rfl)
set_option maxRecDepth 100000 in
set_option maxHeartbeats 8000000 in
theorem c_X6_agreement_w (l : Launch) (G : va_G) (kc : KC) (ad : Nat → Nat) (σ : Sg)  (hT : TC σ) : MI l G kc yX6_agreement cX6_agreement 4 (some .int) 0 0 [.ref (ad 6)] shC ad σ (fun r σ1 => (CKQ (σ.1 6 1) (σ.1 6 2) (σ.1 7) r) ∧ σ1 = σ) := by
  intro sz
  refine z_body (y := yX6_agreement) (n := 4) (av := [.ref (ad 6)]) (Qc := fun A => va_Qi (fun r σ1 => (CKQ (σ.1 6 1) (σ.1 6 2) (σ.1 7) r) ∧ σ1 = σ) (PoC G kc shC ad A) A) (plainFor_of_name (by decide)) (Nat.le_of_ble_eq_true rfl) (fun pr e s m below meth c A C0 hr hlk hnm hw hRo ls hl => ?_) sz
  have hx := C0.1
  have hb := C0.2.1
  have hown := C0.2.2.2.1
  have hts := C0.2.2.2.2.1
  have hl : lv_has ls 4 [(0, .ref (ad 6))] := hl
  refine lv_iconst (v := 0) hx hb (dkP dF_3 DX6_agreement (i := 0) rfl rfl) (by decide) ?_
  refine lv_istore_n (lv' := [(1, .int 0), (0, .ref (ad 6))]) hx hb (dkP dF_60 DX6_agreement (i := 1) rfl rfl) rfl hl (by decide) rfl (fun ls hl => ?_)
  refine lv_iconst (v := 1) hx hb (dkP dF_4 DX6_agreement (i := 2) rfl rfl) (by decide) ?_
  refine lv_istore_n (lv' := [(2, .int 1), (1, .int 0), (0, .ref (ad 6))]) hx hb (dkP dF_61 DX6_agreement (i := 3) rfl rfl) rfl hl (by decide) rfl (fun ls hl => ?_)
  refine lv_iconst (v := 0) hx hb (dkP dF_3 DX6_agreement (i := 4) rfl rfl) (by decide) ?_
  refine lv_istore_n (lv' := [(3, .int 0), (2, .int 1), (1, .int 0), (0, .ref (ad 6))]) hx hb (dkP dF_62 DX6_agreement (i := 5) rfl rfl) rfl hl (by decide) rfl (fun ls hl => ?_)
  have lp1 : ∀ (nq : Nat) (q3_6 : Nat) (q2_6 : Nat) (q1_6 : Nat) (H : Heap) (locs : List Loc) (ls : Array Slot), 100 - q3_6 < nq → (q3_6 ≤ 100) → (q2_6 ≤ 1) → (q1_6 ≤ q3_6) → (q3_6 % 5 = 0) → (CHI (σ.1 6 1) (σ.1 6 2) (σ.1 7) (q3_6 / 5) q1_6 q2_6) → St G kc A s.heap shC ad σ H locs → lv_has ls 4 [(3, .int (nI q3_6)), (2, .int (nI q2_6)), (1, .int (nI q1_6)), (0, .ref (ad 6))] → W pr l e { frames := 0, cells := 0, slots := 0, locals := 0 } s m ([.ref (ad 6)] : List Value).toArray below meth c H locs 0 0 (MQ below (va_Qi (fun r σ1 => (CKQ (σ.1 6 1) (σ.1 6 2) (σ.1 7) r) ∧ σ1 = σ) (PoC G kc shC ad A) A) ([.ref (ad 6)] : List Value).toArray s 0 0 A) (F0 m 6 ls []) := by
    intro nq
    induction nq with
    | zero => intro q3_6 q2_6 q1_6 H locs ls hmu; exact absurd hmu (Nat.not_lt_zero _)
    | succ nq ih1 =>
      intro q3_6 q2_6 q1_6 H locs ls hmu hq3_6 hq2_6 hq1_6 hm5 hci hw hl
      refine lv_iload_n hx hb (dkP dF_29 DX6_agreement (i := 6) rfl rfl) rfl (lv_at hl 0 rfl) ?_
      refine lv_aload_n hx hb (dkP dF_42 DX6_agreement (i := 7) rfl rfl) rfl (lv_at hl 3 rfl) ?_
      refine z_gr C0 hw 6 0 7 (fk_of shc_6 rfl) fl_X6_11 (dk2 dF_180 DX6_agreement (i := 8) rfl rfl rfl) ?_
      refine z_alen (t := 0) (n := 100) C0 hw 7 (ak_of shc_7) (by decide) (dkP dF_190 DX6_agreement (i := 9) rfl rfl) ?_
      refine z_top (y := 100) rfl ?_
      refine lv_icmp_ge (tgt := 70) hx hb (dkS dF_162 DX6_agreement (i := 10) rfl rfl rfl) (by decide) (fun c2 => ?_) (fun c2 => ?_)
      · simp (disch := omega) only [ta_lt, ta_le, ta_eq, tnI, tl32 100 (by decide)] at c2
        refine lv_iload_n hx hb (dkP dF_27 DX6_agreement (i := 44) rfl rfl) rfl (lv_at hl 2 rfl) ?_
        refine lv_if_le (tgt := 76) hx hb (dkS dF_158 DX6_agreement (i := 45) rfl rfl rfl) (by decide) (fun c3 => ?_) (fun c3 => ?_)
        · simp (disch := omega) only [ta_lt, ta_le, ta_eq, tnI, tl32 0 (by decide)] at c3
          refine lv_iload_n hx hb (dkP dF_28 DX6_agreement (i := 48) rfl rfl) rfl (lv_at hl 1 rfl) ?_
          refine lv_if_eq (tgt := 84) hx hb (dkS dF_153 DX6_agreement (i := 49) rfl rfl rfl) (by decide) (fun c4 => ?_) (fun c4 => ?_)
          · simp (disch := omega) only [ta_lt, ta_le, ta_eq, tnI, tl32 0 (by decide)] at c4
            refine lv_bipush (v := (-3)) hx hb (dks dF_16 DX6_agreement (i := 52) rfl rfl rfl) (by decide) ?_
            exact z_iret C0 hr hlk hw (⟨(CHI.fin hci (by omega) (Or.inr (Or.inr ⟨by omega, by omega, rfl⟩))), rfl⟩) (dkP dF_172 DX6_agreement (i := 53) rfl rfl)
          · simp (disch := omega) only [ta_lt, ta_le, ta_eq, tnI, tl32 0 (by decide)] at c4
            refine lv_iconst (v := (-1)) hx hb (dkP dF_2 DX6_agreement (i := 50) rfl rfl) (by decide) ?_
            refine lv_goto (tgt := 86) hx hb (dkS dF_167 DX6_agreement (i := 51) rfl rfl rfl) (by decide) ?_
            exact z_iret C0 hr hlk hw (⟨(CHI.fin hci (by omega) (Or.inr (Or.inl ⟨by omega, by omega, rfl⟩))), rfl⟩) (dkP dF_172 DX6_agreement (i := 53) rfl rfl)
        · simp (disch := omega) only [ta_lt, ta_le, ta_eq, tnI, tl32 0 (by decide)] at c3
          refine lv_iload_n hx hb (dkP dF_27 DX6_agreement (i := 46) rfl rfl) rfl (lv_at hl 2 rfl) ?_
          exact z_iret C0 hr hlk hw (⟨(CHI.fin hci (by omega) (Or.inl ⟨by omega, rfl⟩)), rfl⟩) (dkP dF_172 DX6_agreement (i := 47) rfl rfl)
      · simp (disch := omega) only [ta_lt, ta_le, ta_eq, tnI, tl32 100 (by decide)] at c2
        refine lv_aload_n hx hb (dkP dF_42 DX6_agreement (i := 11) rfl rfl) rfl (lv_at hl 3 rfl) ?_
        refine z_gr C0 hw 6 0 7 (fk_of shc_6 rfl) fl_X6_11 (dk2 dF_180 DX6_agreement (i := 12) rfl rfl rfl) ?_
        refine lv_iload_n hx hb (dkP dF_29 DX6_agreement (i := 13) rfl rfl) rfl (lv_at hl 0 rfl) ?_
        refine lv_iconst (v := 3) hx hb (dkP dF_6 DX6_agreement (i := 14) rfl rfl) (by decide) ?_
        refine lv_iadd hx hb (dkP dF_96 DX6_agreement (i := 15) rfl rfl) ?_
        refine z_top (y := nI (q3_6 + 3)) (by simp only [fa_lit, nI_add, pk_mul]) ?_
        refine z_ialdN (n := 100) C0 hw 7 (q3_6 + 3) (ak_of shc_7) (by omega) (by decide) (dkP dF_46 DX6_agreement (i := 16) rfl rfl) ?_
        obtain ⟨v5, ev5⟩ : ∃ y : Int32, σ.1 7 (q3_6 + 3) = y := ⟨_, rfl⟩
        refine z_top (y := v5) ev5 ?_
        refine lv_if_le (tgt := 29) hx hb (dkS dF_158 DX6_agreement (i := 17) rfl rfl rfl) (by decide) (fun c6 => ?_) (fun c6 => ?_)
        · (try simp (disch := omega) only [ta_lt, ta_le, ta_eq, tnI, tl32 0 (by decide)] at c6)
          refine lv_iload_n hx hb (dkP dF_28 DX6_agreement (i := 19) rfl rfl) rfl (lv_at hl 1 rfl) ?_
          refine lv_aload_n hx hb (dkP dF_42 DX6_agreement (i := 20) rfl rfl) rfl (lv_at hl 3 rfl) ?_
          refine z_gr C0 hw 6 0 7 (fk_of shc_6 rfl) fl_X6_11 (dk2 dF_180 DX6_agreement (i := 21) rfl rfl rfl) ?_
          refine lv_iload_n hx hb (dkP dF_29 DX6_agreement (i := 22) rfl rfl) rfl (lv_at hl 0 rfl) ?_
          refine lv_iconst (v := 1) hx hb (dkP dF_4 DX6_agreement (i := 23) rfl rfl) (by decide) ?_
          refine lv_iadd hx hb (dkP dF_96 DX6_agreement (i := 24) rfl rfl) ?_
          refine z_top (y := nI (q3_6 + 1)) (by simp only [fa_lit, nI_add, pk_mul]) ?_
          refine z_ialdN (n := 100) C0 hw 7 (q3_6 + 1) (ak_of shc_7) (by omega) (by decide) (dkP dF_46 DX6_agreement (i := 25) rfl rfl) ?_
          obtain ⟨v7, ev7⟩ : ∃ y : Int32, σ.1 7 (q3_6 + 1) = y := ⟨_, rfl⟩
          refine z_top (y := v7) ev7 ?_
          refine lv_aload_n hx hb (dkP dF_42 DX6_agreement (i := 26) rfl rfl) rfl (lv_at hl 3 rfl) ?_
          refine z_gi C0 hw 6 1 (fk_of shc_6 rfl) fl_X6_15 (dk2 dF_180 DX6_agreement (i := 27) rfl rfl rfl) ?_
          obtain ⟨n8, hm8, hn8, en8⟩ := rngP (x := σ.1 6 1) (l := 1) (h := 9) (by decide) (tcr_16_1 hT tcl_6)
          refine z_top (y := nI n8) en8 ?_
          refine lv_aload_n hx hb (dkP dF_42 DX6_agreement (i := 28) rfl rfl) rfl (lv_at hl 3 rfl) ?_
          refine z_gr C0 hw 6 0 7 (fk_of shc_6 rfl) fl_X6_11 (dk2 dF_180 DX6_agreement (i := 29) rfl rfl rfl) ?_
          refine lv_iload_n hx hb (dkP dF_29 DX6_agreement (i := 30) rfl rfl) rfl (lv_at hl 0 rfl) ?_
          refine z_ialdN (n := 100) C0 hw 7 q3_6 (ak_of shc_7) (by omega) (by decide) (dkP dF_46 DX6_agreement (i := 31) rfl rfl) ?_
          obtain ⟨v9, ev9⟩ : ∃ y : Int32, σ.1 7 q3_6 = y := ⟨_, rfl⟩
          refine z_top (y := v9) ev9 ?_
          refine lv_imul hx hb (dkP dF_104 DX6_agreement (i := 32) rfl rfl) ?_
          refine lv_aload_n hx hb (dkP dF_42 DX6_agreement (i := 33) rfl rfl) rfl (lv_at hl 3 rfl) ?_
          refine z_gi C0 hw 6 2 (fk_of shc_6 rfl) fl_X6_25 (dk2 dF_180 DX6_agreement (i := 34) rfl rfl rfl) ?_
          obtain ⟨v10, ev10⟩ : ∃ y : Int32, σ.1 6 2 = y := ⟨_, rfl⟩
          refine z_top (y := v10) ev10 ?_
          refine lv_iadd hx hb (dkP dF_96 DX6_agreement (i := 35) rfl rfl) ?_
          refine lv_icmp_ne (tgt := 61) hx hb (dkS dF_160 DX6_agreement (i := 36) rfl rfl rfl) (by decide) (fun c11 => ?_) (fun c11 => ?_)
          · skip
            refine lv_iconst (v := 0) hx hb (dkP dF_3 DX6_agreement (i := 39) rfl rfl) (by decide) ?_
            refine lv_iand hx hb (dkP dF_126 DX6_agreement (i := 40) rfl rfl) ?_
            refine z_top (y := 0) (an0 (by omega)) ?_
            refine lv_istore_n (lv' := [(2, .int 0), (3, .int (nI q3_6)), (1, .int (nI q1_6)), (0, .ref (ad 6))]) hx hb (dkP dF_61 DX6_agreement (i := 41) rfl rfl) rfl hl (by decide) rfl (fun ls hl => ?_)
            refine lv_iinc (v := nI (q3_6 + 5)) (lv' := [(3, .int (nI (q3_6 + 5))), (2, .int 0), (1, .int (nI q1_6)), (0, .ref (ad 6))]) hx hb (dkI DX6_agreement (i := 42) rfl rfl rfl rfl) hl (k := 1) rfl (nI_add _ 5) (by decide) rfl (fun ls hl => ?_)
            refine lv_goto (tgt := 6) hx hb (dkS dF_167 DX6_agreement (i := 43) rfl rfl rfl) (by decide) ?_
            exact ih1 (q3_6 + 5) 0 q1_6 _ _ _ (by omega) (by (try simp only [lg_cmp_lt, lg_cmp_le, lg_cmp_gt, lg_cmp_ge, lg_cmp_eq] at c2); (try simp (disch := omega) only [ta_lt, ta_le, ta_eq, tb_lt, tb_le, tb_eq, tw, tnI, tsub1, tsv, tsb32, tn32 3 (by decide), tnj 3 (by decide), tn32 1 (by decide), tnj 1 (by decide), tl32 0 (by decide), tl64 0 (by decide), tl32 1 (by decide), tl64 1 (by decide), tl32 3 (by decide), tl64 3 (by decide)] at c2); (try simp only [lg_cmp_lt, lg_cmp_le, lg_cmp_gt, lg_cmp_ge, lg_cmp_eq] at c6); (try simp (disch := omega) only [ta_lt, ta_le, ta_eq, tb_lt, tb_le, tb_eq, tw, tnI, tsub1, tsv, tsb32, tn32 3 (by decide), tnj 3 (by decide), tn32 1 (by decide), tnj 1 (by decide), tl32 0 (by decide), tl64 0 (by decide), tl32 1 (by decide), tl64 1 (by decide), tl32 3 (by decide), tl64 3 (by decide)] at c6); (try simp only [lg_cmp_lt, lg_cmp_le, lg_cmp_gt, lg_cmp_ge, lg_cmp_eq] at c11); (try simp (disch := omega) only [ta_lt, ta_le, ta_eq, tb_lt, tb_le, tb_eq, tw, tnI, tsub1, tsv, tsb32, tn32 3 (by decide), tnj 3 (by decide), tn32 1 (by decide), tnj 1 (by decide), tl32 0 (by decide), tl64 0 (by decide), tl32 1 (by decide), tl64 1 (by decide), tl32 3 (by decide), tl64 3 (by decide)] at c11); (try simp (disch := omega) only [ta_lt, ta_le, ta_eq, tb_lt, tb_le, tb_eq, tw, tnI, tsub1, tsv, tsb32, tn32 3 (by decide), tnj 3 (by decide), tn32 1 (by decide), tnj 1 (by decide), tl32 0 (by decide), tl64 0 (by decide), tl32 1 (by decide), tl64 1 (by decide), tl32 3 (by decide), tl64 3 (by decide)]); omega) (by (try simp only [lg_cmp_lt, lg_cmp_le, lg_cmp_gt, lg_cmp_ge, lg_cmp_eq] at c2); (try simp (disch := omega) only [ta_lt, ta_le, ta_eq, tb_lt, tb_le, tb_eq, tw, tnI, tsub1, tsv, tsb32, tn32 3 (by decide), tnj 3 (by decide), tn32 1 (by decide), tnj 1 (by decide), tl32 0 (by decide), tl64 0 (by decide), tl32 1 (by decide), tl64 1 (by decide), tl32 3 (by decide), tl64 3 (by decide)] at c2); (try simp only [lg_cmp_lt, lg_cmp_le, lg_cmp_gt, lg_cmp_ge, lg_cmp_eq] at c6); (try simp (disch := omega) only [ta_lt, ta_le, ta_eq, tb_lt, tb_le, tb_eq, tw, tnI, tsub1, tsv, tsb32, tn32 3 (by decide), tnj 3 (by decide), tn32 1 (by decide), tnj 1 (by decide), tl32 0 (by decide), tl64 0 (by decide), tl32 1 (by decide), tl64 1 (by decide), tl32 3 (by decide), tl64 3 (by decide)] at c6); (try simp only [lg_cmp_lt, lg_cmp_le, lg_cmp_gt, lg_cmp_ge, lg_cmp_eq] at c11); (try simp (disch := omega) only [ta_lt, ta_le, ta_eq, tb_lt, tb_le, tb_eq, tw, tnI, tsub1, tsv, tsb32, tn32 3 (by decide), tnj 3 (by decide), tn32 1 (by decide), tnj 1 (by decide), tl32 0 (by decide), tl64 0 (by decide), tl32 1 (by decide), tl64 1 (by decide), tl32 3 (by decide), tl64 3 (by decide)] at c11); (try simp (disch := omega) only [ta_lt, ta_le, ta_eq, tb_lt, tb_le, tb_eq, tw, tnI, tsub1, tsv, tsb32, tn32 3 (by decide), tnj 3 (by decide), tn32 1 (by decide), tnj 1 (by decide), tl32 0 (by decide), tl64 0 (by decide), tl32 1 (by decide), tl64 1 (by decide), tl32 3 (by decide), tl64 3 (by decide)]); omega) (by (try simp only [lg_cmp_lt, lg_cmp_le, lg_cmp_gt, lg_cmp_ge, lg_cmp_eq] at c2); (try simp (disch := omega) only [ta_lt, ta_le, ta_eq, tb_lt, tb_le, tb_eq, tw, tnI, tsub1, tsv, tsb32, tn32 3 (by decide), tnj 3 (by decide), tn32 1 (by decide), tnj 1 (by decide), tl32 0 (by decide), tl64 0 (by decide), tl32 1 (by decide), tl64 1 (by decide), tl32 3 (by decide), tl64 3 (by decide)] at c2); (try simp only [lg_cmp_lt, lg_cmp_le, lg_cmp_gt, lg_cmp_ge, lg_cmp_eq] at c6); (try simp (disch := omega) only [ta_lt, ta_le, ta_eq, tb_lt, tb_le, tb_eq, tw, tnI, tsub1, tsv, tsb32, tn32 3 (by decide), tnj 3 (by decide), tn32 1 (by decide), tnj 1 (by decide), tl32 0 (by decide), tl64 0 (by decide), tl32 1 (by decide), tl64 1 (by decide), tl32 3 (by decide), tl64 3 (by decide)] at c6); (try simp only [lg_cmp_lt, lg_cmp_le, lg_cmp_gt, lg_cmp_ge, lg_cmp_eq] at c11); (try simp (disch := omega) only [ta_lt, ta_le, ta_eq, tb_lt, tb_le, tb_eq, tw, tnI, tsub1, tsv, tsb32, tn32 3 (by decide), tnj 3 (by decide), tn32 1 (by decide), tnj 1 (by decide), tl32 0 (by decide), tl64 0 (by decide), tl32 1 (by decide), tl64 1 (by decide), tl32 3 (by decide), tl64 3 (by decide)] at c11); (try simp (disch := omega) only [ta_lt, ta_le, ta_eq, tb_lt, tb_le, tb_eq, tw, tnI, tsub1, tsv, tsb32, tn32 3 (by decide), tnj 3 (by decide), tn32 1 (by decide), tnj 1 (by decide), tl32 0 (by decide), tl64 0 (by decide), tl32 1 (by decide), tl64 1 (by decide), tl32 3 (by decide), tl64 3 (by decide)]); omega) (by omega) (by have h9 := CHI.s (nb' := q1_6) (ag' := 0) hci (Or.inr ⟨(by rw [show 5 * (q3_6 / 5) + 3 = q3_6 + 3 from by omega, ev5]; omega), by omega⟩) (Or.inr ⟨Or.inr (fun z => by rw [show 5 * (q3_6 / 5) + 1 = q3_6 + 1 from by omega, show 5 * (q3_6 / 5) = q3_6 from by omega, ev7, en8, ev9, ev10] at z; exact c11 z), rfl⟩); rw [show q3_6 / 5 + 1 = (q3_6 + 5) / 5 from by omega] at h9; exact h9) hw (lv_sub hl [0, 1, 2, 3] rfl)
          · skip
            refine lv_iconst (v := 1) hx hb (dkP dF_4 DX6_agreement (i := 37) rfl rfl) (by decide) ?_
            refine lv_goto (tgt := 62) hx hb (dkS dF_167 DX6_agreement (i := 38) rfl rfl rfl) (by decide) ?_
            refine lv_iand hx hb (dkP dF_126 DX6_agreement (i := 40) rfl rfl) ?_
            refine z_top (y := nI q2_6) (an1 (by omega)) ?_
            refine lv_istore_n (lv' := [(2, .int (nI q2_6)), (3, .int (nI q3_6)), (1, .int (nI q1_6)), (0, .ref (ad 6))]) hx hb (dkP dF_61 DX6_agreement (i := 41) rfl rfl) rfl hl (by decide) rfl (fun ls hl => ?_)
            refine lv_iinc (v := nI (q3_6 + 5)) (lv' := [(3, .int (nI (q3_6 + 5))), (2, .int (nI q2_6)), (1, .int (nI q1_6)), (0, .ref (ad 6))]) hx hb (dkI DX6_agreement (i := 42) rfl rfl rfl rfl) hl (k := 1) rfl (nI_add _ 5) (by decide) rfl (fun ls hl => ?_)
            refine lv_goto (tgt := 6) hx hb (dkS dF_167 DX6_agreement (i := 43) rfl rfl rfl) (by decide) ?_
            exact ih1 (q3_6 + 5) q2_6 q1_6 _ _ _ (by omega) (by (try simp only [lg_cmp_lt, lg_cmp_le, lg_cmp_gt, lg_cmp_ge, lg_cmp_eq] at c2); (try simp (disch := omega) only [ta_lt, ta_le, ta_eq, tb_lt, tb_le, tb_eq, tw, tnI, tsub1, tsv, tsb32, tn32 3 (by decide), tnj 3 (by decide), tn32 1 (by decide), tnj 1 (by decide), tl32 0 (by decide), tl64 0 (by decide), tl32 1 (by decide), tl64 1 (by decide), tl32 3 (by decide), tl64 3 (by decide)] at c2); (try simp only [lg_cmp_lt, lg_cmp_le, lg_cmp_gt, lg_cmp_ge, lg_cmp_eq] at c6); (try simp (disch := omega) only [ta_lt, ta_le, ta_eq, tb_lt, tb_le, tb_eq, tw, tnI, tsub1, tsv, tsb32, tn32 3 (by decide), tnj 3 (by decide), tn32 1 (by decide), tnj 1 (by decide), tl32 0 (by decide), tl64 0 (by decide), tl32 1 (by decide), tl64 1 (by decide), tl32 3 (by decide), tl64 3 (by decide)] at c6); (try simp only [lg_cmp_lt, lg_cmp_le, lg_cmp_gt, lg_cmp_ge, lg_cmp_eq] at c11); (try simp (disch := omega) only [ta_lt, ta_le, ta_eq, tb_lt, tb_le, tb_eq, tw, tnI, tsub1, tsv, tsb32, tn32 3 (by decide), tnj 3 (by decide), tn32 1 (by decide), tnj 1 (by decide), tl32 0 (by decide), tl64 0 (by decide), tl32 1 (by decide), tl64 1 (by decide), tl32 3 (by decide), tl64 3 (by decide)] at c11); (try simp (disch := omega) only [ta_lt, ta_le, ta_eq, tb_lt, tb_le, tb_eq, tw, tnI, tsub1, tsv, tsb32, tn32 3 (by decide), tnj 3 (by decide), tn32 1 (by decide), tnj 1 (by decide), tl32 0 (by decide), tl64 0 (by decide), tl32 1 (by decide), tl64 1 (by decide), tl32 3 (by decide), tl64 3 (by decide)]); omega) (by (try simp only [lg_cmp_lt, lg_cmp_le, lg_cmp_gt, lg_cmp_ge, lg_cmp_eq] at c2); (try simp (disch := omega) only [ta_lt, ta_le, ta_eq, tb_lt, tb_le, tb_eq, tw, tnI, tsub1, tsv, tsb32, tn32 3 (by decide), tnj 3 (by decide), tn32 1 (by decide), tnj 1 (by decide), tl32 0 (by decide), tl64 0 (by decide), tl32 1 (by decide), tl64 1 (by decide), tl32 3 (by decide), tl64 3 (by decide)] at c2); (try simp only [lg_cmp_lt, lg_cmp_le, lg_cmp_gt, lg_cmp_ge, lg_cmp_eq] at c6); (try simp (disch := omega) only [ta_lt, ta_le, ta_eq, tb_lt, tb_le, tb_eq, tw, tnI, tsub1, tsv, tsb32, tn32 3 (by decide), tnj 3 (by decide), tn32 1 (by decide), tnj 1 (by decide), tl32 0 (by decide), tl64 0 (by decide), tl32 1 (by decide), tl64 1 (by decide), tl32 3 (by decide), tl64 3 (by decide)] at c6); (try simp only [lg_cmp_lt, lg_cmp_le, lg_cmp_gt, lg_cmp_ge, lg_cmp_eq] at c11); (try simp (disch := omega) only [ta_lt, ta_le, ta_eq, tb_lt, tb_le, tb_eq, tw, tnI, tsub1, tsv, tsb32, tn32 3 (by decide), tnj 3 (by decide), tn32 1 (by decide), tnj 1 (by decide), tl32 0 (by decide), tl64 0 (by decide), tl32 1 (by decide), tl64 1 (by decide), tl32 3 (by decide), tl64 3 (by decide)] at c11); (try simp (disch := omega) only [ta_lt, ta_le, ta_eq, tb_lt, tb_le, tb_eq, tw, tnI, tsub1, tsv, tsb32, tn32 3 (by decide), tnj 3 (by decide), tn32 1 (by decide), tnj 1 (by decide), tl32 0 (by decide), tl64 0 (by decide), tl32 1 (by decide), tl64 1 (by decide), tl32 3 (by decide), tl64 3 (by decide)]); omega) (by (try simp only [lg_cmp_lt, lg_cmp_le, lg_cmp_gt, lg_cmp_ge, lg_cmp_eq] at c2); (try simp (disch := omega) only [ta_lt, ta_le, ta_eq, tb_lt, tb_le, tb_eq, tw, tnI, tsub1, tsv, tsb32, tn32 3 (by decide), tnj 3 (by decide), tn32 1 (by decide), tnj 1 (by decide), tl32 0 (by decide), tl64 0 (by decide), tl32 1 (by decide), tl64 1 (by decide), tl32 3 (by decide), tl64 3 (by decide)] at c2); (try simp only [lg_cmp_lt, lg_cmp_le, lg_cmp_gt, lg_cmp_ge, lg_cmp_eq] at c6); (try simp (disch := omega) only [ta_lt, ta_le, ta_eq, tb_lt, tb_le, tb_eq, tw, tnI, tsub1, tsv, tsb32, tn32 3 (by decide), tnj 3 (by decide), tn32 1 (by decide), tnj 1 (by decide), tl32 0 (by decide), tl64 0 (by decide), tl32 1 (by decide), tl64 1 (by decide), tl32 3 (by decide), tl64 3 (by decide)] at c6); (try simp only [lg_cmp_lt, lg_cmp_le, lg_cmp_gt, lg_cmp_ge, lg_cmp_eq] at c11); (try simp (disch := omega) only [ta_lt, ta_le, ta_eq, tb_lt, tb_le, tb_eq, tw, tnI, tsub1, tsv, tsb32, tn32 3 (by decide), tnj 3 (by decide), tn32 1 (by decide), tnj 1 (by decide), tl32 0 (by decide), tl64 0 (by decide), tl32 1 (by decide), tl64 1 (by decide), tl32 3 (by decide), tl64 3 (by decide)] at c11); (try simp (disch := omega) only [ta_lt, ta_le, ta_eq, tb_lt, tb_le, tb_eq, tw, tnI, tsub1, tsv, tsb32, tn32 3 (by decide), tnj 3 (by decide), tn32 1 (by decide), tnj 1 (by decide), tl32 0 (by decide), tl64 0 (by decide), tl32 1 (by decide), tl64 1 (by decide), tl32 3 (by decide), tl64 3 (by decide)]); omega) (by omega) (by have h9 := CHI.s (nb' := q1_6) (ag' := q2_6) hci (Or.inr ⟨(by rw [show 5 * (q3_6 / 5) + 3 = q3_6 + 3 from by omega, ev5]; omega), by omega⟩) (by rcases (by omega : q2_6 = 1 ∨ q2_6 = 0) with h_ | h_; (· exact Or.inl ⟨h_, (by rw [show 5 * (q3_6 / 5) + 1 = q3_6 + 1 from by omega, show 5 * (q3_6 / 5) = q3_6 from by omega, ev7, en8, ev9, ev10]; exact (by first | exact c11 | exact Decidable.not_not.mp c11)), h_⟩); (· exact Or.inr ⟨Or.inl h_, h_⟩)); rw [show q3_6 / 5 + 1 = (q3_6 + 5) / 5 from by omega] at h9; exact h9) hw (lv_sub hl [0, 1, 2, 3] rfl)
        · (try simp (disch := omega) only [ta_lt, ta_le, ta_eq, tnI, tl32 0 (by decide)] at c6)
          refine lv_iinc (v := nI (q1_6 + 1)) (lv' := [(1, .int (nI (q1_6 + 1))), (3, .int (nI q3_6)), (2, .int (nI q2_6)), (0, .ref (ad 6))]) hx hb (dkI DX6_agreement (i := 18) rfl rfl rfl rfl) hl (k := 2) rfl (nI_1 _) (by decide) rfl (fun ls hl => ?_)
          refine lv_iload_n hx hb (dkP dF_28 DX6_agreement (i := 19) rfl rfl) rfl (lv_at hl 2 rfl) ?_
          refine lv_aload_n hx hb (dkP dF_42 DX6_agreement (i := 20) rfl rfl) rfl (lv_at hl 3 rfl) ?_
          refine z_gr C0 hw 6 0 7 (fk_of shc_6 rfl) fl_X6_11 (dk2 dF_180 DX6_agreement (i := 21) rfl rfl rfl) ?_
          refine lv_iload_n hx hb (dkP dF_29 DX6_agreement (i := 22) rfl rfl) rfl (lv_at hl 1 rfl) ?_
          refine lv_iconst (v := 1) hx hb (dkP dF_4 DX6_agreement (i := 23) rfl rfl) (by decide) ?_
          refine lv_iadd hx hb (dkP dF_96 DX6_agreement (i := 24) rfl rfl) ?_
          refine z_top (y := nI (q3_6 + 1)) (by simp only [fa_lit, nI_add, pk_mul]) ?_
          refine z_ialdN (n := 100) C0 hw 7 (q3_6 + 1) (ak_of shc_7) (by omega) (by decide) (dkP dF_46 DX6_agreement (i := 25) rfl rfl) ?_
          obtain ⟨v12, ev12⟩ : ∃ y : Int32, σ.1 7 (q3_6 + 1) = y := ⟨_, rfl⟩
          refine z_top (y := v12) ev12 ?_
          refine lv_aload_n hx hb (dkP dF_42 DX6_agreement (i := 26) rfl rfl) rfl (lv_at hl 3 rfl) ?_
          refine z_gi C0 hw 6 1 (fk_of shc_6 rfl) fl_X6_15 (dk2 dF_180 DX6_agreement (i := 27) rfl rfl rfl) ?_
          obtain ⟨n13, hm13, hn13, en13⟩ := rngP (x := σ.1 6 1) (l := 1) (h := 9) (by decide) (tcr_16_1 hT tcl_6)
          refine z_top (y := nI n13) en13 ?_
          refine lv_aload_n hx hb (dkP dF_42 DX6_agreement (i := 28) rfl rfl) rfl (lv_at hl 3 rfl) ?_
          refine z_gr C0 hw 6 0 7 (fk_of shc_6 rfl) fl_X6_11 (dk2 dF_180 DX6_agreement (i := 29) rfl rfl rfl) ?_
          refine lv_iload_n hx hb (dkP dF_29 DX6_agreement (i := 30) rfl rfl) rfl (lv_at hl 1 rfl) ?_
          refine z_ialdN (n := 100) C0 hw 7 q3_6 (ak_of shc_7) (by omega) (by decide) (dkP dF_46 DX6_agreement (i := 31) rfl rfl) ?_
          obtain ⟨v14, ev14⟩ : ∃ y : Int32, σ.1 7 q3_6 = y := ⟨_, rfl⟩
          refine z_top (y := v14) ev14 ?_
          refine lv_imul hx hb (dkP dF_104 DX6_agreement (i := 32) rfl rfl) ?_
          refine lv_aload_n hx hb (dkP dF_42 DX6_agreement (i := 33) rfl rfl) rfl (lv_at hl 3 rfl) ?_
          refine z_gi C0 hw 6 2 (fk_of shc_6 rfl) fl_X6_25 (dk2 dF_180 DX6_agreement (i := 34) rfl rfl rfl) ?_
          obtain ⟨v15, ev15⟩ : ∃ y : Int32, σ.1 6 2 = y := ⟨_, rfl⟩
          refine z_top (y := v15) ev15 ?_
          refine lv_iadd hx hb (dkP dF_96 DX6_agreement (i := 35) rfl rfl) ?_
          refine lv_icmp_ne (tgt := 61) hx hb (dkS dF_160 DX6_agreement (i := 36) rfl rfl rfl) (by decide) (fun c16 => ?_) (fun c16 => ?_)
          · skip
            refine lv_iconst (v := 0) hx hb (dkP dF_3 DX6_agreement (i := 39) rfl rfl) (by decide) ?_
            refine lv_iand hx hb (dkP dF_126 DX6_agreement (i := 40) rfl rfl) ?_
            refine z_top (y := 0) (an0 (by omega)) ?_
            refine lv_istore_n (lv' := [(2, .int 0), (1, .int (nI (q1_6 + 1))), (3, .int (nI q3_6)), (0, .ref (ad 6))]) hx hb (dkP dF_61 DX6_agreement (i := 41) rfl rfl) rfl hl (by decide) rfl (fun ls hl => ?_)
            refine lv_iinc (v := nI (q3_6 + 5)) (lv' := [(3, .int (nI (q3_6 + 5))), (2, .int 0), (1, .int (nI (q1_6 + 1))), (0, .ref (ad 6))]) hx hb (dkI DX6_agreement (i := 42) rfl rfl rfl rfl) hl (k := 2) rfl (nI_add _ 5) (by decide) rfl (fun ls hl => ?_)
            refine lv_goto (tgt := 6) hx hb (dkS dF_167 DX6_agreement (i := 43) rfl rfl rfl) (by decide) ?_
            exact ih1 (q3_6 + 5) 0 (q1_6 + 1) _ _ _ (by omega) (by (try simp only [lg_cmp_lt, lg_cmp_le, lg_cmp_gt, lg_cmp_ge, lg_cmp_eq] at c2); (try simp (disch := omega) only [ta_lt, ta_le, ta_eq, tb_lt, tb_le, tb_eq, tw, tnI, tsub1, tsv, tsb32, tn32 3 (by decide), tnj 3 (by decide), tn32 1 (by decide), tnj 1 (by decide), tl32 0 (by decide), tl64 0 (by decide), tl32 1 (by decide), tl64 1 (by decide), tl32 3 (by decide), tl64 3 (by decide)] at c2); (try simp only [lg_cmp_lt, lg_cmp_le, lg_cmp_gt, lg_cmp_ge, lg_cmp_eq] at c6); (try simp (disch := omega) only [ta_lt, ta_le, ta_eq, tb_lt, tb_le, tb_eq, tw, tnI, tsub1, tsv, tsb32, tn32 3 (by decide), tnj 3 (by decide), tn32 1 (by decide), tnj 1 (by decide), tl32 0 (by decide), tl64 0 (by decide), tl32 1 (by decide), tl64 1 (by decide), tl32 3 (by decide), tl64 3 (by decide)] at c6); (try simp only [lg_cmp_lt, lg_cmp_le, lg_cmp_gt, lg_cmp_ge, lg_cmp_eq] at c16); (try simp (disch := omega) only [ta_lt, ta_le, ta_eq, tb_lt, tb_le, tb_eq, tw, tnI, tsub1, tsv, tsb32, tn32 3 (by decide), tnj 3 (by decide), tn32 1 (by decide), tnj 1 (by decide), tl32 0 (by decide), tl64 0 (by decide), tl32 1 (by decide), tl64 1 (by decide), tl32 3 (by decide), tl64 3 (by decide)] at c16); (try simp (disch := omega) only [ta_lt, ta_le, ta_eq, tb_lt, tb_le, tb_eq, tw, tnI, tsub1, tsv, tsb32, tn32 3 (by decide), tnj 3 (by decide), tn32 1 (by decide), tnj 1 (by decide), tl32 0 (by decide), tl64 0 (by decide), tl32 1 (by decide), tl64 1 (by decide), tl32 3 (by decide), tl64 3 (by decide)]); omega) (by (try simp only [lg_cmp_lt, lg_cmp_le, lg_cmp_gt, lg_cmp_ge, lg_cmp_eq] at c2); (try simp (disch := omega) only [ta_lt, ta_le, ta_eq, tb_lt, tb_le, tb_eq, tw, tnI, tsub1, tsv, tsb32, tn32 3 (by decide), tnj 3 (by decide), tn32 1 (by decide), tnj 1 (by decide), tl32 0 (by decide), tl64 0 (by decide), tl32 1 (by decide), tl64 1 (by decide), tl32 3 (by decide), tl64 3 (by decide)] at c2); (try simp only [lg_cmp_lt, lg_cmp_le, lg_cmp_gt, lg_cmp_ge, lg_cmp_eq] at c6); (try simp (disch := omega) only [ta_lt, ta_le, ta_eq, tb_lt, tb_le, tb_eq, tw, tnI, tsub1, tsv, tsb32, tn32 3 (by decide), tnj 3 (by decide), tn32 1 (by decide), tnj 1 (by decide), tl32 0 (by decide), tl64 0 (by decide), tl32 1 (by decide), tl64 1 (by decide), tl32 3 (by decide), tl64 3 (by decide)] at c6); (try simp only [lg_cmp_lt, lg_cmp_le, lg_cmp_gt, lg_cmp_ge, lg_cmp_eq] at c16); (try simp (disch := omega) only [ta_lt, ta_le, ta_eq, tb_lt, tb_le, tb_eq, tw, tnI, tsub1, tsv, tsb32, tn32 3 (by decide), tnj 3 (by decide), tn32 1 (by decide), tnj 1 (by decide), tl32 0 (by decide), tl64 0 (by decide), tl32 1 (by decide), tl64 1 (by decide), tl32 3 (by decide), tl64 3 (by decide)] at c16); (try simp (disch := omega) only [ta_lt, ta_le, ta_eq, tb_lt, tb_le, tb_eq, tw, tnI, tsub1, tsv, tsb32, tn32 3 (by decide), tnj 3 (by decide), tn32 1 (by decide), tnj 1 (by decide), tl32 0 (by decide), tl64 0 (by decide), tl32 1 (by decide), tl64 1 (by decide), tl32 3 (by decide), tl64 3 (by decide)]); omega) (by (try simp only [lg_cmp_lt, lg_cmp_le, lg_cmp_gt, lg_cmp_ge, lg_cmp_eq] at c2); (try simp (disch := omega) only [ta_lt, ta_le, ta_eq, tb_lt, tb_le, tb_eq, tw, tnI, tsub1, tsv, tsb32, tn32 3 (by decide), tnj 3 (by decide), tn32 1 (by decide), tnj 1 (by decide), tl32 0 (by decide), tl64 0 (by decide), tl32 1 (by decide), tl64 1 (by decide), tl32 3 (by decide), tl64 3 (by decide)] at c2); (try simp only [lg_cmp_lt, lg_cmp_le, lg_cmp_gt, lg_cmp_ge, lg_cmp_eq] at c6); (try simp (disch := omega) only [ta_lt, ta_le, ta_eq, tb_lt, tb_le, tb_eq, tw, tnI, tsub1, tsv, tsb32, tn32 3 (by decide), tnj 3 (by decide), tn32 1 (by decide), tnj 1 (by decide), tl32 0 (by decide), tl64 0 (by decide), tl32 1 (by decide), tl64 1 (by decide), tl32 3 (by decide), tl64 3 (by decide)] at c6); (try simp only [lg_cmp_lt, lg_cmp_le, lg_cmp_gt, lg_cmp_ge, lg_cmp_eq] at c16); (try simp (disch := omega) only [ta_lt, ta_le, ta_eq, tb_lt, tb_le, tb_eq, tw, tnI, tsub1, tsv, tsb32, tn32 3 (by decide), tnj 3 (by decide), tn32 1 (by decide), tnj 1 (by decide), tl32 0 (by decide), tl64 0 (by decide), tl32 1 (by decide), tl64 1 (by decide), tl32 3 (by decide), tl64 3 (by decide)] at c16); (try simp (disch := omega) only [ta_lt, ta_le, ta_eq, tb_lt, tb_le, tb_eq, tw, tnI, tsub1, tsv, tsb32, tn32 3 (by decide), tnj 3 (by decide), tn32 1 (by decide), tnj 1 (by decide), tl32 0 (by decide), tl64 0 (by decide), tl32 1 (by decide), tl64 1 (by decide), tl32 3 (by decide), tl64 3 (by decide)]); omega) (by omega) (by have h9 := CHI.s (nb' := q1_6 + 1) (ag' := 0) hci (Or.inl ⟨(by rw [show 5 * (q3_6 / 5) + 3 = q3_6 + 3 from by omega, ev5]; omega), by omega⟩) (Or.inr ⟨Or.inr (fun z => by rw [show 5 * (q3_6 / 5) + 1 = q3_6 + 1 from by omega, show 5 * (q3_6 / 5) = q3_6 from by omega, ev12, en13, ev14, ev15] at z; exact c16 z), rfl⟩); rw [show q3_6 / 5 + 1 = (q3_6 + 5) / 5 from by omega] at h9; exact h9) hw (lv_sub hl [0, 1, 2, 3] rfl)
          · skip
            refine lv_iconst (v := 1) hx hb (dkP dF_4 DX6_agreement (i := 37) rfl rfl) (by decide) ?_
            refine lv_goto (tgt := 62) hx hb (dkS dF_167 DX6_agreement (i := 38) rfl rfl rfl) (by decide) ?_
            refine lv_iand hx hb (dkP dF_126 DX6_agreement (i := 40) rfl rfl) ?_
            refine z_top (y := nI q2_6) (an1 (by omega)) ?_
            refine lv_istore_n (lv' := [(2, .int (nI q2_6)), (1, .int (nI (q1_6 + 1))), (3, .int (nI q3_6)), (0, .ref (ad 6))]) hx hb (dkP dF_61 DX6_agreement (i := 41) rfl rfl) rfl hl (by decide) rfl (fun ls hl => ?_)
            refine lv_iinc (v := nI (q3_6 + 5)) (lv' := [(3, .int (nI (q3_6 + 5))), (2, .int (nI q2_6)), (1, .int (nI (q1_6 + 1))), (0, .ref (ad 6))]) hx hb (dkI DX6_agreement (i := 42) rfl rfl rfl rfl) hl (k := 2) rfl (nI_add _ 5) (by decide) rfl (fun ls hl => ?_)
            refine lv_goto (tgt := 6) hx hb (dkS dF_167 DX6_agreement (i := 43) rfl rfl rfl) (by decide) ?_
            exact ih1 (q3_6 + 5) q2_6 (q1_6 + 1) _ _ _ (by omega) (by (try simp only [lg_cmp_lt, lg_cmp_le, lg_cmp_gt, lg_cmp_ge, lg_cmp_eq] at c2); (try simp (disch := omega) only [ta_lt, ta_le, ta_eq, tb_lt, tb_le, tb_eq, tw, tnI, tsub1, tsv, tsb32, tn32 3 (by decide), tnj 3 (by decide), tn32 1 (by decide), tnj 1 (by decide), tl32 0 (by decide), tl64 0 (by decide), tl32 1 (by decide), tl64 1 (by decide), tl32 3 (by decide), tl64 3 (by decide)] at c2); (try simp only [lg_cmp_lt, lg_cmp_le, lg_cmp_gt, lg_cmp_ge, lg_cmp_eq] at c6); (try simp (disch := omega) only [ta_lt, ta_le, ta_eq, tb_lt, tb_le, tb_eq, tw, tnI, tsub1, tsv, tsb32, tn32 3 (by decide), tnj 3 (by decide), tn32 1 (by decide), tnj 1 (by decide), tl32 0 (by decide), tl64 0 (by decide), tl32 1 (by decide), tl64 1 (by decide), tl32 3 (by decide), tl64 3 (by decide)] at c6); (try simp only [lg_cmp_lt, lg_cmp_le, lg_cmp_gt, lg_cmp_ge, lg_cmp_eq] at c16); (try simp (disch := omega) only [ta_lt, ta_le, ta_eq, tb_lt, tb_le, tb_eq, tw, tnI, tsub1, tsv, tsb32, tn32 3 (by decide), tnj 3 (by decide), tn32 1 (by decide), tnj 1 (by decide), tl32 0 (by decide), tl64 0 (by decide), tl32 1 (by decide), tl64 1 (by decide), tl32 3 (by decide), tl64 3 (by decide)] at c16); (try simp (disch := omega) only [ta_lt, ta_le, ta_eq, tb_lt, tb_le, tb_eq, tw, tnI, tsub1, tsv, tsb32, tn32 3 (by decide), tnj 3 (by decide), tn32 1 (by decide), tnj 1 (by decide), tl32 0 (by decide), tl64 0 (by decide), tl32 1 (by decide), tl64 1 (by decide), tl32 3 (by decide), tl64 3 (by decide)]); omega) (by (try simp only [lg_cmp_lt, lg_cmp_le, lg_cmp_gt, lg_cmp_ge, lg_cmp_eq] at c2); (try simp (disch := omega) only [ta_lt, ta_le, ta_eq, tb_lt, tb_le, tb_eq, tw, tnI, tsub1, tsv, tsb32, tn32 3 (by decide), tnj 3 (by decide), tn32 1 (by decide), tnj 1 (by decide), tl32 0 (by decide), tl64 0 (by decide), tl32 1 (by decide), tl64 1 (by decide), tl32 3 (by decide), tl64 3 (by decide)] at c2); (try simp only [lg_cmp_lt, lg_cmp_le, lg_cmp_gt, lg_cmp_ge, lg_cmp_eq] at c6); (try simp (disch := omega) only [ta_lt, ta_le, ta_eq, tb_lt, tb_le, tb_eq, tw, tnI, tsub1, tsv, tsb32, tn32 3 (by decide), tnj 3 (by decide), tn32 1 (by decide), tnj 1 (by decide), tl32 0 (by decide), tl64 0 (by decide), tl32 1 (by decide), tl64 1 (by decide), tl32 3 (by decide), tl64 3 (by decide)] at c6); (try simp only [lg_cmp_lt, lg_cmp_le, lg_cmp_gt, lg_cmp_ge, lg_cmp_eq] at c16); (try simp (disch := omega) only [ta_lt, ta_le, ta_eq, tb_lt, tb_le, tb_eq, tw, tnI, tsub1, tsv, tsb32, tn32 3 (by decide), tnj 3 (by decide), tn32 1 (by decide), tnj 1 (by decide), tl32 0 (by decide), tl64 0 (by decide), tl32 1 (by decide), tl64 1 (by decide), tl32 3 (by decide), tl64 3 (by decide)] at c16); (try simp (disch := omega) only [ta_lt, ta_le, ta_eq, tb_lt, tb_le, tb_eq, tw, tnI, tsub1, tsv, tsb32, tn32 3 (by decide), tnj 3 (by decide), tn32 1 (by decide), tnj 1 (by decide), tl32 0 (by decide), tl64 0 (by decide), tl32 1 (by decide), tl64 1 (by decide), tl32 3 (by decide), tl64 3 (by decide)]); omega) (by (try simp only [lg_cmp_lt, lg_cmp_le, lg_cmp_gt, lg_cmp_ge, lg_cmp_eq] at c2); (try simp (disch := omega) only [ta_lt, ta_le, ta_eq, tb_lt, tb_le, tb_eq, tw, tnI, tsub1, tsv, tsb32, tn32 3 (by decide), tnj 3 (by decide), tn32 1 (by decide), tnj 1 (by decide), tl32 0 (by decide), tl64 0 (by decide), tl32 1 (by decide), tl64 1 (by decide), tl32 3 (by decide), tl64 3 (by decide)] at c2); (try simp only [lg_cmp_lt, lg_cmp_le, lg_cmp_gt, lg_cmp_ge, lg_cmp_eq] at c6); (try simp (disch := omega) only [ta_lt, ta_le, ta_eq, tb_lt, tb_le, tb_eq, tw, tnI, tsub1, tsv, tsb32, tn32 3 (by decide), tnj 3 (by decide), tn32 1 (by decide), tnj 1 (by decide), tl32 0 (by decide), tl64 0 (by decide), tl32 1 (by decide), tl64 1 (by decide), tl32 3 (by decide), tl64 3 (by decide)] at c6); (try simp only [lg_cmp_lt, lg_cmp_le, lg_cmp_gt, lg_cmp_ge, lg_cmp_eq] at c16); (try simp (disch := omega) only [ta_lt, ta_le, ta_eq, tb_lt, tb_le, tb_eq, tw, tnI, tsub1, tsv, tsb32, tn32 3 (by decide), tnj 3 (by decide), tn32 1 (by decide), tnj 1 (by decide), tl32 0 (by decide), tl64 0 (by decide), tl32 1 (by decide), tl64 1 (by decide), tl32 3 (by decide), tl64 3 (by decide)] at c16); (try simp (disch := omega) only [ta_lt, ta_le, ta_eq, tb_lt, tb_le, tb_eq, tw, tnI, tsub1, tsv, tsb32, tn32 3 (by decide), tnj 3 (by decide), tn32 1 (by decide), tnj 1 (by decide), tl32 0 (by decide), tl64 0 (by decide), tl32 1 (by decide), tl64 1 (by decide), tl32 3 (by decide), tl64 3 (by decide)]); omega) (by omega) (by have h9 := CHI.s (nb' := q1_6 + 1) (ag' := q2_6) hci (Or.inl ⟨(by rw [show 5 * (q3_6 / 5) + 3 = q3_6 + 3 from by omega, ev5]; omega), by omega⟩) (by rcases (by omega : q2_6 = 1 ∨ q2_6 = 0) with h_ | h_; (· exact Or.inl ⟨h_, (by rw [show 5 * (q3_6 / 5) + 1 = q3_6 + 1 from by omega, show 5 * (q3_6 / 5) = q3_6 from by omega, ev12, en13, ev14, ev15]; exact (by first | exact c16 | exact Decidable.not_not.mp c16)), h_⟩); (· exact Or.inr ⟨Or.inl h_, h_⟩)); rw [show q3_6 / 5 + 1 = (q3_6 + 5) / 5 from by omega] at h9; exact h9) hw (lv_sub hl [0, 1, 2, 3] rfl)
  exact lp1 _ 0 1 0 _ _ _ (Nat.lt_succ_self _) (by (try simp (disch := omega) only [ta_lt, ta_le, ta_eq, tb_lt, tb_le, tb_eq, tw, tnI, tsub1, tsv, tsb32, tn32 3 (by decide), tnj 3 (by decide), tn32 1 (by decide), tnj 1 (by decide), tl32 0 (by decide), tl64 0 (by decide), tl32 1 (by decide), tl64 1 (by decide), tl32 3 (by decide), tl64 3 (by decide)]); omega) (by (try simp (disch := omega) only [ta_lt, ta_le, ta_eq, tb_lt, tb_le, tb_eq, tw, tnI, tsub1, tsv, tsb32, tn32 3 (by decide), tnj 3 (by decide), tn32 1 (by decide), tnj 1 (by decide), tl32 0 (by decide), tl64 0 (by decide), tl32 1 (by decide), tl64 1 (by decide), tl32 3 (by decide), tl64 3 (by decide)]); omega) (by (try simp (disch := omega) only [ta_lt, ta_le, ta_eq, tb_lt, tb_le, tb_eq, tw, tnI, tsub1, tsv, tsb32, tn32 3 (by decide), tnj 3 (by decide), tn32 1 (by decide), tnj 1 (by decide), tl32 0 (by decide), tl64 0 (by decide), tl32 1 (by decide), tl64 1 (by decide), tl32 3 (by decide), tl64 3 (by decide)]); omega) (by decide) CHI_0 hw (lv_sub hl [0, 1, 2, 3] rfl)
