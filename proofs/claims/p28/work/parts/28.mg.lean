set_option maxRecDepth 100000 in
set_option maxHeartbeats 8000000 in
theorem c_X12_isCase (l : Launch) (G : va_G) (kc : KC) (ad : Nat → Nat) (σ : Sg) (pg : Nat) (cs : Nat) (hp8 : pg < 8) (hcs : cs < 40) (hT : TM σ) : MI l G kc yX12_isCase cX12_isCase 5 (some .boolean) 1 25 [.ref (ad 0), .int (nI pg), .int (nI cs)] shM ad σ (fun r σ1 => ((r = 1 ∧ (True)) ∨ (r = 0 ∧ (True))) ∧ σ1 = σ) := by
  intro sz
  refine z_body (y := yX12_isCase) (n := 5) (av := [.ref (ad 0), .int (nI pg), .int (nI cs)]) (Qc := fun A => va_Qi (fun r σ1 => ((r = 1 ∧ (True)) ∨ (r = 0 ∧ (True))) ∧ σ1 = σ) (PoC G kc shM ad A) A) (plainFor_of_name (by decide)) (Nat.le_of_ble_eq_true rfl) (fun pr e s m below meth c A C0 hr hlk hnm hw hRo ls hl => ?_) sz
  have hx := C0.1
  have hb := C0.2.1
  have hown := C0.2.2.2.1
  have hts := C0.2.2.2.2.1
  have hl : lv_has ls 5 [(0, .ref (ad 0)), (1, .int (nI pg)), (2, .int (nI cs))] := hl
  refine lv_iconst (v := 0) hx hb (dkP dF_3 DX12_isCase (i := 0) rfl rfl) (by decide) ?_
  refine lv_istore_n (lv' := [(3, .int 0), (0, .ref (ad 0)), (1, .int (nI pg)), (2, .int (nI cs))]) hx hb (dkP dF_62 DX12_isCase (i := 1) rfl rfl) rfl hl (by decide) rfl (fun ls hl => ?_)
  have lp1 : ∀ (nq : Nat) (q3_2 : Nat) (H : Heap) (locs : List Loc) (ls : Array Slot), 2147483647 - q3_2 < nq → (q3_2 ≤ 2147483647) → St G kc A s.heap shM ad σ H locs → lv_has ls 5 [(3, .int (nI q3_2)), (0, .ref (ad 0)), (1, .int (nI pg)), (2, .int (nI cs))] → W pr l e { frames := 1, cells := 0, slots := 0, locals := 25 } s m ([.ref (ad 0), .int (nI pg), .int (nI cs)] : List Value).toArray below meth c H locs 0 0 (MQ below (va_Qi (fun r σ1 => ((r = 1 ∧ (True)) ∨ (r = 0 ∧ (True))) ∧ σ1 = σ) (PoC G kc shM ad A) A) ([.ref (ad 0), .int (nI pg), .int (nI cs)] : List Value).toArray s 0 0 A) (F0 m 2 ls []) := by
    intro nq
    induction nq with
    | zero => intro q3_2 H locs ls hmu; exact absurd hmu (Nat.not_lt_zero _)
    | succ nq ih1 =>
      intro q3_2 H locs ls hmu hq3_2 hw hl
      refine lv_iload_n hx hb (dkP dF_29 DX12_isCase (i := 2) rfl rfl) rfl (lv_at hl 0 rfl) ?_
      refine lv_aload_n hx hb (dkP dF_42 DX12_isCase (i := 3) rfl rfl) rfl (lv_at hl 1 rfl) ?_
      refine z_gr C0 hw 0 1 1 rfl fl_X12_20 (dk2 dF_180 DX12_isCase (i := 4) rfl rfl rfl) ?_
      refine lv_iload_n hx hb (dkP dF_27 DX12_isCase (i := 5) rfl rfl) rfl (lv_at hl 2 rfl) ?_
      refine lv_iload_n hx hb (dkP dF_28 DX12_isCase (i := 6) rfl rfl) rfl (lv_at hl 3 rfl) ?_
      refine zn_I hw (zr_S (As := [.int (nI pg), .int (nI cs)]) (rest := [.ref (ad 1), .int (nI q3_2)]) C0 (c_X12_caseAt l G kc pg cs  _) cs_X12_caseAt lk_X12_310 (zp_P C0 hRo hw a00 s00) rfl hl.1 rfl ⟨by decide, by decide⟩ (Nat.le_of_ble_eq_true rfl) (dk2 dF_184 DX12_isCase (i := 7) rfl rfl rfl) ⟨Nat.le_refl _, Nat.le_refl _⟩) (fun r2 s2 H locs hp hw => ?_)
      subst hp
      refine z_ialdN (n := 414128) C0 hw 1 (3240 + 2 * (40 * pg + cs)) rfl (by omega) (by decide) (dkP dF_46 DX12_isCase (i := 8) rfl rfl) ?_
      obtain ⟨n3, hn3, en3⟩ := rngN (x := σ.1 1 (3240 + 2 * (40 * pg + cs))) (h := 100) (wTy_t (by omega) (by omega) (hT 1 _))
      refine z_top (y := nI n3) en3 ?_
      refine lv_icmp_ge (tgt := 91) hx hb (dkS dF_162 DX12_isCase (i := 9) rfl rfl rfl) (by decide) (fun c4 => ?_) (fun c4 => ?_)
      · simp (disch := omega) only [ta_lt, ta_le, ta_eq, tnI] at c4
        refine lv_iconst (v := 1) hx hb (dkP dF_4 DX12_isCase (i := 51) rfl rfl) (by decide) ?_
        exact z_zret C0 hr hlk (by decide) hw (⟨(Or.inl ⟨rfl, trivial⟩), rfl⟩) (dkP dF_172 DX12_isCase (i := 52) rfl rfl)
      · simp (disch := omega) only [ta_lt, ta_le, ta_eq, tnI] at c4
        refine lv_iload_n hx hb (dkP dF_27 DX12_isCase (i := 10) rfl rfl) rfl (lv_at hl 2 rfl) ?_
        refine lv_iload_n hx hb (dkP dF_28 DX12_isCase (i := 11) rfl rfl) rfl (lv_at hl 3 rfl) ?_
        refine lv_iload_n hx hb (dkP dF_29 DX12_isCase (i := 12) rfl rfl) rfl (lv_at hl 0 rfl) ?_
        refine zn_I hw (zr_S (As := [.int (nI pg), .int (nI cs), .int (nI q3_2)]) (rest := []) C0 (c_X12_testAt l G kc pg cs q3_2  _) cs_X12_testAt lk_X12_313 (zp_P C0 hRo hw a00 s00) rfl hl.1 rfl ⟨by decide, by decide⟩ (Nat.le_of_ble_eq_true rfl) (dk2 dF_184 DX12_isCase (i := 13) rfl rfl rfl) ⟨Nat.le_refl _, Nat.le_refl _⟩) (fun r5 s5 H locs hp hw => ?_)
        subst hp
        refine lv_istore (lv' := [(4, .int (nI (3880 + 12 * (100 * (40 * pg + cs) + q3_2)))), (3, .int (nI q3_2)), (0, .ref (ad 0)), (1, .int (nI pg)), (2, .int (nI cs))]) hx hb (dk1 dF_54 DX12_isCase (i := 14) rfl rfl rfl) hl (by decide) rfl (fun ls hl => ?_)
        refine lv_aload_n hx hb (dkP dF_42 DX12_isCase (i := 15) rfl rfl) rfl (lv_at hl 2 rfl) ?_
        refine lv_aload_n hx hb (dkP dF_42 DX12_isCase (i := 16) rfl rfl) rfl (lv_at hl 2 rfl) ?_
        refine z_gr C0 hw 0 1 1 rfl fl_X12_20 (dk2 dF_180 DX12_isCase (i := 17) rfl rfl rfl) ?_
        refine lv_iload hx hb (dk1 dF_21 DX12_isCase (i := 18) rfl rfl rfl) (lv_at hl 0 rfl) ?_
        refine lv_aload_n hx hb (dkP dF_42 DX12_isCase (i := 19) rfl rfl) rfl (lv_at hl 2 rfl) ?_
        refine z_gr C0 hw 0 20 11 rfl fl_X12_57 (dk2 dF_180 DX12_isCase (i := 20) rfl rfl rfl) ?_
        refine zk_I hw (zr_V (As := [.ref (ad 1), .int (nI (3880 + 12 * (100 * (40 * pg + cs) + q3_2))), .ref (ad 11)]) (rest := []) C0 (c_X12_worked_11 l G kc ad σ (3880 + 12 * (100 * (40 * pg + cs) + q3_2)) (by first | omega | assumption | decide | rfl) hT _) cv_X12_worked lk_X12_345 (zp_V C0 hRo hw 0 rfl rfl rfl) rfl hl.1 rfl ⟨by decide, by decide⟩ (Nat.le_of_ble_eq_true rfl) (dk2 dF_182 DX12_isCase (i := 21) rfl rfl rfl) ⟨Nat.le_refl _, Nat.le_refl _⟩) (fun r6 s6 H locs hp hw => ?_)
        have hs6 := hp
        (rw [hs6] at hw)
        refine lv_aload_n hx hb (dkP dF_42 DX12_isCase (i := 22) rfl rfl) rfl (lv_at hl 2 rfl) ?_
        refine z_gr C0 hw 0 1 1 rfl fl_X12_20 (dk2 dF_180 DX12_isCase (i := 23) rfl rfl rfl) ?_
        refine lv_iload hx hb (dk1 dF_21 DX12_isCase (i := 24) rfl rfl rfl) (lv_at hl 0 rfl) ?_
        refine lv_bipush (v := 9) hx hb (dks dF_16 DX12_isCase (i := 25) rfl rfl rfl) (by decide) ?_
        refine lv_iadd hx hb (dkP dF_96 DX12_isCase (i := 26) rfl rfl) ?_
        refine z_top (y := nI ((3880 + 12 * (100 * (40 * pg + cs) + q3_2)) + 9)) (by simp only [fa_lit, nI_add, pk_mul]) ?_
        refine z_ialdN (n := 414128) C0 hw 1 ((3880 + 12 * (100 * (40 * pg + cs) + q3_2)) + 9) rfl (by omega) (by decide) (dkP dF_46 DX12_isCase (i := 27) rfl rfl) ?_
        obtain ⟨v7, ev7⟩ : ∃ y : Int32, σ.1 1 ((3880 + 12 * (100 * (40 * pg + cs) + q3_2)) + 9) = y := ⟨_, rfl⟩
        refine z_top (y := v7) ev7 ?_
        refine lv_aload_n hx hb (dkP dF_42 DX12_isCase (i := 28) rfl rfl) rfl (lv_at hl 2 rfl) ?_
        refine z_gr C0 hw 0 1 1 rfl fl_X12_20 (dk2 dF_180 DX12_isCase (i := 29) rfl rfl rfl) ?_
        refine lv_iload hx hb (dk1 dF_21 DX12_isCase (i := 30) rfl rfl rfl) (lv_at hl 0 rfl) ?_
        refine lv_bipush (v := 10) hx hb (dks dF_16 DX12_isCase (i := 31) rfl rfl rfl) (by decide) ?_
        refine lv_iadd hx hb (dkP dF_96 DX12_isCase (i := 32) rfl rfl) ?_
        refine z_top (y := nI ((3880 + 12 * (100 * (40 * pg + cs) + q3_2)) + 10)) (by simp only [fa_lit, nI_add, pk_mul]) ?_
        refine z_ialdN (n := 414128) C0 hw 1 ((3880 + 12 * (100 * (40 * pg + cs) + q3_2)) + 10) rfl (by omega) (by decide) (dkP dF_46 DX12_isCase (i := 33) rfl rfl) ?_
        obtain ⟨v8, ev8⟩ : ∃ y : Int32, σ.1 1 ((3880 + 12 * (100 * (40 * pg + cs) + q3_2)) + 10) = y := ⟨_, rfl⟩
        refine z_top (y := v8) ev8 ?_
        refine zn_I hw (zr_S (As := [.int r6, .int v7, .int v8]) (rest := []) C0 (c_X12_holds l G kc r6 v7 v8  _) cs_X12_holds lk_X12_353 (zp_P C0 hRo hw a00 s00) rfl hl.1 rfl ⟨by decide, by decide⟩ (Nat.le_of_ble_eq_true rfl) (dk2 dF_184 DX12_isCase (i := 34) rfl rfl rfl) ⟨Nat.le_refl _, Nat.le_refl _⟩) (fun r9 s9 H locs hp hw => ?_)
        rcases hp with rfl | rfl
        · skip
          refine lv_aload_n hx hb (dkP dF_42 DX12_isCase (i := 35) rfl rfl) rfl (lv_at hl 2 rfl) ?_
          refine z_gr C0 hw 0 1 1 rfl fl_X12_20 (dk2 dF_180 DX12_isCase (i := 36) rfl rfl rfl) ?_
          refine lv_iload hx hb (dk1 dF_21 DX12_isCase (i := 37) rfl rfl rfl) (lv_at hl 0 rfl) ?_
          refine lv_bipush (v := 11) hx hb (dks dF_16 DX12_isCase (i := 38) rfl rfl rfl) (by decide) ?_
          refine lv_iadd hx hb (dkP dF_96 DX12_isCase (i := 39) rfl rfl) ?_
          refine z_top (y := nI ((3880 + 12 * (100 * (40 * pg + cs) + q3_2)) + 11)) (by simp only [fa_lit, nI_add, pk_mul]) ?_
          refine z_ialdN (n := 414128) C0 hw 1 ((3880 + 12 * (100 * (40 * pg + cs) + q3_2)) + 11) rfl (by omega) (by decide) (dkP dF_46 DX12_isCase (i := 40) rfl rfl) ?_
          obtain ⟨v10, ev10⟩ : ∃ y : Int32, σ.1 1 ((3880 + 12 * (100 * (40 * pg + cs) + q3_2)) + 11) = y := ⟨_, rfl⟩
          refine z_top (y := v10) ev10 ?_
          refine lv_iconst (v := 1) hx hb (dkP dF_4 DX12_isCase (i := 41) rfl rfl) (by decide) ?_
          refine lv_icmp_ne (tgt := 79) hx hb (dkS dF_160 DX12_isCase (i := 42) rfl rfl rfl) (by decide) (fun c11 => ?_) (fun c11 => ?_)
          · (try simp (disch := omega) only [ta_lt, ta_le, ta_eq, tnI, tl32 1 (by decide)] at c11)
            refine lv_iconst (v := 0) hx hb (dkP dF_3 DX12_isCase (i := 45) rfl rfl) (by decide) ?_
            refine lv_icmp_ne (tgt := 85) hx hb (dkS dF_160 DX12_isCase (i := 46) rfl rfl rfl) (by decide) (fun h => absurd h (by decide)) (fun _ => ?_)
            refine lv_iconst (v := 0) hx hb (dkP dF_3 DX12_isCase (i := 47) rfl rfl) (by decide) ?_
            exact z_zret C0 hr hlk (by decide) hw (⟨(Or.inr ⟨rfl, trivial⟩), rfl⟩) (dkP dF_172 DX12_isCase (i := 48) rfl rfl)
          · (try simp (disch := omega) only [ta_lt, ta_le, ta_eq, tnI, tl32 1 (by decide)] at c11)
            refine lv_iconst (v := 1) hx hb (dkP dF_4 DX12_isCase (i := 43) rfl rfl) (by decide) ?_
            refine lv_goto (tgt := 80) hx hb (dkS dF_167 DX12_isCase (i := 44) rfl rfl rfl) (by decide) ?_
            refine lv_icmp_ne (tgt := 85) hx hb (dkS dF_160 DX12_isCase (i := 46) rfl rfl rfl) (by decide) (fun _ => ?_) (fun h => absurd h (by decide))
            refine lv_iinc (v := nI (q3_2 + 1)) (lv' := [(3, .int (nI (q3_2 + 1))), (4, .int (nI (3880 + 12 * (100 * (40 * pg + cs) + q3_2)))), (0, .ref (ad 0)), (1, .int (nI pg)), (2, .int (nI cs))]) hx hb (dkI DX12_isCase (i := 49) rfl rfl rfl rfl) hl (k := 1) rfl (nI_1 _) (by decide) rfl (fun ls hl => ?_)
            refine lv_goto (tgt := 2) hx hb (dkS dF_167 DX12_isCase (i := 50) rfl rfl rfl) (by decide) ?_
            exact ih1 (q3_2 + 1) _ _ _ (by omega) (by (try simp only [lg_cmp_lt, lg_cmp_le, lg_cmp_gt, lg_cmp_ge, lg_cmp_eq] at c4); (try simp (disch := omega) only [ta_lt, ta_le, ta_eq, tb_lt, tb_le, tb_eq, tw, tnI, tsub1, tsv, tn32 1 (by decide), tnj 1 (by decide), tl32 0 (by decide), tl64 0 (by decide), tl32 1 (by decide), tl64 1 (by decide), tl32 9 (by decide), tl64 9 (by decide), tl32 10 (by decide), tl64 10 (by decide), tl32 11 (by decide), tl64 11 (by decide)] at c4); (try simp only [lg_cmp_lt, lg_cmp_le, lg_cmp_gt, lg_cmp_ge, lg_cmp_eq] at c11); (try simp (disch := omega) only [ta_lt, ta_le, ta_eq, tb_lt, tb_le, tb_eq, tw, tnI, tsub1, tsv, tn32 1 (by decide), tnj 1 (by decide), tl32 0 (by decide), tl64 0 (by decide), tl32 1 (by decide), tl64 1 (by decide), tl32 9 (by decide), tl64 9 (by decide), tl32 10 (by decide), tl64 10 (by decide), tl32 11 (by decide), tl64 11 (by decide)] at c11); (try simp (disch := omega) only [ta_lt, ta_le, ta_eq, tb_lt, tb_le, tb_eq, tw, tnI, tsub1, tsv, tn32 1 (by decide), tnj 1 (by decide), tl32 0 (by decide), tl64 0 (by decide), tl32 1 (by decide), tl64 1 (by decide), tl32 9 (by decide), tl64 9 (by decide), tl32 10 (by decide), tl64 10 (by decide), tl32 11 (by decide), tl64 11 (by decide)]); omega) hw (lv_sub hl [0, 2, 3, 4] rfl)
        · skip
          refine lv_aload_n hx hb (dkP dF_42 DX12_isCase (i := 35) rfl rfl) rfl (lv_at hl 2 rfl) ?_
          refine z_gr C0 hw 0 1 1 rfl fl_X12_20 (dk2 dF_180 DX12_isCase (i := 36) rfl rfl rfl) ?_
          refine lv_iload hx hb (dk1 dF_21 DX12_isCase (i := 37) rfl rfl rfl) (lv_at hl 0 rfl) ?_
          refine lv_bipush (v := 11) hx hb (dks dF_16 DX12_isCase (i := 38) rfl rfl rfl) (by decide) ?_
          refine lv_iadd hx hb (dkP dF_96 DX12_isCase (i := 39) rfl rfl) ?_
          refine z_top (y := nI ((3880 + 12 * (100 * (40 * pg + cs) + q3_2)) + 11)) (by simp only [fa_lit, nI_add, pk_mul]) ?_
          refine z_ialdN (n := 414128) C0 hw 1 ((3880 + 12 * (100 * (40 * pg + cs) + q3_2)) + 11) rfl (by omega) (by decide) (dkP dF_46 DX12_isCase (i := 40) rfl rfl) ?_
          obtain ⟨v12, ev12⟩ : ∃ y : Int32, σ.1 1 ((3880 + 12 * (100 * (40 * pg + cs) + q3_2)) + 11) = y := ⟨_, rfl⟩
          refine z_top (y := v12) ev12 ?_
          refine lv_iconst (v := 1) hx hb (dkP dF_4 DX12_isCase (i := 41) rfl rfl) (by decide) ?_
          refine lv_icmp_ne (tgt := 79) hx hb (dkS dF_160 DX12_isCase (i := 42) rfl rfl rfl) (by decide) (fun c13 => ?_) (fun c13 => ?_)
          · (try simp (disch := omega) only [ta_lt, ta_le, ta_eq, tnI, tl32 1 (by decide)] at c13)
            refine lv_iconst (v := 0) hx hb (dkP dF_3 DX12_isCase (i := 45) rfl rfl) (by decide) ?_
            refine lv_icmp_ne (tgt := 85) hx hb (dkS dF_160 DX12_isCase (i := 46) rfl rfl rfl) (by decide) (fun _ => ?_) (fun h => absurd h (by decide))
            refine lv_iinc (v := nI (q3_2 + 1)) (lv' := [(3, .int (nI (q3_2 + 1))), (4, .int (nI (3880 + 12 * (100 * (40 * pg + cs) + q3_2)))), (0, .ref (ad 0)), (1, .int (nI pg)), (2, .int (nI cs))]) hx hb (dkI DX12_isCase (i := 49) rfl rfl rfl rfl) hl (k := 1) rfl (nI_1 _) (by decide) rfl (fun ls hl => ?_)
            refine lv_goto (tgt := 2) hx hb (dkS dF_167 DX12_isCase (i := 50) rfl rfl rfl) (by decide) ?_
            exact ih1 (q3_2 + 1) _ _ _ (by omega) (by (try simp only [lg_cmp_lt, lg_cmp_le, lg_cmp_gt, lg_cmp_ge, lg_cmp_eq] at c4); (try simp (disch := omega) only [ta_lt, ta_le, ta_eq, tb_lt, tb_le, tb_eq, tw, tnI, tsub1, tsv, tn32 1 (by decide), tnj 1 (by decide), tl32 0 (by decide), tl64 0 (by decide), tl32 1 (by decide), tl64 1 (by decide), tl32 9 (by decide), tl64 9 (by decide), tl32 10 (by decide), tl64 10 (by decide), tl32 11 (by decide), tl64 11 (by decide)] at c4); (try simp only [lg_cmp_lt, lg_cmp_le, lg_cmp_gt, lg_cmp_ge, lg_cmp_eq] at c13); (try simp (disch := omega) only [ta_lt, ta_le, ta_eq, tb_lt, tb_le, tb_eq, tw, tnI, tsub1, tsv, tn32 1 (by decide), tnj 1 (by decide), tl32 0 (by decide), tl64 0 (by decide), tl32 1 (by decide), tl64 1 (by decide), tl32 9 (by decide), tl64 9 (by decide), tl32 10 (by decide), tl64 10 (by decide), tl32 11 (by decide), tl64 11 (by decide)] at c13); (try simp (disch := omega) only [ta_lt, ta_le, ta_eq, tb_lt, tb_le, tb_eq, tw, tnI, tsub1, tsv, tn32 1 (by decide), tnj 1 (by decide), tl32 0 (by decide), tl64 0 (by decide), tl32 1 (by decide), tl64 1 (by decide), tl32 9 (by decide), tl64 9 (by decide), tl32 10 (by decide), tl64 10 (by decide), tl32 11 (by decide), tl64 11 (by decide)]); omega) hw (lv_sub hl [0, 2, 3, 4] rfl)
          · (try simp (disch := omega) only [ta_lt, ta_le, ta_eq, tnI, tl32 1 (by decide)] at c13)
            refine lv_iconst (v := 1) hx hb (dkP dF_4 DX12_isCase (i := 43) rfl rfl) (by decide) ?_
            refine lv_goto (tgt := 80) hx hb (dkS dF_167 DX12_isCase (i := 44) rfl rfl rfl) (by decide) ?_
            refine lv_icmp_ne (tgt := 85) hx hb (dkS dF_160 DX12_isCase (i := 46) rfl rfl rfl) (by decide) (fun h => absurd h (by decide)) (fun _ => ?_)
            refine lv_iconst (v := 0) hx hb (dkP dF_3 DX12_isCase (i := 47) rfl rfl) (by decide) ?_
            exact z_zret C0 hr hlk (by decide) hw (⟨(Or.inr ⟨rfl, trivial⟩), rfl⟩) (dkP dF_172 DX12_isCase (i := 48) rfl rfl)
  exact lp1 _ 0 _ _ _ (Nat.lt_succ_self _) (by (try simp (disch := omega) only [ta_lt, ta_le, ta_eq, tb_lt, tb_le, tb_eq, tw, tnI, tsub1, tsv, tn32 1 (by decide), tnj 1 (by decide), tl32 0 (by decide), tl64 0 (by decide), tl32 1 (by decide), tl64 1 (by decide), tl32 9 (by decide), tl64 9 (by decide), tl32 10 (by decide), tl64 10 (by decide), tl32 11 (by decide), tl64 11 (by decide)]); omega) hw (lv_sub hl [0, 1, 2, 3] rfl)
set_option maxRecDepth 100000 in
set_option maxHeartbeats 8000000 in
theorem c_X12_runsNew (l : Launch) (G : va_G) (kc : KC) (ad : Nat → Nat) (σ : Sg) (pg : Nat) (hp8 : pg < 8) (hT : TM σ) : MI l G kc yX12_runsNew cX12_runsNew 4 (some .int) 2 49 [.ref (ad 0), .int (nI pg)] shM ad σ (fun r σ1 => (0 ≤ r.toInt ∧ r.toInt ≤ 5) ∧ TM σ1 ∧ fr true [14] [25] σ σ1) := by
  intro sz
  refine z_body (y := yX12_runsNew) (n := 4) (av := [.ref (ad 0), .int (nI pg)]) (Qc := fun A => va_Qi (fun r σ1 => (0 ≤ r.toInt ∧ r.toInt ≤ 5) ∧ TM σ1 ∧ fr true [14] [25] σ σ1) (PoC G kc shM ad A) A) (plainFor_of_name (by decide)) (Nat.le_of_ble_eq_true rfl) (fun pr e s m below meth c A C0 hr hlk hnm hw hRo ls hl => ?_) sz
  have hx := C0.1
  have hb := C0.2.1
  have hown := C0.2.2.2.1
  have hts := C0.2.2.2.2.1
  have hl : lv_has ls 4 [(0, .ref (ad 0)), (1, .int (nI pg))] := hl
  refine lv_iconst (v := 0) hx hb (dkP dF_3 DX12_runsNew (i := 0) rfl rfl) (by decide) ?_
  refine lv_istore_n (lv' := [(2, .int 0), (0, .ref (ad 0)), (1, .int (nI pg))]) hx hb (dkP dF_61 DX12_runsNew (i := 1) rfl rfl) rfl hl (by decide) rfl (fun ls hl => ?_)
  have lp2 : ∀ (nq : Nat) (q2_2 : Nat) (τ1 : Sg) (H : Heap) (locs : List Loc) (ls : Array Slot), 8 - q2_2 < nq → (q2_2 ≤ 8) → (TM τ1) → (fr true [14] [25] σ τ1) → St G kc A s.heap shM ad τ1 H locs → lv_has ls 4 [(2, .int (nI q2_2)), (0, .ref (ad 0)), (1, .int (nI pg))] → W pr l e { frames := 2, cells := 0, slots := 0, locals := 49 } s m ([.ref (ad 0), .int (nI pg)] : List Value).toArray below meth c H locs 0 0 (MQ below (va_Qi (fun r σ1 => (0 ≤ r.toInt ∧ r.toInt ≤ 5) ∧ TM σ1 ∧ fr true [14] [25] σ σ1) (PoC G kc shM ad A) A) ([.ref (ad 0), .int (nI pg)] : List Value).toArray s 0 0 A) (F0 m 2 ls []) := by
    intro nq
    induction nq with
    | zero => intro q2_2 τ1 H locs ls hmu; exact absurd hmu (Nat.not_lt_zero _)
    | succ nq ih2 =>
      intro q2_2 τ1 H locs ls hmu hq2_2 hT_τ1 hF_τ1 hw hl
      refine lv_iload_n hx hb (dkP dF_28 DX12_runsNew (i := 2) rfl rfl) rfl (lv_at hl 0 rfl) ?_
      refine lv_bipush (v := 8) hx hb (dks dF_16 DX12_runsNew (i := 3) rfl rfl rfl) (by decide) ?_
      refine lv_icmp_ge (tgt := 26) hx hb (dkS dF_162 DX12_runsNew (i := 4) rfl rfl rfl) (by decide) (fun c3 => ?_) (fun c3 => ?_)
      · simp (disch := omega) only [ta_lt, ta_le, ta_eq, tnI, tl32 8 (by decide)] at c3
        refine lv_aload_n hx hb (dkP dF_42 DX12_runsNew (i := 15) rfl rfl) rfl (lv_at hl 1 rfl) ?_
        refine lv_iconst (v := (-1)) hx hb (dkP dF_2 DX12_runsNew (i := 16) rfl rfl) (by decide) ?_
        refine z_pi C0 hw 0 25 rfl fp_X12_360 (dk2 dF_181 DX12_runsNew (i := 17) rfl rfl rfl) (fun H locs hw => ?_)
        have hT4 : TM (sI τ1 0 25 (-1)) := TM.w hT_τ1 (show -1 ≤ _ ∧ _ ≤ 39 from by (try simp only [lg_cmp_lt, lg_cmp_le, lg_cmp_gt, lg_cmp_ge, lg_cmp_eq] at c3); (try simp (disch := omega) only [ta_lt, ta_le, ta_eq, tb_lt, tb_le, tb_eq, tw, tnI, tsub1, tsv, tn32 1 (by decide), tnj 1 (by decide), tl32 0 (by decide), tl64 0 (by decide), tl32 8 (by decide), tl64 8 (by decide)] at c3); (try simp (disch := omega) only [ta_lt, ta_le, ta_eq, tb_lt, tb_le, tb_eq, tw, tnI, tsub1, tsv, tn32 1 (by decide), tnj 1 (by decide), tl32 0 (by decide), tl64 0 (by decide), tl32 8 (by decide), tl64 8 (by decide)]); omega)
        have hF4 : fr true [14] [25] σ (sI τ1 0 25 (-1)) := fr.w hF_τ1 (Or.inr ⟨rfl, by decide⟩) (fun _ h => absurd h (by decide))
        refine lv_iconst (v := 0) hx hb (dkP dF_3 DX12_runsNew (i := 18) rfl rfl) (by decide) ?_
        refine lv_istore_n (lv' := [(2, .int 0), (0, .ref (ad 0)), (1, .int (nI pg))]) hx hb (dkP dF_61 DX12_runsNew (i := 19) rfl rfl) rfl hl (by decide) rfl (fun ls hl => ?_)
        have lp6 : ∀ (nq : Nat) (q2_33 : Nat) (τ5 : Sg) (H : Heap) (locs : List Loc) (ls : Array Slot), 2147483647 - q2_33 < nq → (q2_33 ≤ 2147483647) → (TM τ5) → (fr true [14] [25] σ τ5) → St G kc A s.heap shM ad τ5 H locs → lv_has ls 4 [(2, .int (nI q2_33)), (0, .ref (ad 0)), (1, .int (nI pg))] → W pr l e { frames := 2, cells := 0, slots := 0, locals := 49 } s m ([.ref (ad 0), .int (nI pg)] : List Value).toArray below meth c H locs 0 0 (MQ below (va_Qi (fun r σ1 => (0 ≤ r.toInt ∧ r.toInt ≤ 5) ∧ TM σ1 ∧ fr true [14] [25] σ σ1) (PoC G kc shM ad A) A) ([.ref (ad 0), .int (nI pg)] : List Value).toArray s 0 0 A) (F0 m 33 ls []) := by
          intro nq
          induction nq with
          | zero => intro q2_33 τ5 H locs ls hmu; exact absurd hmu (Nat.not_lt_zero _)
          | succ nq ih6 =>
            intro q2_33 τ5 H locs ls hmu hq2_33 hT_τ5 hF_τ5 hw hl
            refine lv_iload_n hx hb (dkP dF_28 DX12_runsNew (i := 20) rfl rfl) rfl (lv_at hl 0 rfl) ?_
            refine lv_aload_n hx hb (dkP dF_42 DX12_runsNew (i := 21) rfl rfl) rfl (lv_at hl 1 rfl) ?_
            refine z_gr C0 hw 0 1 1 rfl fl_X12_20 (dk2 dF_180 DX12_runsNew (i := 22) rfl rfl rfl) ?_
            refine lv_iload_n hx hb (dkP dF_27 DX12_runsNew (i := 23) rfl rfl) rfl (lv_at hl 2 rfl) ?_
            refine zn_I hw (zr_S (As := [.int (nI pg)]) (rest := [.ref (ad 1), .int (nI q2_33)]) C0 (c_X12_of l G kc pg  _) cs_X12_of lk_X12_139 (zp_P C0 hRo hw a00 s00) rfl hl.1 rfl ⟨by decide, by decide⟩ (Nat.le_of_ble_eq_true rfl) (dk2 dF_184 DX12_runsNew (i := 24) rfl rfl rfl) ⟨Nat.le_refl _, Nat.le_refl _⟩) (fun r7 s7 H locs hp hw => ?_)
            subst hp
            refine lv_iconst (v := 2) hx hb (dkP dF_5 DX12_runsNew (i := 25) rfl rfl) (by decide) ?_
            refine lv_iadd hx hb (dkP dF_96 DX12_runsNew (i := 26) rfl rfl) ?_
            refine z_top (y := nI ((8 + 20 * pg) + 2)) (by simp only [fa_lit, nI_add, pk_mul]) ?_
            refine z_ialdN (n := 414128) C0 hw 1 ((8 + 20 * pg) + 2) rfl (by omega) (by decide) (dkP dF_46 DX12_runsNew (i := 27) rfl rfl) ?_
            obtain ⟨v8, ev8⟩ : ∃ y : Int32, τ5.1 1 ((8 + 20 * pg) + 2) = y := ⟨_, rfl⟩
            have hv8 : -1 ≤ v8.toInt ∧ v8.toInt ≤ 40 := by rw [← ev8]; exact (wTy_c (by omega) (hT_τ5 1 _))
            refine z_top (y := v8) ev8 ?_
            refine lv_icmp_ge (tgt := 80) hx hb (dkS dF_162 DX12_runsNew (i := 28) rfl rfl rfl) (by decide) (fun c9 => ?_) (fun c9 => ?_)
            · (try simp (disch := omega) only [ta_lt, ta_le, ta_eq, tnI] at c9); have hz9 := i32b v8
              refine lv_aload_n hx hb (dkP dF_42 DX12_runsNew (i := 45) rfl rfl) rfl (lv_at hl 1 rfl) ?_
              refine z_gi C0 hw 0 25 rfl fl_X12_360 (dk2 dF_180 DX12_runsNew (i := 46) rfl rfl rfl) ?_
              obtain ⟨v10, ev10⟩ : ∃ y : Int32, τ5.1 0 25 = y := ⟨_, rfl⟩
              have hv10 : -1 ≤ v10.toInt ∧ v10.toInt ≤ 39 := by rw [← ev10]; exact (show -1 ≤ _ ∧ _ ≤ 39 from hT_τ5 0 25)
              refine z_top (y := v10) ev10 ?_
              refine lv_iconst (v := (-1)) hx hb (dkP dF_2 DX12_runsNew (i := 47) rfl rfl) (by decide) ?_
              refine lv_icmp_ne (tgt := 90) hx hb (dkS dF_160 DX12_runsNew (i := 48) rfl rfl rfl) (by decide) (fun c11 => ?_) (fun c11 => ?_)
              · (try simp (disch := omega) only [ta_lt, ta_le, ta_eq, tnI, tn32 1 (by decide)] at c11)
                obtain ⟨n12, hn12, en12⟩ := rngN (x := v10) (h := 39) (show 0 ≤ _ ∧ _ ≤ 39 from by (try simp only [lg_cmp_lt, lg_cmp_le, lg_cmp_gt, lg_cmp_ge, lg_cmp_eq] at c3); (try simp (disch := omega) only [ta_lt, ta_le, ta_eq, tb_lt, tb_le, tb_eq, tw, tnI, tsub1, tsv, tn32 1 (by decide), tnj 1 (by decide), tl32 0 (by decide), tl64 0 (by decide), tl32 2 (by decide), tl64 2 (by decide), tl32 8 (by decide), tl64 8 (by decide)] at c3); (try simp only [lg_cmp_lt, lg_cmp_le, lg_cmp_gt, lg_cmp_ge, lg_cmp_eq] at c9); (try simp (disch := omega) only [ta_lt, ta_le, ta_eq, tb_lt, tb_le, tb_eq, tw, tnI, tsub1, tsv, tn32 1 (by decide), tnj 1 (by decide), tl32 0 (by decide), tl64 0 (by decide), tl32 2 (by decide), tl64 2 (by decide), tl32 8 (by decide), tl64 8 (by decide)] at c9); (try simp only [lg_cmp_lt, lg_cmp_le, lg_cmp_gt, lg_cmp_ge, lg_cmp_eq] at c11); (try simp (disch := omega) only [ta_lt, ta_le, ta_eq, tb_lt, tb_le, tb_eq, tw, tnI, tsub1, tsv, tn32 1 (by decide), tnj 1 (by decide), tl32 0 (by decide), tl64 0 (by decide), tl32 2 (by decide), tl64 2 (by decide), tl32 8 (by decide), tl64 8 (by decide)] at c11); (try simp (disch := omega) only [ta_lt, ta_le, ta_eq, tb_lt, tb_le, tb_eq, tw, tnI, tsub1, tsv, tn32 1 (by decide), tnj 1 (by decide), tl32 0 (by decide), tl64 0 (by decide), tl32 2 (by decide), tl64 2 (by decide), tl32 8 (by decide), tl64 8 (by decide)]); omega)
                refine lv_aload_n hx hb (dkP dF_42 DX12_runsNew (i := 51) rfl rfl) rfl (lv_at hl 1 rfl) ?_
                refine z_gr C0 hw 0 1 1 rfl fl_X12_20 (dk2 dF_180 DX12_runsNew (i := 52) rfl rfl rfl) ?_
                refine lv_iload_n hx hb (dkP dF_27 DX12_runsNew (i := 53) rfl rfl) rfl (lv_at hl 2 rfl) ?_
                refine lv_aload_n hx hb (dkP dF_42 DX12_runsNew (i := 54) rfl rfl) rfl (lv_at hl 1 rfl) ?_
                refine z_gi C0 hw 0 25 rfl fl_X12_360 (dk2 dF_180 DX12_runsNew (i := 55) rfl rfl rfl) ?_
                refine z_top (y := (nI n12)) (ev10.trans en12) ?_
                refine zn_I hw (zr_S (As := [.int (nI pg), .int (nI n12)]) (rest := [.ref (ad 1)]) C0 (c_X12_caseAt l G kc pg n12  _) cs_X12_caseAt lk_X12_310 (zp_P C0 hRo hw a00 s00) rfl hl.1 rfl ⟨by decide, by decide⟩ (Nat.le_of_ble_eq_true rfl) (dk2 dF_184 DX12_runsNew (i := 56) rfl rfl rfl) ⟨Nat.le_refl _, Nat.le_refl _⟩) (fun r13 s13 H locs hp hw => ?_)
                subst hp
                refine lv_iconst (v := 1) hx hb (dkP dF_4 DX12_runsNew (i := 57) rfl rfl) (by decide) ?_
                refine lv_iadd hx hb (dkP dF_96 DX12_runsNew (i := 58) rfl rfl) ?_
                refine z_top (y := nI ((3240 + 2 * (40 * pg + n12)) + 1)) (by simp only [fa_lit, nI_add, pk_mul]) ?_
                refine z_ialdN (n := 414128) C0 hw 1 ((3240 + 2 * (40 * pg + n12)) + 1) rfl (by omega) (by decide) (dkP dF_46 DX12_runsNew (i := 59) rfl rfl) ?_
                obtain ⟨n14, hn14, en14⟩ := rngN (x := τ5.1 1 ((3240 + 2 * (40 * pg + n12)) + 1)) (h := 8) (wTy_p (by omega) (by omega) (hT_τ5 1 _))
                refine z_top (y := nI n14) en14 ?_
                refine lv_istore_n (lv' := [(2, .int (nI n14)), (0, .ref (ad 0)), (1, .int (nI pg))]) hx hb (dkP dF_61 DX12_runsNew (i := 60) rfl rfl) rfl hl (by decide) rfl (fun ls hl => ?_)
                refine lv_iconst (v := 0) hx hb (dkP dF_3 DX12_runsNew (i := 61) rfl rfl) (by decide) ?_
                refine lv_istore_n (lv' := [(3, .int 0), (2, .int (nI n14)), (0, .ref (ad 0)), (1, .int (nI pg))]) hx hb (dkP dF_62 DX12_runsNew (i := 62) rfl rfl) rfl hl (by decide) rfl (fun ls hl => ?_)
                have lp15 : ∀ (nq : Nat) (q3_108 : Nat) (H : Heap) (locs : List Loc) (ls : Array Slot), 2147483647 - q3_108 < nq → (q3_108 ≤ 2147483647) → St G kc A s.heap shM ad τ5 H locs → lv_has ls 4 [(3, .int (nI q3_108)), (2, .int (nI n14)), (0, .ref (ad 0)), (1, .int (nI pg))] → W pr l e { frames := 2, cells := 0, slots := 0, locals := 49 } s m ([.ref (ad 0), .int (nI pg)] : List Value).toArray below meth c H locs 0 0 (MQ below (va_Qi (fun r σ1 => (0 ≤ r.toInt ∧ r.toInt ≤ 5) ∧ TM σ1 ∧ fr true [14] [25] σ σ1) (PoC G kc shM ad A) A) ([.ref (ad 0), .int (nI pg)] : List Value).toArray s 0 0 A) (F0 m 108 ls []) := by
                  intro nq
                  induction nq with
                  | zero => intro q3_108 H locs ls hmu; exact absurd hmu (Nat.not_lt_zero _)
                  | succ nq ih15 =>
                    intro q3_108 H locs ls hmu hq3_108 hw hl
                    refine lv_iload_n hx hb (dkP dF_29 DX12_runsNew (i := 63) rfl rfl) rfl (lv_at hl 0 rfl) ?_
                    refine lv_iload_n hx hb (dkP dF_28 DX12_runsNew (i := 64) rfl rfl) rfl (lv_at hl 1 rfl) ?_
                    refine lv_icmp_ge (tgt := 157) hx hb (dkS dF_162 DX12_runsNew (i := 65) rfl rfl rfl) (by decide) (fun c16 => ?_) (fun c16 => ?_)
                    · simp (disch := omega) only [ta_lt, ta_le, ta_eq, tnI] at c16
                      refine lv_iconst (v := 0) hx hb (dkP dF_3 DX12_runsNew (i := 88) rfl rfl) (by decide) ?_
                      refine lv_istore_n (lv' := [(3, .int 0), (2, .int (nI n14)), (0, .ref (ad 0)), (1, .int (nI pg))]) hx hb (dkP dF_62 DX12_runsNew (i := 89) rfl rfl) rfl hl (by decide) rfl (fun ls hl => ?_)
                      have lp18 : ∀ (nq : Nat) (q3_159 : Nat) (τ17 : Sg) (H : Heap) (locs : List Loc) (ls : Array Slot), 2147483647 - q3_159 < nq → (q3_159 ≤ 2147483647) → (τ17.1 0 25 = nI n12) → (TM τ17) → (fr true [14] [25] σ τ17) → St G kc A s.heap shM ad τ17 H locs → lv_has ls 4 [(3, .int (nI q3_159)), (2, .int (nI n14)), (0, .ref (ad 0)), (1, .int (nI pg))] → W pr l e { frames := 2, cells := 0, slots := 0, locals := 49 } s m ([.ref (ad 0), .int (nI pg)] : List Value).toArray below meth c H locs 0 0 (MQ below (va_Qi (fun r σ1 => (0 ≤ r.toInt ∧ r.toInt ≤ 5) ∧ TM σ1 ∧ fr true [14] [25] σ σ1) (PoC G kc shM ad A) A) ([.ref (ad 0), .int (nI pg)] : List Value).toArray s 0 0 A) (F0 m 159 ls []) := by
                        intro nq
                        induction nq with
                        | zero => intro q3_159 τ17 H locs ls hmu; exact absurd hmu (Nat.not_lt_zero _)
                        | succ nq ih18 =>
                          intro q3_159 τ17 H locs ls hmu hq3_159 hcd hT_τ17 hF_τ17 hw hl
                          refine lv_iload_n hx hb (dkP dF_29 DX12_runsNew (i := 90) rfl rfl) rfl (lv_at hl 0 rfl) ?_
                          refine lv_iload_n hx hb (dkP dF_28 DX12_runsNew (i := 91) rfl rfl) rfl (lv_at hl 1 rfl) ?_
                          refine lv_icmp_ge (tgt := 212) hx hb (dkS dF_162 DX12_runsNew (i := 92) rfl rfl rfl) (by decide) (fun c19 => ?_) (fun c19 => ?_)
                          · simp (disch := omega) only [ta_lt, ta_le, ta_eq, tnI] at c19
                            refine lv_iconst (v := 0) hx hb (dkP dF_3 DX12_runsNew (i := 119) rfl rfl) (by decide) ?_
                            exact z_iret C0 hr hlk hw (⟨(by decide), hT_τ17, hF_τ17⟩) (dkP dF_172 DX12_runsNew (i := 120) rfl rfl)
                          · simp (disch := omega) only [ta_lt, ta_le, ta_eq, tnI] at c19
                            refine lv_aload_n hx hb (dkP dF_42 DX12_runsNew (i := 93) rfl rfl) rfl (lv_at hl 2 rfl) ?_
                            refine z_gr C0 hw 0 24 14 rfl fl_X12_66 (dk2 dF_180 DX12_runsNew (i := 94) rfl rfl rfl) ?_
                            refine lv_aload_n hx hb (dkP dF_42 DX12_runsNew (i := 95) rfl rfl) rfl (lv_at hl 2 rfl) ?_
                            refine z_gr C0 hw 0 1 1 rfl fl_X12_20 (dk2 dF_180 DX12_runsNew (i := 96) rfl rfl rfl) ?_
                            refine lv_iload_n hx hb (dkP dF_27 DX12_runsNew (i := 97) rfl rfl) rfl (lv_at hl 3 rfl) ?_
                            refine lv_aload_n hx hb (dkP dF_42 DX12_runsNew (i := 98) rfl rfl) rfl (lv_at hl 2 rfl) ?_
                            refine z_gi C0 hw 0 25 rfl fl_X12_360 (dk2 dF_180 DX12_runsNew (i := 99) rfl rfl rfl) ?_
                            refine z_top (y := (nI n12)) hcd ?_
                            refine lv_iload_n hx hb (dkP dF_29 DX12_runsNew (i := 100) rfl rfl) rfl (lv_at hl 0 rfl) ?_
                            refine zn_I hw (zr_S (As := [.int (nI pg), .int (nI n12), .int (nI q3_159)]) (rest := [.ref (ad 1), .ref (ad 14)]) C0 (c_X12_putAt l G kc pg n12 q3_159  _) cs_X12_putAt lk_X12_317 (zp_P C0 hRo hw a00 s00) rfl hl.1 rfl ⟨by decide, by decide⟩ (Nat.le_of_ble_eq_true rfl) (dk2 dF_184 DX12_runsNew (i := 101) rfl rfl rfl) ⟨Nat.le_refl _, Nat.le_refl _⟩) (fun r20 s20 H locs hp hw => ?_)
                            subst hp
                            refine z_ialdN (n := 414128) C0 hw 1 (387880 + 10 * (8 * (40 * pg + n12) + q3_159)) rfl (by omega) (by decide) (dkP dF_46 DX12_runsNew (i := 102) rfl rfl) ?_
                            obtain ⟨n21, hn21, en21⟩ := rngN (x := τ17.1 1 (387880 + 10 * (8 * (40 * pg + n12) + q3_159))) (h := 7) (wTy_f (by omega) (by omega) (by omega) (hT_τ17 1 _))
                            refine z_top (y := nI n21) en21 ?_
                            refine lv_aload_n hx hb (dkP dF_42 DX12_runsNew (i := 103) rfl rfl) rfl (lv_at hl 2 rfl) ?_
                            refine lv_aload_n hx hb (dkP dF_42 DX12_runsNew (i := 104) rfl rfl) rfl (lv_at hl 2 rfl) ?_
                            refine z_gr C0 hw 0 1 1 rfl fl_X12_20 (dk2 dF_180 DX12_runsNew (i := 105) rfl rfl rfl) ?_
                            refine lv_iload_n hx hb (dkP dF_27 DX12_runsNew (i := 106) rfl rfl) rfl (lv_at hl 3 rfl) ?_
                            refine lv_aload_n hx hb (dkP dF_42 DX12_runsNew (i := 107) rfl rfl) rfl (lv_at hl 2 rfl) ?_
                            refine z_gi C0 hw 0 25 rfl fl_X12_360 (dk2 dF_180 DX12_runsNew (i := 108) rfl rfl rfl) ?_
                            refine z_top (y := (nI n12)) hcd ?_
                            refine lv_iload_n hx hb (dkP dF_29 DX12_runsNew (i := 109) rfl rfl) rfl (lv_at hl 0 rfl) ?_
                            refine zn_I hw (zr_S (As := [.int (nI pg), .int (nI n12), .int (nI q3_159)]) (rest := [.ref (ad 1), .ref (ad 0), .int (nI n21), .ref (ad 14)]) C0 (c_X12_putAt l G kc pg n12 q3_159  _) cs_X12_putAt lk_X12_317 (zp_P C0 hRo hw a00 s00) rfl hl.1 rfl ⟨by decide, by decide⟩ (Nat.le_of_ble_eq_true rfl) (dk2 dF_184 DX12_runsNew (i := 110) rfl rfl rfl) ⟨Nat.le_refl _, Nat.le_refl _⟩) (fun r22 s22 H locs hp hw => ?_)
                            subst hp
                            refine lv_iconst (v := 1) hx hb (dkP dF_4 DX12_runsNew (i := 111) rfl rfl) (by decide) ?_
                            refine lv_iadd hx hb (dkP dF_96 DX12_runsNew (i := 112) rfl rfl) ?_
                            refine z_top (y := nI ((387880 + 10 * (8 * (40 * pg + n12) + q3_159)) + 1)) (by simp only [fa_lit, nI_add, pk_mul]) ?_
                            refine lv_aload_n hx hb (dkP dF_42 DX12_runsNew (i := 113) rfl rfl) rfl (lv_at hl 2 rfl) ?_
                            refine z_gr C0 hw 0 20 11 rfl fl_X12_57 (dk2 dF_180 DX12_runsNew (i := 114) rfl rfl rfl) ?_
                            refine zk_I hw (zr_V (As := [.ref (ad 1), .int (nI ((387880 + 10 * (8 * (40 * pg + n12) + q3_159)) + 1)), .ref (ad 11)]) (rest := [.int (nI n21), .ref (ad 14)]) C0 (c_X12_worked_11 l G kc ad τ17 ((387880 + 10 * (8 * (40 * pg + n12) + q3_159)) + 1) (by first | omega | assumption | decide | rfl) hT_τ17 _) cv_X12_worked lk_X12_345 (zp_V C0 hRo hw 0 rfl rfl rfl) rfl hl.1 rfl ⟨by decide, by decide⟩ (Nat.le_of_ble_eq_true rfl) (dk2 dF_182 DX12_runsNew (i := 115) rfl rfl rfl) ⟨Nat.le_refl _, Nat.le_refl _⟩) (fun r23 s23 H locs hp hw => ?_)
                            have hs23 := hp
                            (rw [hs23] at hw)
                            refine z_iastN (n := 8) C0 hw 14 n21 rfl (by omega) (by decide) (dkP dF_79 DX12_runsNew (i := 116) rfl rfl) (fun H locs hw => ?_)
                            have hT24 : TM (sI τ17 14 n21 r23) := TM.w hT_τ17 (show True from trivial)
                            have hF24 : fr true [14] [25] σ (sI τ17 14 n21 r23) := fr.w hF_τ17 (Or.inl ⟨by decide, by decide⟩) (fun _ h => absurd h (by decide))
                            refine lv_iinc (v := nI (q3_159 + 1)) (lv' := [(3, .int (nI (q3_159 + 1))), (2, .int (nI n14)), (0, .ref (ad 0)), (1, .int (nI pg))]) hx hb (dkI DX12_runsNew (i := 117) rfl rfl rfl rfl) hl (k := 0) rfl (nI_1 _) (by decide) rfl (fun ls hl => ?_)
                            refine lv_goto (tgt := 159) hx hb (dkS dF_167 DX12_runsNew (i := 118) rfl rfl rfl) (by decide) ?_
                            exact ih18 (q3_159 + 1) (sI τ17 14 n21 r23) _ _ _ (by omega) (by (try simp only [lg_cmp_lt, lg_cmp_le, lg_cmp_gt, lg_cmp_ge, lg_cmp_eq] at c3); (try simp (disch := omega) only [ta_lt, ta_le, ta_eq, tb_lt, tb_le, tb_eq, tw, tnI, tsub1, tsv, tn32 1 (by decide), tnj 1 (by decide), tl32 0 (by decide), tl64 0 (by decide), tl32 1 (by decide), tl64 1 (by decide), tl32 2 (by decide), tl64 2 (by decide), tl32 8 (by decide), tl64 8 (by decide)] at c3); (try simp only [lg_cmp_lt, lg_cmp_le, lg_cmp_gt, lg_cmp_ge, lg_cmp_eq] at c9); (try simp (disch := omega) only [ta_lt, ta_le, ta_eq, tb_lt, tb_le, tb_eq, tw, tnI, tsub1, tsv, tn32 1 (by decide), tnj 1 (by decide), tl32 0 (by decide), tl64 0 (by decide), tl32 1 (by decide), tl64 1 (by decide), tl32 2 (by decide), tl64 2 (by decide), tl32 8 (by decide), tl64 8 (by decide)] at c9); (try simp only [lg_cmp_lt, lg_cmp_le, lg_cmp_gt, lg_cmp_ge, lg_cmp_eq] at c11); (try simp (disch := omega) only [ta_lt, ta_le, ta_eq, tb_lt, tb_le, tb_eq, tw, tnI, tsub1, tsv, tn32 1 (by decide), tnj 1 (by decide), tl32 0 (by decide), tl64 0 (by decide), tl32 1 (by decide), tl64 1 (by decide), tl32 2 (by decide), tl64 2 (by decide), tl32 8 (by decide), tl64 8 (by decide)] at c11); (try simp only [lg_cmp_lt, lg_cmp_le, lg_cmp_gt, lg_cmp_ge, lg_cmp_eq] at c16); (try simp (disch := omega) only [ta_lt, ta_le, ta_eq, tb_lt, tb_le, tb_eq, tw, tnI, tsub1, tsv, tn32 1 (by decide), tnj 1 (by decide), tl32 0 (by decide), tl64 0 (by decide), tl32 1 (by decide), tl64 1 (by decide), tl32 2 (by decide), tl64 2 (by decide), tl32 8 (by decide), tl64 8 (by decide)] at c16); (try simp only [lg_cmp_lt, lg_cmp_le, lg_cmp_gt, lg_cmp_ge, lg_cmp_eq] at c19); (try simp (disch := omega) only [ta_lt, ta_le, ta_eq, tb_lt, tb_le, tb_eq, tw, tnI, tsub1, tsv, tn32 1 (by decide), tnj 1 (by decide), tl32 0 (by decide), tl64 0 (by decide), tl32 1 (by decide), tl64 1 (by decide), tl32 2 (by decide), tl64 2 (by decide), tl32 8 (by decide), tl64 8 (by decide)] at c19); (try simp (disch := omega) only [ta_lt, ta_le, ta_eq, tb_lt, tb_le, tb_eq, tw, tnI, tsub1, tsv, tn32 1 (by decide), tnj 1 (by decide), tl32 0 (by decide), tl64 0 (by decide), tl32 1 (by decide), tl64 1 (by decide), tl32 2 (by decide), tl64 2 (by decide), tl32 8 (by decide), tl64 8 (by decide)]); omega) ((rd_n (by omega)).trans hcd) hT24 hF24 hw (lv_sub hl [0, 1, 2, 3] rfl)
                      exact lp18 _ 0 τ5 _ _ _ (Nat.lt_succ_self _) (by (try simp only [lg_cmp_lt, lg_cmp_le, lg_cmp_gt, lg_cmp_ge, lg_cmp_eq] at c3); (try simp (disch := omega) only [ta_lt, ta_le, ta_eq, tb_lt, tb_le, tb_eq, tw, tnI, tsub1, tsv, tn32 1 (by decide), tnj 1 (by decide), tl32 0 (by decide), tl64 0 (by decide), tl32 1 (by decide), tl64 1 (by decide), tl32 2 (by decide), tl64 2 (by decide), tl32 8 (by decide), tl64 8 (by decide)] at c3); (try simp only [lg_cmp_lt, lg_cmp_le, lg_cmp_gt, lg_cmp_ge, lg_cmp_eq] at c9); (try simp (disch := omega) only [ta_lt, ta_le, ta_eq, tb_lt, tb_le, tb_eq, tw, tnI, tsub1, tsv, tn32 1 (by decide), tnj 1 (by decide), tl32 0 (by decide), tl64 0 (by decide), tl32 1 (by decide), tl64 1 (by decide), tl32 2 (by decide), tl64 2 (by decide), tl32 8 (by decide), tl64 8 (by decide)] at c9); (try simp only [lg_cmp_lt, lg_cmp_le, lg_cmp_gt, lg_cmp_ge, lg_cmp_eq] at c11); (try simp (disch := omega) only [ta_lt, ta_le, ta_eq, tb_lt, tb_le, tb_eq, tw, tnI, tsub1, tsv, tn32 1 (by decide), tnj 1 (by decide), tl32 0 (by decide), tl64 0 (by decide), tl32 1 (by decide), tl64 1 (by decide), tl32 2 (by decide), tl64 2 (by decide), tl32 8 (by decide), tl64 8 (by decide)] at c11); (try simp only [lg_cmp_lt, lg_cmp_le, lg_cmp_gt, lg_cmp_ge, lg_cmp_eq] at c16); (try simp (disch := omega) only [ta_lt, ta_le, ta_eq, tb_lt, tb_le, tb_eq, tw, tnI, tsub1, tsv, tn32 1 (by decide), tnj 1 (by decide), tl32 0 (by decide), tl64 0 (by decide), tl32 1 (by decide), tl64 1 (by decide), tl32 2 (by decide), tl64 2 (by decide), tl32 8 (by decide), tl64 8 (by decide)] at c16); (try simp (disch := omega) only [ta_lt, ta_le, ta_eq, tb_lt, tb_le, tb_eq, tw, tnI, tsub1, tsv, tn32 1 (by decide), tnj 1 (by decide), tl32 0 (by decide), tl64 0 (by decide), tl32 1 (by decide), tl64 1 (by decide), tl32 2 (by decide), tl64 2 (by decide), tl32 8 (by decide), tl64 8 (by decide)]); omega) (ev10.trans en12) hT_τ5 hF_τ5 hw (lv_sub hl [0, 1, 2, 3] rfl)
                    · simp (disch := omega) only [ta_lt, ta_le, ta_eq, tnI] at c16
                      refine lv_aload_n hx hb (dkP dF_42 DX12_runsNew (i := 66) rfl rfl) rfl (lv_at hl 2 rfl) ?_
                      refine lv_aload_n hx hb (dkP dF_42 DX12_runsNew (i := 67) rfl rfl) rfl (lv_at hl 2 rfl) ?_
                      refine z_gr C0 hw 0 1 1 rfl fl_X12_20 (dk2 dF_180 DX12_runsNew (i := 68) rfl rfl rfl) ?_
                      refine lv_iload_n hx hb (dkP dF_27 DX12_runsNew (i := 69) rfl rfl) rfl (lv_at hl 3 rfl) ?_
                      refine lv_aload_n hx hb (dkP dF_42 DX12_runsNew (i := 70) rfl rfl) rfl (lv_at hl 2 rfl) ?_
                      refine z_gi C0 hw 0 25 rfl fl_X12_360 (dk2 dF_180 DX12_runsNew (i := 71) rfl rfl rfl) ?_
                      refine z_top (y := (nI n12)) (ev10.trans en12) ?_
                      refine lv_iload_n hx hb (dkP dF_29 DX12_runsNew (i := 72) rfl rfl) rfl (lv_at hl 0 rfl) ?_
                      refine zn_I hw (zr_S (As := [.int (nI pg), .int (nI n12), .int (nI q3_108)]) (rest := [.ref (ad 1), .ref (ad 0)]) C0 (c_X12_putAt l G kc pg n12 q3_108  _) cs_X12_putAt lk_X12_317 (zp_P C0 hRo hw a00 s00) rfl hl.1 rfl ⟨by decide, by decide⟩ (Nat.le_of_ble_eq_true rfl) (dk2 dF_184 DX12_runsNew (i := 73) rfl rfl rfl) ⟨Nat.le_refl _, Nat.le_refl _⟩) (fun r25 s25 H locs hp hw => ?_)
                      subst hp
                      refine lv_iconst (v := 1) hx hb (dkP dF_4 DX12_runsNew (i := 74) rfl rfl) (by decide) ?_
                      refine lv_iadd hx hb (dkP dF_96 DX12_runsNew (i := 75) rfl rfl) ?_
                      refine z_top (y := nI ((387880 + 10 * (8 * (40 * pg + n12) + q3_108)) + 1)) (by simp only [fa_lit, nI_add, pk_mul]) ?_
                      refine lv_aload_n hx hb (dkP dF_42 DX12_runsNew (i := 76) rfl rfl) rfl (lv_at hl 2 rfl) ?_
                      refine z_gr C0 hw 0 20 11 rfl fl_X12_57 (dk2 dF_180 DX12_runsNew (i := 77) rfl rfl rfl) ?_
                      refine zk_I hw (zr_V (As := [.ref (ad 1), .int (nI ((387880 + 10 * (8 * (40 * pg + n12) + q3_108)) + 1)), .ref (ad 11)]) (rest := []) C0 (c_X12_worked_11 l G kc ad τ5 ((387880 + 10 * (8 * (40 * pg + n12) + q3_108)) + 1) (by first | omega | assumption | decide | rfl) hT_τ5 _) cv_X12_worked lk_X12_345 (zp_V C0 hRo hw 0 rfl rfl rfl) rfl hl.1 rfl ⟨by decide, by decide⟩ (Nat.le_of_ble_eq_true rfl) (dk2 dF_182 DX12_runsNew (i := 78) rfl rfl rfl) ⟨Nat.le_refl _, Nat.le_refl _⟩) (fun r26 s26 H locs hp hw => ?_)
                      have hs26 := hp
                      (rw [hs26] at hw)
                      refine lv_i2l hx hb (dkP dF_133 DX12_runsNew (i := 79) rfl rfl) rfl ?_
                      refine lv_ldc2 hx hb hown (hts _ kn_X12_349) (dk2 dF_20 DX12_runsNew (i := 80) rfl rfl rfl) ?_
                      refine lv_ldc2 hx hb hown (hts _ kn_X12_351) (dk2 dF_20 DX12_runsNew (i := 81) rfl rfl rfl) ?_
                      refine zn_I hw (zr_S (As := [.long r26.toInt64, .long (-9999), .long 9999]) (rest := []) C0 (c_X12_in l G kc r26.toInt64 (-9999) 9999  _) cs_X12_in lk_X12_9 (zp_P C0 hRo hw a00 s00) rfl hl.1 rfl ⟨by decide, by decide⟩ (Nat.le_of_ble_eq_true rfl) (dk2 dF_184 DX12_runsNew (i := 82) rfl rfl rfl) ⟨Nat.le_refl _, Nat.le_refl _⟩) (fun r27 s27 H locs hp hw => ?_)
                      rcases hp with ⟨rfl, hc27⟩ | ⟨rfl, hc27⟩
                      · skip
                        (try simp (disch := omega) only [ta_lt, ta_le, ta_eq, tb_lt, tb_le, tb_eq, tw, tnI, tn32 9999 (by decide), tnj 9999 (by decide), tn32 1 (by decide), tnj 1 (by decide), tl32 0 (by decide), tl64 0 (by decide), tl32 1 (by decide), tl64 1 (by decide), tl32 2 (by decide), tl64 2 (by decide), tl32 8 (by decide), tl64 8 (by decide), tl32 9999 (by decide), tl64 9999 (by decide)] at hc27)
                        refine lv_if_ne (tgt := 151) hx hb (dkS dF_154 DX12_runsNew (i := 83) rfl rfl rfl) (by decide) (fun _ => ?_) (fun h => absurd h (by decide))
                        refine lv_iinc (v := nI (q3_108 + 1)) (lv' := [(3, .int (nI (q3_108 + 1))), (2, .int (nI n14)), (0, .ref (ad 0)), (1, .int (nI pg))]) hx hb (dkI DX12_runsNew (i := 86) rfl rfl rfl rfl) hl (k := 0) rfl (nI_1 _) (by decide) rfl (fun ls hl => ?_)
                        refine lv_goto (tgt := 108) hx hb (dkS dF_167 DX12_runsNew (i := 87) rfl rfl rfl) (by decide) ?_
                        exact ih15 (q3_108 + 1) _ _ _ (by omega) (by (try simp only [lg_cmp_lt, lg_cmp_le, lg_cmp_gt, lg_cmp_ge, lg_cmp_eq] at c3); (try simp (disch := omega) only [ta_lt, ta_le, ta_eq, tb_lt, tb_le, tb_eq, tw, tnI, tsub1, tsv, tn32 9999 (by decide), tnj 9999 (by decide), tn32 1 (by decide), tnj 1 (by decide), tl32 0 (by decide), tl64 0 (by decide), tl32 1 (by decide), tl64 1 (by decide), tl32 2 (by decide), tl64 2 (by decide), tl32 8 (by decide), tl64 8 (by decide), tl32 9999 (by decide), tl64 9999 (by decide)] at c3); (try simp only [lg_cmp_lt, lg_cmp_le, lg_cmp_gt, lg_cmp_ge, lg_cmp_eq] at c9); (try simp (disch := omega) only [ta_lt, ta_le, ta_eq, tb_lt, tb_le, tb_eq, tw, tnI, tsub1, tsv, tn32 9999 (by decide), tnj 9999 (by decide), tn32 1 (by decide), tnj 1 (by decide), tl32 0 (by decide), tl64 0 (by decide), tl32 1 (by decide), tl64 1 (by decide), tl32 2 (by decide), tl64 2 (by decide), tl32 8 (by decide), tl64 8 (by decide), tl32 9999 (by decide), tl64 9999 (by decide)] at c9); (try simp only [lg_cmp_lt, lg_cmp_le, lg_cmp_gt, lg_cmp_ge, lg_cmp_eq] at c11); (try simp (disch := omega) only [ta_lt, ta_le, ta_eq, tb_lt, tb_le, tb_eq, tw, tnI, tsub1, tsv, tn32 9999 (by decide), tnj 9999 (by decide), tn32 1 (by decide), tnj 1 (by decide), tl32 0 (by decide), tl64 0 (by decide), tl32 1 (by decide), tl64 1 (by decide), tl32 2 (by decide), tl64 2 (by decide), tl32 8 (by decide), tl64 8 (by decide), tl32 9999 (by decide), tl64 9999 (by decide)] at c11); (try simp only [lg_cmp_lt, lg_cmp_le, lg_cmp_gt, lg_cmp_ge, lg_cmp_eq] at c16); (try simp (disch := omega) only [ta_lt, ta_le, ta_eq, tb_lt, tb_le, tb_eq, tw, tnI, tsub1, tsv, tn32 9999 (by decide), tnj 9999 (by decide), tn32 1 (by decide), tnj 1 (by decide), tl32 0 (by decide), tl64 0 (by decide), tl32 1 (by decide), tl64 1 (by decide), tl32 2 (by decide), tl64 2 (by decide), tl32 8 (by decide), tl64 8 (by decide), tl32 9999 (by decide), tl64 9999 (by decide)] at c16); (try simp only [lg_cmp_lt, lg_cmp_le, lg_cmp_gt, lg_cmp_ge, lg_cmp_eq] at hc27); (try simp (disch := omega) only [ta_lt, ta_le, ta_eq, tb_lt, tb_le, tb_eq, tw, tnI, tsub1, tsv, tn32 9999 (by decide), tnj 9999 (by decide), tn32 1 (by decide), tnj 1 (by decide), tl32 0 (by decide), tl64 0 (by decide), tl32 1 (by decide), tl64 1 (by decide), tl32 2 (by decide), tl64 2 (by decide), tl32 8 (by decide), tl64 8 (by decide), tl32 9999 (by decide), tl64 9999 (by decide)] at hc27); (try simp (disch := omega) only [ta_lt, ta_le, ta_eq, tb_lt, tb_le, tb_eq, tw, tnI, tsub1, tsv, tn32 9999 (by decide), tnj 9999 (by decide), tn32 1 (by decide), tnj 1 (by decide), tl32 0 (by decide), tl64 0 (by decide), tl32 1 (by decide), tl64 1 (by decide), tl32 2 (by decide), tl64 2 (by decide), tl32 8 (by decide), tl64 8 (by decide), tl32 9999 (by decide), tl64 9999 (by decide)]); omega) hw (lv_sub hl [0, 1, 2, 3] rfl)
                      · skip
                        (try simp (disch := omega) only [ta_lt, ta_le, ta_eq, tb_lt, tb_le, tb_eq, tw, tnI, tn32 9999 (by decide), tnj 9999 (by decide), tn32 1 (by decide), tnj 1 (by decide), tl32 0 (by decide), tl64 0 (by decide), tl32 1 (by decide), tl64 1 (by decide), tl32 2 (by decide), tl64 2 (by decide), tl32 8 (by decide), tl64 8 (by decide), tl32 9999 (by decide), tl64 9999 (by decide)] at hc27)
                        refine lv_if_ne (tgt := 151) hx hb (dkS dF_154 DX12_runsNew (i := 83) rfl rfl rfl) (by decide) (fun h => absurd h (by decide)) (fun _ => ?_)
                        refine lv_iconst (v := 2) hx hb (dkP dF_5 DX12_runsNew (i := 84) rfl rfl) (by decide) ?_
                        exact z_iret C0 hr hlk hw (⟨(by decide), hT_τ5, hF_τ5⟩) (dkP dF_172 DX12_runsNew (i := 85) rfl rfl)
                exact lp15 _ 0 _ _ _ (Nat.lt_succ_self _) (by (try simp only [lg_cmp_lt, lg_cmp_le, lg_cmp_gt, lg_cmp_ge, lg_cmp_eq] at c3); (try simp (disch := omega) only [ta_lt, ta_le, ta_eq, tb_lt, tb_le, tb_eq, tw, tnI, tsub1, tsv, tn32 9999 (by decide), tnj 9999 (by decide), tn32 1 (by decide), tnj 1 (by decide), tl32 0 (by decide), tl64 0 (by decide), tl32 1 (by decide), tl64 1 (by decide), tl32 2 (by decide), tl64 2 (by decide), tl32 8 (by decide), tl64 8 (by decide), tl32 9999 (by decide), tl64 9999 (by decide)] at c3); (try simp only [lg_cmp_lt, lg_cmp_le, lg_cmp_gt, lg_cmp_ge, lg_cmp_eq] at c9); (try simp (disch := omega) only [ta_lt, ta_le, ta_eq, tb_lt, tb_le, tb_eq, tw, tnI, tsub1, tsv, tn32 9999 (by decide), tnj 9999 (by decide), tn32 1 (by decide), tnj 1 (by decide), tl32 0 (by decide), tl64 0 (by decide), tl32 1 (by decide), tl64 1 (by decide), tl32 2 (by decide), tl64 2 (by decide), tl32 8 (by decide), tl64 8 (by decide), tl32 9999 (by decide), tl64 9999 (by decide)] at c9); (try simp only [lg_cmp_lt, lg_cmp_le, lg_cmp_gt, lg_cmp_ge, lg_cmp_eq] at c11); (try simp (disch := omega) only [ta_lt, ta_le, ta_eq, tb_lt, tb_le, tb_eq, tw, tnI, tsub1, tsv, tn32 9999 (by decide), tnj 9999 (by decide), tn32 1 (by decide), tnj 1 (by decide), tl32 0 (by decide), tl64 0 (by decide), tl32 1 (by decide), tl64 1 (by decide), tl32 2 (by decide), tl64 2 (by decide), tl32 8 (by decide), tl64 8 (by decide), tl32 9999 (by decide), tl64 9999 (by decide)] at c11); (try simp (disch := omega) only [ta_lt, ta_le, ta_eq, tb_lt, tb_le, tb_eq, tw, tnI, tsub1, tsv, tn32 9999 (by decide), tnj 9999 (by decide), tn32 1 (by decide), tnj 1 (by decide), tl32 0 (by decide), tl64 0 (by decide), tl32 1 (by decide), tl64 1 (by decide), tl32 2 (by decide), tl64 2 (by decide), tl32 8 (by decide), tl64 8 (by decide), tl32 9999 (by decide), tl64 9999 (by decide)]); omega) hw (lv_sub hl [0, 1, 2, 3] rfl)
              · (try simp (disch := omega) only [ta_lt, ta_le, ta_eq, tnI, tn32 1 (by decide)] at c11)
                refine lv_iconst (v := 5) hx hb (dkP dF_8 DX12_runsNew (i := 49) rfl rfl) (by decide) ?_
                exact z_iret C0 hr hlk hw (⟨(by decide), hT_τ5, hF_τ5⟩) (dkP dF_172 DX12_runsNew (i := 50) rfl rfl)
            · (try simp (disch := omega) only [ta_lt, ta_le, ta_eq, tnI] at c9); have hz9 := i32b v8
              refine lv_aload_n hx hb (dkP dF_42 DX12_runsNew (i := 29) rfl rfl) rfl (lv_at hl 1 rfl) ?_
              refine z_gi C0 hw 0 25 rfl fl_X12_360 (dk2 dF_180 DX12_runsNew (i := 30) rfl rfl rfl) ?_
              obtain ⟨v28, ev28⟩ : ∃ y : Int32, τ5.1 0 25 = y := ⟨_, rfl⟩
              have hv28 : -1 ≤ v28.toInt ∧ v28.toInt ≤ 39 := by rw [← ev28]; exact (show -1 ≤ _ ∧ _ ≤ 39 from hT_τ5 0 25)
              refine z_top (y := v28) ev28 ?_
              refine lv_iconst (v := (-1)) hx hb (dkP dF_2 DX12_runsNew (i := 31) rfl rfl) (by decide) ?_
              refine lv_icmp_ne (tgt := 80) hx hb (dkS dF_160 DX12_runsNew (i := 32) rfl rfl rfl) (by decide) (fun c29 => ?_) (fun c29 => ?_)
              · (try simp (disch := omega) only [ta_lt, ta_le, ta_eq, tnI, tn32 1 (by decide)] at c29)
                refine lv_aload_n hx hb (dkP dF_42 DX12_runsNew (i := 45) rfl rfl) rfl (lv_at hl 1 rfl) ?_
                refine z_gi C0 hw 0 25 rfl fl_X12_360 (dk2 dF_180 DX12_runsNew (i := 46) rfl rfl rfl) ?_
                refine z_top (y := v28) ev28 ?_
                refine lv_iconst (v := (-1)) hx hb (dkP dF_2 DX12_runsNew (i := 47) rfl rfl) (by decide) ?_
                refine lv_icmp_ne (tgt := 90) hx hb (dkS dF_160 DX12_runsNew (i := 48) rfl rfl rfl) (by decide) (fun c30 => ?_) (fun c30 => ?_)
                · (try simp (disch := omega) only [ta_lt, ta_le, ta_eq, tnI, tn32 1 (by decide)] at c30)
                  obtain ⟨n31, hn31, en31⟩ := rngN (x := v28) (h := 39) (show 0 ≤ _ ∧ _ ≤ 39 from by (try simp only [lg_cmp_lt, lg_cmp_le, lg_cmp_gt, lg_cmp_ge, lg_cmp_eq] at c3); (try simp (disch := omega) only [ta_lt, ta_le, ta_eq, tb_lt, tb_le, tb_eq, tw, tnI, tsub1, tsv, tn32 9999 (by decide), tnj 9999 (by decide), tn32 1 (by decide), tnj 1 (by decide), tl32 0 (by decide), tl64 0 (by decide), tl32 1 (by decide), tl64 1 (by decide), tl32 2 (by decide), tl64 2 (by decide), tl32 5 (by decide), tl64 5 (by decide), tl32 8 (by decide), tl64 8 (by decide), tl32 9999 (by decide), tl64 9999 (by decide)] at c3); (try simp only [lg_cmp_lt, lg_cmp_le, lg_cmp_gt, lg_cmp_ge, lg_cmp_eq] at c9); (try simp (disch := omega) only [ta_lt, ta_le, ta_eq, tb_lt, tb_le, tb_eq, tw, tnI, tsub1, tsv, tn32 9999 (by decide), tnj 9999 (by decide), tn32 1 (by decide), tnj 1 (by decide), tl32 0 (by decide), tl64 0 (by decide), tl32 1 (by decide), tl64 1 (by decide), tl32 2 (by decide), tl64 2 (by decide), tl32 5 (by decide), tl64 5 (by decide), tl32 8 (by decide), tl64 8 (by decide), tl32 9999 (by decide), tl64 9999 (by decide)] at c9); (try simp only [lg_cmp_lt, lg_cmp_le, lg_cmp_gt, lg_cmp_ge, lg_cmp_eq] at c29); (try simp (disch := omega) only [ta_lt, ta_le, ta_eq, tb_lt, tb_le, tb_eq, tw, tnI, tsub1, tsv, tn32 9999 (by decide), tnj 9999 (by decide), tn32 1 (by decide), tnj 1 (by decide), tl32 0 (by decide), tl64 0 (by decide), tl32 1 (by decide), tl64 1 (by decide), tl32 2 (by decide), tl64 2 (by decide), tl32 5 (by decide), tl64 5 (by decide), tl32 8 (by decide), tl64 8 (by decide), tl32 9999 (by decide), tl64 9999 (by decide)] at c29); (try simp only [lg_cmp_lt, lg_cmp_le, lg_cmp_gt, lg_cmp_ge, lg_cmp_eq] at c30); (try simp (disch := omega) only [ta_lt, ta_le, ta_eq, tb_lt, tb_le, tb_eq, tw, tnI, tsub1, tsv, tn32 9999 (by decide), tnj 9999 (by decide), tn32 1 (by decide), tnj 1 (by decide), tl32 0 (by decide), tl64 0 (by decide), tl32 1 (by decide), tl64 1 (by decide), tl32 2 (by decide), tl64 2 (by decide), tl32 5 (by decide), tl64 5 (by decide), tl32 8 (by decide), tl64 8 (by decide), tl32 9999 (by decide), tl64 9999 (by decide)] at c30); (try simp (disch := omega) only [ta_lt, ta_le, ta_eq, tb_lt, tb_le, tb_eq, tw, tnI, tsub1, tsv, tn32 9999 (by decide), tnj 9999 (by decide), tn32 1 (by decide), tnj 1 (by decide), tl32 0 (by decide), tl64 0 (by decide), tl32 1 (by decide), tl64 1 (by decide), tl32 2 (by decide), tl64 2 (by decide), tl32 5 (by decide), tl64 5 (by decide), tl32 8 (by decide), tl64 8 (by decide), tl32 9999 (by decide), tl64 9999 (by decide)]); omega)
                  refine lv_aload_n hx hb (dkP dF_42 DX12_runsNew (i := 51) rfl rfl) rfl (lv_at hl 1 rfl) ?_
                  refine z_gr C0 hw 0 1 1 rfl fl_X12_20 (dk2 dF_180 DX12_runsNew (i := 52) rfl rfl rfl) ?_
                  refine lv_iload_n hx hb (dkP dF_27 DX12_runsNew (i := 53) rfl rfl) rfl (lv_at hl 2 rfl) ?_
                  refine lv_aload_n hx hb (dkP dF_42 DX12_runsNew (i := 54) rfl rfl) rfl (lv_at hl 1 rfl) ?_
                  refine z_gi C0 hw 0 25 rfl fl_X12_360 (dk2 dF_180 DX12_runsNew (i := 55) rfl rfl rfl) ?_
                  refine z_top (y := (nI n31)) (ev28.trans en31) ?_
                  refine zn_I hw (zr_S (As := [.int (nI pg), .int (nI n31)]) (rest := [.ref (ad 1)]) C0 (c_X12_caseAt l G kc pg n31  _) cs_X12_caseAt lk_X12_310 (zp_P C0 hRo hw a00 s00) rfl hl.1 rfl ⟨by decide, by decide⟩ (Nat.le_of_ble_eq_true rfl) (dk2 dF_184 DX12_runsNew (i := 56) rfl rfl rfl) ⟨Nat.le_refl _, Nat.le_refl _⟩) (fun r32 s32 H locs hp hw => ?_)
                  subst hp
                  refine lv_iconst (v := 1) hx hb (dkP dF_4 DX12_runsNew (i := 57) rfl rfl) (by decide) ?_
                  refine lv_iadd hx hb (dkP dF_96 DX12_runsNew (i := 58) rfl rfl) ?_
                  refine z_top (y := nI ((3240 + 2 * (40 * pg + n31)) + 1)) (by simp only [fa_lit, nI_add, pk_mul]) ?_
                  refine z_ialdN (n := 414128) C0 hw 1 ((3240 + 2 * (40 * pg + n31)) + 1) rfl (by omega) (by decide) (dkP dF_46 DX12_runsNew (i := 59) rfl rfl) ?_
                  obtain ⟨n33, hn33, en33⟩ := rngN (x := τ5.1 1 ((3240 + 2 * (40 * pg + n31)) + 1)) (h := 8) (wTy_p (by omega) (by omega) (hT_τ5 1 _))
                  refine z_top (y := nI n33) en33 ?_
                  refine lv_istore_n (lv' := [(2, .int (nI n33)), (0, .ref (ad 0)), (1, .int (nI pg))]) hx hb (dkP dF_61 DX12_runsNew (i := 60) rfl rfl) rfl hl (by decide) rfl (fun ls hl => ?_)
                  refine lv_iconst (v := 0) hx hb (dkP dF_3 DX12_runsNew (i := 61) rfl rfl) (by decide) ?_
                  refine lv_istore_n (lv' := [(3, .int 0), (2, .int (nI n33)), (0, .ref (ad 0)), (1, .int (nI pg))]) hx hb (dkP dF_62 DX12_runsNew (i := 62) rfl rfl) rfl hl (by decide) rfl (fun ls hl => ?_)
                  have lp34 : ∀ (nq : Nat) (q3_108 : Nat) (H : Heap) (locs : List Loc) (ls : Array Slot), 2147483647 - q3_108 < nq → (q3_108 ≤ 2147483647) → St G kc A s.heap shM ad τ5 H locs → lv_has ls 4 [(3, .int (nI q3_108)), (2, .int (nI n33)), (0, .ref (ad 0)), (1, .int (nI pg))] → W pr l e { frames := 2, cells := 0, slots := 0, locals := 49 } s m ([.ref (ad 0), .int (nI pg)] : List Value).toArray below meth c H locs 0 0 (MQ below (va_Qi (fun r σ1 => (0 ≤ r.toInt ∧ r.toInt ≤ 5) ∧ TM σ1 ∧ fr true [14] [25] σ σ1) (PoC G kc shM ad A) A) ([.ref (ad 0), .int (nI pg)] : List Value).toArray s 0 0 A) (F0 m 108 ls []) := by
                    intro nq
                    induction nq with
                    | zero => intro q3_108 H locs ls hmu; exact absurd hmu (Nat.not_lt_zero _)
                    | succ nq ih34 =>
                      intro q3_108 H locs ls hmu hq3_108 hw hl
                      refine lv_iload_n hx hb (dkP dF_29 DX12_runsNew (i := 63) rfl rfl) rfl (lv_at hl 0 rfl) ?_
                      refine lv_iload_n hx hb (dkP dF_28 DX12_runsNew (i := 64) rfl rfl) rfl (lv_at hl 1 rfl) ?_
                      refine lv_icmp_ge (tgt := 157) hx hb (dkS dF_162 DX12_runsNew (i := 65) rfl rfl rfl) (by decide) (fun c35 => ?_) (fun c35 => ?_)
                      · simp (disch := omega) only [ta_lt, ta_le, ta_eq, tnI] at c35
                        refine lv_iconst (v := 0) hx hb (dkP dF_3 DX12_runsNew (i := 88) rfl rfl) (by decide) ?_
                        refine lv_istore_n (lv' := [(3, .int 0), (2, .int (nI n33)), (0, .ref (ad 0)), (1, .int (nI pg))]) hx hb (dkP dF_62 DX12_runsNew (i := 89) rfl rfl) rfl hl (by decide) rfl (fun ls hl => ?_)
                        have lp37 : ∀ (nq : Nat) (q3_159 : Nat) (τ36 : Sg) (H : Heap) (locs : List Loc) (ls : Array Slot), 2147483647 - q3_159 < nq → (q3_159 ≤ 2147483647) → (τ36.1 0 25 = nI n31) → (TM τ36) → (fr true [14] [25] σ τ36) → St G kc A s.heap shM ad τ36 H locs → lv_has ls 4 [(3, .int (nI q3_159)), (2, .int (nI n33)), (0, .ref (ad 0)), (1, .int (nI pg))] → W pr l e { frames := 2, cells := 0, slots := 0, locals := 49 } s m ([.ref (ad 0), .int (nI pg)] : List Value).toArray below meth c H locs 0 0 (MQ below (va_Qi (fun r σ1 => (0 ≤ r.toInt ∧ r.toInt ≤ 5) ∧ TM σ1 ∧ fr true [14] [25] σ σ1) (PoC G kc shM ad A) A) ([.ref (ad 0), .int (nI pg)] : List Value).toArray s 0 0 A) (F0 m 159 ls []) := by
                          intro nq
                          induction nq with
                          | zero => intro q3_159 τ36 H locs ls hmu; exact absurd hmu (Nat.not_lt_zero _)
                          | succ nq ih37 =>
                            intro q3_159 τ36 H locs ls hmu hq3_159 hcd hT_τ36 hF_τ36 hw hl
                            refine lv_iload_n hx hb (dkP dF_29 DX12_runsNew (i := 90) rfl rfl) rfl (lv_at hl 0 rfl) ?_
                            refine lv_iload_n hx hb (dkP dF_28 DX12_runsNew (i := 91) rfl rfl) rfl (lv_at hl 1 rfl) ?_
                            refine lv_icmp_ge (tgt := 212) hx hb (dkS dF_162 DX12_runsNew (i := 92) rfl rfl rfl) (by decide) (fun c38 => ?_) (fun c38 => ?_)
                            · simp (disch := omega) only [ta_lt, ta_le, ta_eq, tnI] at c38
                              refine lv_iconst (v := 0) hx hb (dkP dF_3 DX12_runsNew (i := 119) rfl rfl) (by decide) ?_
                              exact z_iret C0 hr hlk hw (⟨(by decide), hT_τ36, hF_τ36⟩) (dkP dF_172 DX12_runsNew (i := 120) rfl rfl)
                            · simp (disch := omega) only [ta_lt, ta_le, ta_eq, tnI] at c38
                              refine lv_aload_n hx hb (dkP dF_42 DX12_runsNew (i := 93) rfl rfl) rfl (lv_at hl 2 rfl) ?_
                              refine z_gr C0 hw 0 24 14 rfl fl_X12_66 (dk2 dF_180 DX12_runsNew (i := 94) rfl rfl rfl) ?_
                              refine lv_aload_n hx hb (dkP dF_42 DX12_runsNew (i := 95) rfl rfl) rfl (lv_at hl 2 rfl) ?_
                              refine z_gr C0 hw 0 1 1 rfl fl_X12_20 (dk2 dF_180 DX12_runsNew (i := 96) rfl rfl rfl) ?_
                              refine lv_iload_n hx hb (dkP dF_27 DX12_runsNew (i := 97) rfl rfl) rfl (lv_at hl 3 rfl) ?_
                              refine lv_aload_n hx hb (dkP dF_42 DX12_runsNew (i := 98) rfl rfl) rfl (lv_at hl 2 rfl) ?_
                              refine z_gi C0 hw 0 25 rfl fl_X12_360 (dk2 dF_180 DX12_runsNew (i := 99) rfl rfl rfl) ?_
                              refine z_top (y := (nI n31)) hcd ?_
                              refine lv_iload_n hx hb (dkP dF_29 DX12_runsNew (i := 100) rfl rfl) rfl (lv_at hl 0 rfl) ?_
                              refine zn_I hw (zr_S (As := [.int (nI pg), .int (nI n31), .int (nI q3_159)]) (rest := [.ref (ad 1), .ref (ad 14)]) C0 (c_X12_putAt l G kc pg n31 q3_159  _) cs_X12_putAt lk_X12_317 (zp_P C0 hRo hw a00 s00) rfl hl.1 rfl ⟨by decide, by decide⟩ (Nat.le_of_ble_eq_true rfl) (dk2 dF_184 DX12_runsNew (i := 101) rfl rfl rfl) ⟨Nat.le_refl _, Nat.le_refl _⟩) (fun r39 s39 H locs hp hw => ?_)
                              subst hp
                              refine z_ialdN (n := 414128) C0 hw 1 (387880 + 10 * (8 * (40 * pg + n31) + q3_159)) rfl (by omega) (by decide) (dkP dF_46 DX12_runsNew (i := 102) rfl rfl) ?_
                              obtain ⟨n40, hn40, en40⟩ := rngN (x := τ36.1 1 (387880 + 10 * (8 * (40 * pg + n31) + q3_159))) (h := 7) (wTy_f (by omega) (by omega) (by omega) (hT_τ36 1 _))
                              refine z_top (y := nI n40) en40 ?_
                              refine lv_aload_n hx hb (dkP dF_42 DX12_runsNew (i := 103) rfl rfl) rfl (lv_at hl 2 rfl) ?_
                              refine lv_aload_n hx hb (dkP dF_42 DX12_runsNew (i := 104) rfl rfl) rfl (lv_at hl 2 rfl) ?_
                              refine z_gr C0 hw 0 1 1 rfl fl_X12_20 (dk2 dF_180 DX12_runsNew (i := 105) rfl rfl rfl) ?_
                              refine lv_iload_n hx hb (dkP dF_27 DX12_runsNew (i := 106) rfl rfl) rfl (lv_at hl 3 rfl) ?_
                              refine lv_aload_n hx hb (dkP dF_42 DX12_runsNew (i := 107) rfl rfl) rfl (lv_at hl 2 rfl) ?_
                              refine z_gi C0 hw 0 25 rfl fl_X12_360 (dk2 dF_180 DX12_runsNew (i := 108) rfl rfl rfl) ?_
                              refine z_top (y := (nI n31)) hcd ?_
                              refine lv_iload_n hx hb (dkP dF_29 DX12_runsNew (i := 109) rfl rfl) rfl (lv_at hl 0 rfl) ?_
                              refine zn_I hw (zr_S (As := [.int (nI pg), .int (nI n31), .int (nI q3_159)]) (rest := [.ref (ad 1), .ref (ad 0), .int (nI n40), .ref (ad 14)]) C0 (c_X12_putAt l G kc pg n31 q3_159  _) cs_X12_putAt lk_X12_317 (zp_P C0 hRo hw a00 s00) rfl hl.1 rfl ⟨by decide, by decide⟩ (Nat.le_of_ble_eq_true rfl) (dk2 dF_184 DX12_runsNew (i := 110) rfl rfl rfl) ⟨Nat.le_refl _, Nat.le_refl _⟩) (fun r41 s41 H locs hp hw => ?_)
                              subst hp
                              refine lv_iconst (v := 1) hx hb (dkP dF_4 DX12_runsNew (i := 111) rfl rfl) (by decide) ?_
                              refine lv_iadd hx hb (dkP dF_96 DX12_runsNew (i := 112) rfl rfl) ?_
                              refine z_top (y := nI ((387880 + 10 * (8 * (40 * pg + n31) + q3_159)) + 1)) (by simp only [fa_lit, nI_add, pk_mul]) ?_
                              refine lv_aload_n hx hb (dkP dF_42 DX12_runsNew (i := 113) rfl rfl) rfl (lv_at hl 2 rfl) ?_
                              refine z_gr C0 hw 0 20 11 rfl fl_X12_57 (dk2 dF_180 DX12_runsNew (i := 114) rfl rfl rfl) ?_
                              refine zk_I hw (zr_V (As := [.ref (ad 1), .int (nI ((387880 + 10 * (8 * (40 * pg + n31) + q3_159)) + 1)), .ref (ad 11)]) (rest := [.int (nI n40), .ref (ad 14)]) C0 (c_X12_worked_11 l G kc ad τ36 ((387880 + 10 * (8 * (40 * pg + n31) + q3_159)) + 1) (by first | omega | assumption | decide | rfl) hT_τ36 _) cv_X12_worked lk_X12_345 (zp_V C0 hRo hw 0 rfl rfl rfl) rfl hl.1 rfl ⟨by decide, by decide⟩ (Nat.le_of_ble_eq_true rfl) (dk2 dF_182 DX12_runsNew (i := 115) rfl rfl rfl) ⟨Nat.le_refl _, Nat.le_refl _⟩) (fun r42 s42 H locs hp hw => ?_)
                              have hs42 := hp
                              (rw [hs42] at hw)
                              refine z_iastN (n := 8) C0 hw 14 n40 rfl (by omega) (by decide) (dkP dF_79 DX12_runsNew (i := 116) rfl rfl) (fun H locs hw => ?_)
                              have hT43 : TM (sI τ36 14 n40 r42) := TM.w hT_τ36 (show True from trivial)
                              have hF43 : fr true [14] [25] σ (sI τ36 14 n40 r42) := fr.w hF_τ36 (Or.inl ⟨by decide, by decide⟩) (fun _ h => absurd h (by decide))
                              refine lv_iinc (v := nI (q3_159 + 1)) (lv' := [(3, .int (nI (q3_159 + 1))), (2, .int (nI n33)), (0, .ref (ad 0)), (1, .int (nI pg))]) hx hb (dkI DX12_runsNew (i := 117) rfl rfl rfl rfl) hl (k := 0) rfl (nI_1 _) (by decide) rfl (fun ls hl => ?_)
                              refine lv_goto (tgt := 159) hx hb (dkS dF_167 DX12_runsNew (i := 118) rfl rfl rfl) (by decide) ?_
                              exact ih37 (q3_159 + 1) (sI τ36 14 n40 r42) _ _ _ (by omega) (by (try simp only [lg_cmp_lt, lg_cmp_le, lg_cmp_gt, lg_cmp_ge, lg_cmp_eq] at c3); (try simp (disch := omega) only [ta_lt, ta_le, ta_eq, tb_lt, tb_le, tb_eq, tw, tnI, tsub1, tsv, tn32 9999 (by decide), tnj 9999 (by decide), tn32 1 (by decide), tnj 1 (by decide), tl32 0 (by decide), tl64 0 (by decide), tl32 1 (by decide), tl64 1 (by decide), tl32 2 (by decide), tl64 2 (by decide), tl32 5 (by decide), tl64 5 (by decide), tl32 8 (by decide), tl64 8 (by decide), tl32 9999 (by decide), tl64 9999 (by decide)] at c3); (try simp only [lg_cmp_lt, lg_cmp_le, lg_cmp_gt, lg_cmp_ge, lg_cmp_eq] at c9); (try simp (disch := omega) only [ta_lt, ta_le, ta_eq, tb_lt, tb_le, tb_eq, tw, tnI, tsub1, tsv, tn32 9999 (by decide), tnj 9999 (by decide), tn32 1 (by decide), tnj 1 (by decide), tl32 0 (by decide), tl64 0 (by decide), tl32 1 (by decide), tl64 1 (by decide), tl32 2 (by decide), tl64 2 (by decide), tl32 5 (by decide), tl64 5 (by decide), tl32 8 (by decide), tl64 8 (by decide), tl32 9999 (by decide), tl64 9999 (by decide)] at c9); (try simp only [lg_cmp_lt, lg_cmp_le, lg_cmp_gt, lg_cmp_ge, lg_cmp_eq] at c29); (try simp (disch := omega) only [ta_lt, ta_le, ta_eq, tb_lt, tb_le, tb_eq, tw, tnI, tsub1, tsv, tn32 9999 (by decide), tnj 9999 (by decide), tn32 1 (by decide), tnj 1 (by decide), tl32 0 (by decide), tl64 0 (by decide), tl32 1 (by decide), tl64 1 (by decide), tl32 2 (by decide), tl64 2 (by decide), tl32 5 (by decide), tl64 5 (by decide), tl32 8 (by decide), tl64 8 (by decide), tl32 9999 (by decide), tl64 9999 (by decide)] at c29); (try simp only [lg_cmp_lt, lg_cmp_le, lg_cmp_gt, lg_cmp_ge, lg_cmp_eq] at c30); (try simp (disch := omega) only [ta_lt, ta_le, ta_eq, tb_lt, tb_le, tb_eq, tw, tnI, tsub1, tsv, tn32 9999 (by decide), tnj 9999 (by decide), tn32 1 (by decide), tnj 1 (by decide), tl32 0 (by decide), tl64 0 (by decide), tl32 1 (by decide), tl64 1 (by decide), tl32 2 (by decide), tl64 2 (by decide), tl32 5 (by decide), tl64 5 (by decide), tl32 8 (by decide), tl64 8 (by decide), tl32 9999 (by decide), tl64 9999 (by decide)] at c30); (try simp only [lg_cmp_lt, lg_cmp_le, lg_cmp_gt, lg_cmp_ge, lg_cmp_eq] at c35); (try simp (disch := omega) only [ta_lt, ta_le, ta_eq, tb_lt, tb_le, tb_eq, tw, tnI, tsub1, tsv, tn32 9999 (by decide), tnj 9999 (by decide), tn32 1 (by decide), tnj 1 (by decide), tl32 0 (by decide), tl64 0 (by decide), tl32 1 (by decide), tl64 1 (by decide), tl32 2 (by decide), tl64 2 (by decide), tl32 5 (by decide), tl64 5 (by decide), tl32 8 (by decide), tl64 8 (by decide), tl32 9999 (by decide), tl64 9999 (by decide)] at c35); (try simp only [lg_cmp_lt, lg_cmp_le, lg_cmp_gt, lg_cmp_ge, lg_cmp_eq] at c38); (try simp (disch := omega) only [ta_lt, ta_le, ta_eq, tb_lt, tb_le, tb_eq, tw, tnI, tsub1, tsv, tn32 9999 (by decide), tnj 9999 (by decide), tn32 1 (by decide), tnj 1 (by decide), tl32 0 (by decide), tl64 0 (by decide), tl32 1 (by decide), tl64 1 (by decide), tl32 2 (by decide), tl64 2 (by decide), tl32 5 (by decide), tl64 5 (by decide), tl32 8 (by decide), tl64 8 (by decide), tl32 9999 (by decide), tl64 9999 (by decide)] at c38); (try simp (disch := omega) only [ta_lt, ta_le, ta_eq, tb_lt, tb_le, tb_eq, tw, tnI, tsub1, tsv, tn32 9999 (by decide), tnj 9999 (by decide), tn32 1 (by decide), tnj 1 (by decide), tl32 0 (by decide), tl64 0 (by decide), tl32 1 (by decide), tl64 1 (by decide), tl32 2 (by decide), tl64 2 (by decide), tl32 5 (by decide), tl64 5 (by decide), tl32 8 (by decide), tl64 8 (by decide), tl32 9999 (by decide), tl64 9999 (by decide)]); omega) ((rd_n (by omega)).trans hcd) hT43 hF43 hw (lv_sub hl [0, 1, 2, 3] rfl)
                        exact lp37 _ 0 τ5 _ _ _ (Nat.lt_succ_self _) (by (try simp only [lg_cmp_lt, lg_cmp_le, lg_cmp_gt, lg_cmp_ge, lg_cmp_eq] at c3); (try simp (disch := omega) only [ta_lt, ta_le, ta_eq, tb_lt, tb_le, tb_eq, tw, tnI, tsub1, tsv, tn32 9999 (by decide), tnj 9999 (by decide), tn32 1 (by decide), tnj 1 (by decide), tl32 0 (by decide), tl64 0 (by decide), tl32 1 (by decide), tl64 1 (by decide), tl32 2 (by decide), tl64 2 (by decide), tl32 5 (by decide), tl64 5 (by decide), tl32 8 (by decide), tl64 8 (by decide), tl32 9999 (by decide), tl64 9999 (by decide)] at c3); (try simp only [lg_cmp_lt, lg_cmp_le, lg_cmp_gt, lg_cmp_ge, lg_cmp_eq] at c9); (try simp (disch := omega) only [ta_lt, ta_le, ta_eq, tb_lt, tb_le, tb_eq, tw, tnI, tsub1, tsv, tn32 9999 (by decide), tnj 9999 (by decide), tn32 1 (by decide), tnj 1 (by decide), tl32 0 (by decide), tl64 0 (by decide), tl32 1 (by decide), tl64 1 (by decide), tl32 2 (by decide), tl64 2 (by decide), tl32 5 (by decide), tl64 5 (by decide), tl32 8 (by decide), tl64 8 (by decide), tl32 9999 (by decide), tl64 9999 (by decide)] at c9); (try simp only [lg_cmp_lt, lg_cmp_le, lg_cmp_gt, lg_cmp_ge, lg_cmp_eq] at c29); (try simp (disch := omega) only [ta_lt, ta_le, ta_eq, tb_lt, tb_le, tb_eq, tw, tnI, tsub1, tsv, tn32 9999 (by decide), tnj 9999 (by decide), tn32 1 (by decide), tnj 1 (by decide), tl32 0 (by decide), tl64 0 (by decide), tl32 1 (by decide), tl64 1 (by decide), tl32 2 (by decide), tl64 2 (by decide), tl32 5 (by decide), tl64 5 (by decide), tl32 8 (by decide), tl64 8 (by decide), tl32 9999 (by decide), tl64 9999 (by decide)] at c29); (try simp only [lg_cmp_lt, lg_cmp_le, lg_cmp_gt, lg_cmp_ge, lg_cmp_eq] at c30); (try simp (disch := omega) only [ta_lt, ta_le, ta_eq, tb_lt, tb_le, tb_eq, tw, tnI, tsub1, tsv, tn32 9999 (by decide), tnj 9999 (by decide), tn32 1 (by decide), tnj 1 (by decide), tl32 0 (by decide), tl64 0 (by decide), tl32 1 (by decide), tl64 1 (by decide), tl32 2 (by decide), tl64 2 (by decide), tl32 5 (by decide), tl64 5 (by decide), tl32 8 (by decide), tl64 8 (by decide), tl32 9999 (by decide), tl64 9999 (by decide)] at c30); (try simp only [lg_cmp_lt, lg_cmp_le, lg_cmp_gt, lg_cmp_ge, lg_cmp_eq] at c35); (try simp (disch := omega) only [ta_lt, ta_le, ta_eq, tb_lt, tb_le, tb_eq, tw, tnI, tsub1, tsv, tn32 9999 (by decide), tnj 9999 (by decide), tn32 1 (by decide), tnj 1 (by decide), tl32 0 (by decide), tl64 0 (by decide), tl32 1 (by decide), tl64 1 (by decide), tl32 2 (by decide), tl64 2 (by decide), tl32 5 (by decide), tl64 5 (by decide), tl32 8 (by decide), tl64 8 (by decide), tl32 9999 (by decide), tl64 9999 (by decide)] at c35); (try simp (disch := omega) only [ta_lt, ta_le, ta_eq, tb_lt, tb_le, tb_eq, tw, tnI, tsub1, tsv, tn32 9999 (by decide), tnj 9999 (by decide), tn32 1 (by decide), tnj 1 (by decide), tl32 0 (by decide), tl64 0 (by decide), tl32 1 (by decide), tl64 1 (by decide), tl32 2 (by decide), tl64 2 (by decide), tl32 5 (by decide), tl64 5 (by decide), tl32 8 (by decide), tl64 8 (by decide), tl32 9999 (by decide), tl64 9999 (by decide)]); omega) (ev28.trans en31) hT_τ5 hF_τ5 hw (lv_sub hl [0, 1, 2, 3] rfl)
                      · simp (disch := omega) only [ta_lt, ta_le, ta_eq, tnI] at c35
                        refine lv_aload_n hx hb (dkP dF_42 DX12_runsNew (i := 66) rfl rfl) rfl (lv_at hl 2 rfl) ?_
                        refine lv_aload_n hx hb (dkP dF_42 DX12_runsNew (i := 67) rfl rfl) rfl (lv_at hl 2 rfl) ?_
                        refine z_gr C0 hw 0 1 1 rfl fl_X12_20 (dk2 dF_180 DX12_runsNew (i := 68) rfl rfl rfl) ?_
                        refine lv_iload_n hx hb (dkP dF_27 DX12_runsNew (i := 69) rfl rfl) rfl (lv_at hl 3 rfl) ?_
                        refine lv_aload_n hx hb (dkP dF_42 DX12_runsNew (i := 70) rfl rfl) rfl (lv_at hl 2 rfl) ?_
                        refine z_gi C0 hw 0 25 rfl fl_X12_360 (dk2 dF_180 DX12_runsNew (i := 71) rfl rfl rfl) ?_
                        refine z_top (y := (nI n31)) (ev28.trans en31) ?_
                        refine lv_iload_n hx hb (dkP dF_29 DX12_runsNew (i := 72) rfl rfl) rfl (lv_at hl 0 rfl) ?_
                        refine zn_I hw (zr_S (As := [.int (nI pg), .int (nI n31), .int (nI q3_108)]) (rest := [.ref (ad 1), .ref (ad 0)]) C0 (c_X12_putAt l G kc pg n31 q3_108  _) cs_X12_putAt lk_X12_317 (zp_P C0 hRo hw a00 s00) rfl hl.1 rfl ⟨by decide, by decide⟩ (Nat.le_of_ble_eq_true rfl) (dk2 dF_184 DX12_runsNew (i := 73) rfl rfl rfl) ⟨Nat.le_refl _, Nat.le_refl _⟩) (fun r44 s44 H locs hp hw => ?_)
                        subst hp
                        refine lv_iconst (v := 1) hx hb (dkP dF_4 DX12_runsNew (i := 74) rfl rfl) (by decide) ?_
                        refine lv_iadd hx hb (dkP dF_96 DX12_runsNew (i := 75) rfl rfl) ?_
                        refine z_top (y := nI ((387880 + 10 * (8 * (40 * pg + n31) + q3_108)) + 1)) (by simp only [fa_lit, nI_add, pk_mul]) ?_
                        refine lv_aload_n hx hb (dkP dF_42 DX12_runsNew (i := 76) rfl rfl) rfl (lv_at hl 2 rfl) ?_
                        refine z_gr C0 hw 0 20 11 rfl fl_X12_57 (dk2 dF_180 DX12_runsNew (i := 77) rfl rfl rfl) ?_
                        refine zk_I hw (zr_V (As := [.ref (ad 1), .int (nI ((387880 + 10 * (8 * (40 * pg + n31) + q3_108)) + 1)), .ref (ad 11)]) (rest := []) C0 (c_X12_worked_11 l G kc ad τ5 ((387880 + 10 * (8 * (40 * pg + n31) + q3_108)) + 1) (by first | omega | assumption | decide | rfl) hT_τ5 _) cv_X12_worked lk_X12_345 (zp_V C0 hRo hw 0 rfl rfl rfl) rfl hl.1 rfl ⟨by decide, by decide⟩ (Nat.le_of_ble_eq_true rfl) (dk2 dF_182 DX12_runsNew (i := 78) rfl rfl rfl) ⟨Nat.le_refl _, Nat.le_refl _⟩) (fun r45 s45 H locs hp hw => ?_)
                        have hs45 := hp
                        (rw [hs45] at hw)
                        refine lv_i2l hx hb (dkP dF_133 DX12_runsNew (i := 79) rfl rfl) rfl ?_
                        refine lv_ldc2 hx hb hown (hts _ kn_X12_349) (dk2 dF_20 DX12_runsNew (i := 80) rfl rfl rfl) ?_
                        refine lv_ldc2 hx hb hown (hts _ kn_X12_351) (dk2 dF_20 DX12_runsNew (i := 81) rfl rfl rfl) ?_
                        refine zn_I hw (zr_S (As := [.long r45.toInt64, .long (-9999), .long 9999]) (rest := []) C0 (c_X12_in l G kc r45.toInt64 (-9999) 9999  _) cs_X12_in lk_X12_9 (zp_P C0 hRo hw a00 s00) rfl hl.1 rfl ⟨by decide, by decide⟩ (Nat.le_of_ble_eq_true rfl) (dk2 dF_184 DX12_runsNew (i := 82) rfl rfl rfl) ⟨Nat.le_refl _, Nat.le_refl _⟩) (fun r46 s46 H locs hp hw => ?_)
                        rcases hp with ⟨rfl, hc46⟩ | ⟨rfl, hc46⟩
                        · skip
                          (try simp (disch := omega) only [ta_lt, ta_le, ta_eq, tb_lt, tb_le, tb_eq, tw, tnI, tn32 9999 (by decide), tnj 9999 (by decide), tn32 1 (by decide), tnj 1 (by decide), tl32 0 (by decide), tl64 0 (by decide), tl32 1 (by decide), tl64 1 (by decide), tl32 2 (by decide), tl64 2 (by decide), tl32 5 (by decide), tl64 5 (by decide), tl32 8 (by decide), tl64 8 (by decide), tl32 9999 (by decide), tl64 9999 (by decide)] at hc46)
                          refine lv_if_ne (tgt := 151) hx hb (dkS dF_154 DX12_runsNew (i := 83) rfl rfl rfl) (by decide) (fun _ => ?_) (fun h => absurd h (by decide))
                          refine lv_iinc (v := nI (q3_108 + 1)) (lv' := [(3, .int (nI (q3_108 + 1))), (2, .int (nI n33)), (0, .ref (ad 0)), (1, .int (nI pg))]) hx hb (dkI DX12_runsNew (i := 86) rfl rfl rfl rfl) hl (k := 0) rfl (nI_1 _) (by decide) rfl (fun ls hl => ?_)
                          refine lv_goto (tgt := 108) hx hb (dkS dF_167 DX12_runsNew (i := 87) rfl rfl rfl) (by decide) ?_
                          exact ih34 (q3_108 + 1) _ _ _ (by omega) (by (try simp only [lg_cmp_lt, lg_cmp_le, lg_cmp_gt, lg_cmp_ge, lg_cmp_eq] at c3); (try simp (disch := omega) only [ta_lt, ta_le, ta_eq, tb_lt, tb_le, tb_eq, tw, tnI, tsub1, tsv, tn32 9999 (by decide), tnj 9999 (by decide), tn32 1 (by decide), tnj 1 (by decide), tl32 0 (by decide), tl64 0 (by decide), tl32 1 (by decide), tl64 1 (by decide), tl32 2 (by decide), tl64 2 (by decide), tl32 5 (by decide), tl64 5 (by decide), tl32 8 (by decide), tl64 8 (by decide), tl32 9999 (by decide), tl64 9999 (by decide)] at c3); (try simp only [lg_cmp_lt, lg_cmp_le, lg_cmp_gt, lg_cmp_ge, lg_cmp_eq] at c9); (try simp (disch := omega) only [ta_lt, ta_le, ta_eq, tb_lt, tb_le, tb_eq, tw, tnI, tsub1, tsv, tn32 9999 (by decide), tnj 9999 (by decide), tn32 1 (by decide), tnj 1 (by decide), tl32 0 (by decide), tl64 0 (by decide), tl32 1 (by decide), tl64 1 (by decide), tl32 2 (by decide), tl64 2 (by decide), tl32 5 (by decide), tl64 5 (by decide), tl32 8 (by decide), tl64 8 (by decide), tl32 9999 (by decide), tl64 9999 (by decide)] at c9); (try simp only [lg_cmp_lt, lg_cmp_le, lg_cmp_gt, lg_cmp_ge, lg_cmp_eq] at c29); (try simp (disch := omega) only [ta_lt, ta_le, ta_eq, tb_lt, tb_le, tb_eq, tw, tnI, tsub1, tsv, tn32 9999 (by decide), tnj 9999 (by decide), tn32 1 (by decide), tnj 1 (by decide), tl32 0 (by decide), tl64 0 (by decide), tl32 1 (by decide), tl64 1 (by decide), tl32 2 (by decide), tl64 2 (by decide), tl32 5 (by decide), tl64 5 (by decide), tl32 8 (by decide), tl64 8 (by decide), tl32 9999 (by decide), tl64 9999 (by decide)] at c29); (try simp only [lg_cmp_lt, lg_cmp_le, lg_cmp_gt, lg_cmp_ge, lg_cmp_eq] at c30); (try simp (disch := omega) only [ta_lt, ta_le, ta_eq, tb_lt, tb_le, tb_eq, tw, tnI, tsub1, tsv, tn32 9999 (by decide), tnj 9999 (by decide), tn32 1 (by decide), tnj 1 (by decide), tl32 0 (by decide), tl64 0 (by decide), tl32 1 (by decide), tl64 1 (by decide), tl32 2 (by decide), tl64 2 (by decide), tl32 5 (by decide), tl64 5 (by decide), tl32 8 (by decide), tl64 8 (by decide), tl32 9999 (by decide), tl64 9999 (by decide)] at c30); (try simp only [lg_cmp_lt, lg_cmp_le, lg_cmp_gt, lg_cmp_ge, lg_cmp_eq] at c35); (try simp (disch := omega) only [ta_lt, ta_le, ta_eq, tb_lt, tb_le, tb_eq, tw, tnI, tsub1, tsv, tn32 9999 (by decide), tnj 9999 (by decide), tn32 1 (by decide), tnj 1 (by decide), tl32 0 (by decide), tl64 0 (by decide), tl32 1 (by decide), tl64 1 (by decide), tl32 2 (by decide), tl64 2 (by decide), tl32 5 (by decide), tl64 5 (by decide), tl32 8 (by decide), tl64 8 (by decide), tl32 9999 (by decide), tl64 9999 (by decide)] at c35); (try simp only [lg_cmp_lt, lg_cmp_le, lg_cmp_gt, lg_cmp_ge, lg_cmp_eq] at hc46); (try simp (disch := omega) only [ta_lt, ta_le, ta_eq, tb_lt, tb_le, tb_eq, tw, tnI, tsub1, tsv, tn32 9999 (by decide), tnj 9999 (by decide), tn32 1 (by decide), tnj 1 (by decide), tl32 0 (by decide), tl64 0 (by decide), tl32 1 (by decide), tl64 1 (by decide), tl32 2 (by decide), tl64 2 (by decide), tl32 5 (by decide), tl64 5 (by decide), tl32 8 (by decide), tl64 8 (by decide), tl32 9999 (by decide), tl64 9999 (by decide)] at hc46); (try simp (disch := omega) only [ta_lt, ta_le, ta_eq, tb_lt, tb_le, tb_eq, tw, tnI, tsub1, tsv, tn32 9999 (by decide), tnj 9999 (by decide), tn32 1 (by decide), tnj 1 (by decide), tl32 0 (by decide), tl64 0 (by decide), tl32 1 (by decide), tl64 1 (by decide), tl32 2 (by decide), tl64 2 (by decide), tl32 5 (by decide), tl64 5 (by decide), tl32 8 (by decide), tl64 8 (by decide), tl32 9999 (by decide), tl64 9999 (by decide)]); omega) hw (lv_sub hl [0, 1, 2, 3] rfl)
                        · skip
                          (try simp (disch := omega) only [ta_lt, ta_le, ta_eq, tb_lt, tb_le, tb_eq, tw, tnI, tn32 9999 (by decide), tnj 9999 (by decide), tn32 1 (by decide), tnj 1 (by decide), tl32 0 (by decide), tl64 0 (by decide), tl32 1 (by decide), tl64 1 (by decide), tl32 2 (by decide), tl64 2 (by decide), tl32 5 (by decide), tl64 5 (by decide), tl32 8 (by decide), tl64 8 (by decide), tl32 9999 (by decide), tl64 9999 (by decide)] at hc46)
                          refine lv_if_ne (tgt := 151) hx hb (dkS dF_154 DX12_runsNew (i := 83) rfl rfl rfl) (by decide) (fun h => absurd h (by decide)) (fun _ => ?_)
                          refine lv_iconst (v := 2) hx hb (dkP dF_5 DX12_runsNew (i := 84) rfl rfl) (by decide) ?_
                          exact z_iret C0 hr hlk hw (⟨(by decide), hT_τ5, hF_τ5⟩) (dkP dF_172 DX12_runsNew (i := 85) rfl rfl)
                  exact lp34 _ 0 _ _ _ (Nat.lt_succ_self _) (by (try simp only [lg_cmp_lt, lg_cmp_le, lg_cmp_gt, lg_cmp_ge, lg_cmp_eq] at c3); (try simp (disch := omega) only [ta_lt, ta_le, ta_eq, tb_lt, tb_le, tb_eq, tw, tnI, tsub1, tsv, tn32 9999 (by decide), tnj 9999 (by decide), tn32 1 (by decide), tnj 1 (by decide), tl32 0 (by decide), tl64 0 (by decide), tl32 1 (by decide), tl64 1 (by decide), tl32 2 (by decide), tl64 2 (by decide), tl32 5 (by decide), tl64 5 (by decide), tl32 8 (by decide), tl64 8 (by decide), tl32 9999 (by decide), tl64 9999 (by decide)] at c3); (try simp only [lg_cmp_lt, lg_cmp_le, lg_cmp_gt, lg_cmp_ge, lg_cmp_eq] at c9); (try simp (disch := omega) only [ta_lt, ta_le, ta_eq, tb_lt, tb_le, tb_eq, tw, tnI, tsub1, tsv, tn32 9999 (by decide), tnj 9999 (by decide), tn32 1 (by decide), tnj 1 (by decide), tl32 0 (by decide), tl64 0 (by decide), tl32 1 (by decide), tl64 1 (by decide), tl32 2 (by decide), tl64 2 (by decide), tl32 5 (by decide), tl64 5 (by decide), tl32 8 (by decide), tl64 8 (by decide), tl32 9999 (by decide), tl64 9999 (by decide)] at c9); (try simp only [lg_cmp_lt, lg_cmp_le, lg_cmp_gt, lg_cmp_ge, lg_cmp_eq] at c29); (try simp (disch := omega) only [ta_lt, ta_le, ta_eq, tb_lt, tb_le, tb_eq, tw, tnI, tsub1, tsv, tn32 9999 (by decide), tnj 9999 (by decide), tn32 1 (by decide), tnj 1 (by decide), tl32 0 (by decide), tl64 0 (by decide), tl32 1 (by decide), tl64 1 (by decide), tl32 2 (by decide), tl64 2 (by decide), tl32 5 (by decide), tl64 5 (by decide), tl32 8 (by decide), tl64 8 (by decide), tl32 9999 (by decide), tl64 9999 (by decide)] at c29); (try simp only [lg_cmp_lt, lg_cmp_le, lg_cmp_gt, lg_cmp_ge, lg_cmp_eq] at c30); (try simp (disch := omega) only [ta_lt, ta_le, ta_eq, tb_lt, tb_le, tb_eq, tw, tnI, tsub1, tsv, tn32 9999 (by decide), tnj 9999 (by decide), tn32 1 (by decide), tnj 1 (by decide), tl32 0 (by decide), tl64 0 (by decide), tl32 1 (by decide), tl64 1 (by decide), tl32 2 (by decide), tl64 2 (by decide), tl32 5 (by decide), tl64 5 (by decide), tl32 8 (by decide), tl64 8 (by decide), tl32 9999 (by decide), tl64 9999 (by decide)] at c30); (try simp (disch := omega) only [ta_lt, ta_le, ta_eq, tb_lt, tb_le, tb_eq, tw, tnI, tsub1, tsv, tn32 9999 (by decide), tnj 9999 (by decide), tn32 1 (by decide), tnj 1 (by decide), tl32 0 (by decide), tl64 0 (by decide), tl32 1 (by decide), tl64 1 (by decide), tl32 2 (by decide), tl64 2 (by decide), tl32 5 (by decide), tl64 5 (by decide), tl32 8 (by decide), tl64 8 (by decide), tl32 9999 (by decide), tl64 9999 (by decide)]); omega) hw (lv_sub hl [0, 1, 2, 3] rfl)
                · (try simp (disch := omega) only [ta_lt, ta_le, ta_eq, tnI, tn32 1 (by decide)] at c30)
                  refine lv_iconst (v := 5) hx hb (dkP dF_8 DX12_runsNew (i := 49) rfl rfl) (by decide) ?_
                  exact z_iret C0 hr hlk hw (⟨(by decide), hT_τ5, hF_τ5⟩) (dkP dF_172 DX12_runsNew (i := 50) rfl rfl)
              · (try simp (disch := omega) only [ta_lt, ta_le, ta_eq, tnI, tn32 1 (by decide)] at c29)
                refine lv_aload_n hx hb (dkP dF_42 DX12_runsNew (i := 33) rfl rfl) rfl (lv_at hl 1 rfl) ?_
                refine lv_aload_n hx hb (dkP dF_42 DX12_runsNew (i := 34) rfl rfl) rfl (lv_at hl 1 rfl) ?_
                refine lv_iload_n hx hb (dkP dF_27 DX12_runsNew (i := 35) rfl rfl) rfl (lv_at hl 2 rfl) ?_
                refine lv_iload_n hx hb (dkP dF_28 DX12_runsNew (i := 36) rfl rfl) rfl (lv_at hl 0 rfl) ?_
                refine zk_I hw (zr_V (As := [.int (nI pg), .int (nI q2_33)]) (rest := [.ref (ad 0)]) C0 (c_X12_isCase l G kc ad τ5 pg q2_33 (by first | omega | assumption | decide | rfl) (by first | omega | assumption | decide | rfl) hT_τ5 _) cv_X12_isCase lk_X12_363 (zp_V C0 hRo hw 0 rfl rfl rfl) rfl hl.1 rfl ⟨by decide, by decide⟩ (Nat.le_of_ble_eq_true rfl) (dk2 dF_182 DX12_runsNew (i := 37) rfl rfl rfl) ⟨Nat.le_refl _, Nat.le_refl _⟩) (fun r47 s47 H locs hp hw => ?_)
                obtain ⟨f47_0, hs47⟩ := hp
                (rw [hs47] at hw)
                rcases f47_0 with ⟨rfl, hc47⟩ | ⟨rfl, hc47⟩
                · skip
                  refine lv_if_eq (tgt := 70) hx hb (dkS dF_153 DX12_runsNew (i := 38) rfl rfl rfl) (by decide) (fun h => absurd h (by decide)) (fun _ => ?_)
                  refine lv_iload_n hx hb (dkP dF_28 DX12_runsNew (i := 39) rfl rfl) rfl (lv_at hl 0 rfl) ?_
                  refine lv_goto (tgt := 71) hx hb (dkS dF_167 DX12_runsNew (i := 40) rfl rfl rfl) (by decide) ?_
                  refine z_pi C0 hw 0 25 rfl fp_X12_360 (dk2 dF_181 DX12_runsNew (i := 42) rfl rfl rfl) (fun H locs hw => ?_)
                  have hT48 : TM (sI τ5 0 25 (nI q2_33)) := TM.w hT_τ5 (show -1 ≤ _ ∧ _ ≤ 39 from by (try simp only [lg_cmp_lt, lg_cmp_le, lg_cmp_gt, lg_cmp_ge, lg_cmp_eq] at c3); (try simp (disch := omega) only [ta_lt, ta_le, ta_eq, tb_lt, tb_le, tb_eq, tw, tnI, tsub1, tsv, tn32 9999 (by decide), tnj 9999 (by decide), tn32 1 (by decide), tnj 1 (by decide), tl32 0 (by decide), tl64 0 (by decide), tl32 1 (by decide), tl64 1 (by decide), tl32 2 (by decide), tl64 2 (by decide), tl32 5 (by decide), tl64 5 (by decide), tl32 8 (by decide), tl64 8 (by decide), tl32 9999 (by decide), tl64 9999 (by decide)] at c3); (try simp only [lg_cmp_lt, lg_cmp_le, lg_cmp_gt, lg_cmp_ge, lg_cmp_eq] at c9); (try simp (disch := omega) only [ta_lt, ta_le, ta_eq, tb_lt, tb_le, tb_eq, tw, tnI, tsub1, tsv, tn32 9999 (by decide), tnj 9999 (by decide), tn32 1 (by decide), tnj 1 (by decide), tl32 0 (by decide), tl64 0 (by decide), tl32 1 (by decide), tl64 1 (by decide), tl32 2 (by decide), tl64 2 (by decide), tl32 5 (by decide), tl64 5 (by decide), tl32 8 (by decide), tl64 8 (by decide), tl32 9999 (by decide), tl64 9999 (by decide)] at c9); (try simp only [lg_cmp_lt, lg_cmp_le, lg_cmp_gt, lg_cmp_ge, lg_cmp_eq] at c29); (try simp (disch := omega) only [ta_lt, ta_le, ta_eq, tb_lt, tb_le, tb_eq, tw, tnI, tsub1, tsv, tn32 9999 (by decide), tnj 9999 (by decide), tn32 1 (by decide), tnj 1 (by decide), tl32 0 (by decide), tl64 0 (by decide), tl32 1 (by decide), tl64 1 (by decide), tl32 2 (by decide), tl64 2 (by decide), tl32 5 (by decide), tl64 5 (by decide), tl32 8 (by decide), tl64 8 (by decide), tl32 9999 (by decide), tl64 9999 (by decide)] at c29); (try simp only [lg_cmp_lt, lg_cmp_le, lg_cmp_gt, lg_cmp_ge, lg_cmp_eq] at f47_0); (try simp (disch := omega) only [ta_lt, ta_le, ta_eq, tb_lt, tb_le, tb_eq, tw, tnI, tsub1, tsv, tn32 9999 (by decide), tnj 9999 (by decide), tn32 1 (by decide), tnj 1 (by decide), tl32 0 (by decide), tl64 0 (by decide), tl32 1 (by decide), tl64 1 (by decide), tl32 2 (by decide), tl64 2 (by decide), tl32 5 (by decide), tl64 5 (by decide), tl32 8 (by decide), tl64 8 (by decide), tl32 9999 (by decide), tl64 9999 (by decide)] at f47_0); (try simp only [lg_cmp_lt, lg_cmp_le, lg_cmp_gt, lg_cmp_ge, lg_cmp_eq] at hc47); (try simp (disch := omega) only [ta_lt, ta_le, ta_eq, tb_lt, tb_le, tb_eq, tw, tnI, tsub1, tsv, tn32 9999 (by decide), tnj 9999 (by decide), tn32 1 (by decide), tnj 1 (by decide), tl32 0 (by decide), tl64 0 (by decide), tl32 1 (by decide), tl64 1 (by decide), tl32 2 (by decide), tl64 2 (by decide), tl32 5 (by decide), tl64 5 (by decide), tl32 8 (by decide), tl64 8 (by decide), tl32 9999 (by decide), tl64 9999 (by decide)] at hc47); (try simp (disch := omega) only [ta_lt, ta_le, ta_eq, tb_lt, tb_le, tb_eq, tw, tnI, tsub1, tsv, tn32 9999 (by decide), tnj 9999 (by decide), tn32 1 (by decide), tnj 1 (by decide), tl32 0 (by decide), tl64 0 (by decide), tl32 1 (by decide), tl64 1 (by decide), tl32 2 (by decide), tl64 2 (by decide), tl32 5 (by decide), tl64 5 (by decide), tl32 8 (by decide), tl64 8 (by decide), tl32 9999 (by decide), tl64 9999 (by decide)]); omega)
                  have hF48 : fr true [14] [25] σ (sI τ5 0 25 (nI q2_33)) := fr.w hF_τ5 (Or.inr ⟨rfl, by decide⟩) (fun _ h => absurd h (by decide))
                  refine lv_iinc (v := nI (q2_33 + 1)) (lv' := [(2, .int (nI (q2_33 + 1))), (0, .ref (ad 0)), (1, .int (nI pg))]) hx hb (dkI DX12_runsNew (i := 43) rfl rfl rfl rfl) hl (k := 0) rfl (nI_1 _) (by decide) rfl (fun ls hl => ?_)
                  refine lv_goto (tgt := 33) hx hb (dkS dF_167 DX12_runsNew (i := 44) rfl rfl rfl) (by decide) ?_
                  exact ih6 (q2_33 + 1) (sI τ5 0 25 (nI q2_33)) _ _ _ (by omega) (by (try simp only [lg_cmp_lt, lg_cmp_le, lg_cmp_gt, lg_cmp_ge, lg_cmp_eq] at c3); (try simp (disch := omega) only [ta_lt, ta_le, ta_eq, tb_lt, tb_le, tb_eq, tw, tnI, tsub1, tsv, tn32 9999 (by decide), tnj 9999 (by decide), tn32 1 (by decide), tnj 1 (by decide), tl32 0 (by decide), tl64 0 (by decide), tl32 1 (by decide), tl64 1 (by decide), tl32 2 (by decide), tl64 2 (by decide), tl32 5 (by decide), tl64 5 (by decide), tl32 8 (by decide), tl64 8 (by decide), tl32 9999 (by decide), tl64 9999 (by decide)] at c3); (try simp only [lg_cmp_lt, lg_cmp_le, lg_cmp_gt, lg_cmp_ge, lg_cmp_eq] at c9); (try simp (disch := omega) only [ta_lt, ta_le, ta_eq, tb_lt, tb_le, tb_eq, tw, tnI, tsub1, tsv, tn32 9999 (by decide), tnj 9999 (by decide), tn32 1 (by decide), tnj 1 (by decide), tl32 0 (by decide), tl64 0 (by decide), tl32 1 (by decide), tl64 1 (by decide), tl32 2 (by decide), tl64 2 (by decide), tl32 5 (by decide), tl64 5 (by decide), tl32 8 (by decide), tl64 8 (by decide), tl32 9999 (by decide), tl64 9999 (by decide)] at c9); (try simp only [lg_cmp_lt, lg_cmp_le, lg_cmp_gt, lg_cmp_ge, lg_cmp_eq] at c29); (try simp (disch := omega) only [ta_lt, ta_le, ta_eq, tb_lt, tb_le, tb_eq, tw, tnI, tsub1, tsv, tn32 9999 (by decide), tnj 9999 (by decide), tn32 1 (by decide), tnj 1 (by decide), tl32 0 (by decide), tl64 0 (by decide), tl32 1 (by decide), tl64 1 (by decide), tl32 2 (by decide), tl64 2 (by decide), tl32 5 (by decide), tl64 5 (by decide), tl32 8 (by decide), tl64 8 (by decide), tl32 9999 (by decide), tl64 9999 (by decide)] at c29); (try simp only [lg_cmp_lt, lg_cmp_le, lg_cmp_gt, lg_cmp_ge, lg_cmp_eq] at f47_0); (try simp (disch := omega) only [ta_lt, ta_le, ta_eq, tb_lt, tb_le, tb_eq, tw, tnI, tsub1, tsv, tn32 9999 (by decide), tnj 9999 (by decide), tn32 1 (by decide), tnj 1 (by decide), tl32 0 (by decide), tl64 0 (by decide), tl32 1 (by decide), tl64 1 (by decide), tl32 2 (by decide), tl64 2 (by decide), tl32 5 (by decide), tl64 5 (by decide), tl32 8 (by decide), tl64 8 (by decide), tl32 9999 (by decide), tl64 9999 (by decide)] at f47_0); (try simp only [lg_cmp_lt, lg_cmp_le, lg_cmp_gt, lg_cmp_ge, lg_cmp_eq] at hc47); (try simp (disch := omega) only [ta_lt, ta_le, ta_eq, tb_lt, tb_le, tb_eq, tw, tnI, tsub1, tsv, tn32 9999 (by decide), tnj 9999 (by decide), tn32 1 (by decide), tnj 1 (by decide), tl32 0 (by decide), tl64 0 (by decide), tl32 1 (by decide), tl64 1 (by decide), tl32 2 (by decide), tl64 2 (by decide), tl32 5 (by decide), tl64 5 (by decide), tl32 8 (by decide), tl64 8 (by decide), tl32 9999 (by decide), tl64 9999 (by decide)] at hc47); (try simp (disch := omega) only [ta_lt, ta_le, ta_eq, tb_lt, tb_le, tb_eq, tw, tnI, tsub1, tsv, tn32 9999 (by decide), tnj 9999 (by decide), tn32 1 (by decide), tnj 1 (by decide), tl32 0 (by decide), tl64 0 (by decide), tl32 1 (by decide), tl64 1 (by decide), tl32 2 (by decide), tl64 2 (by decide), tl32 5 (by decide), tl64 5 (by decide), tl32 8 (by decide), tl64 8 (by decide), tl32 9999 (by decide), tl64 9999 (by decide)]); omega) hT48 hF48 hw (lv_sub hl [0, 1, 2] rfl)
                · skip
                  refine lv_if_eq (tgt := 70) hx hb (dkS dF_153 DX12_runsNew (i := 38) rfl rfl rfl) (by decide) (fun _ => ?_) (fun h => absurd h (by decide))
                  refine lv_iconst (v := (-1)) hx hb (dkP dF_2 DX12_runsNew (i := 41) rfl rfl) (by decide) ?_
                  refine z_pi C0 hw 0 25 rfl fp_X12_360 (dk2 dF_181 DX12_runsNew (i := 42) rfl rfl rfl) (fun H locs hw => ?_)
                  have hT49 : TM (sI τ5 0 25 (-1)) := TM.w hT_τ5 (show -1 ≤ _ ∧ _ ≤ 39 from by (try simp only [lg_cmp_lt, lg_cmp_le, lg_cmp_gt, lg_cmp_ge, lg_cmp_eq] at c3); (try simp (disch := omega) only [ta_lt, ta_le, ta_eq, tb_lt, tb_le, tb_eq, tw, tnI, tsub1, tsv, tn32 9999 (by decide), tnj 9999 (by decide), tn32 1 (by decide), tnj 1 (by decide), tl32 0 (by decide), tl64 0 (by decide), tl32 1 (by decide), tl64 1 (by decide), tl32 2 (by decide), tl64 2 (by decide), tl32 5 (by decide), tl64 5 (by decide), tl32 8 (by decide), tl64 8 (by decide), tl32 9999 (by decide), tl64 9999 (by decide)] at c3); (try simp only [lg_cmp_lt, lg_cmp_le, lg_cmp_gt, lg_cmp_ge, lg_cmp_eq] at c9); (try simp (disch := omega) only [ta_lt, ta_le, ta_eq, tb_lt, tb_le, tb_eq, tw, tnI, tsub1, tsv, tn32 9999 (by decide), tnj 9999 (by decide), tn32 1 (by decide), tnj 1 (by decide), tl32 0 (by decide), tl64 0 (by decide), tl32 1 (by decide), tl64 1 (by decide), tl32 2 (by decide), tl64 2 (by decide), tl32 5 (by decide), tl64 5 (by decide), tl32 8 (by decide), tl64 8 (by decide), tl32 9999 (by decide), tl64 9999 (by decide)] at c9); (try simp only [lg_cmp_lt, lg_cmp_le, lg_cmp_gt, lg_cmp_ge, lg_cmp_eq] at c29); (try simp (disch := omega) only [ta_lt, ta_le, ta_eq, tb_lt, tb_le, tb_eq, tw, tnI, tsub1, tsv, tn32 9999 (by decide), tnj 9999 (by decide), tn32 1 (by decide), tnj 1 (by decide), tl32 0 (by decide), tl64 0 (by decide), tl32 1 (by decide), tl64 1 (by decide), tl32 2 (by decide), tl64 2 (by decide), tl32 5 (by decide), tl64 5 (by decide), tl32 8 (by decide), tl64 8 (by decide), tl32 9999 (by decide), tl64 9999 (by decide)] at c29); (try simp only [lg_cmp_lt, lg_cmp_le, lg_cmp_gt, lg_cmp_ge, lg_cmp_eq] at f47_0); (try simp (disch := omega) only [ta_lt, ta_le, ta_eq, tb_lt, tb_le, tb_eq, tw, tnI, tsub1, tsv, tn32 9999 (by decide), tnj 9999 (by decide), tn32 1 (by decide), tnj 1 (by decide), tl32 0 (by decide), tl64 0 (by decide), tl32 1 (by decide), tl64 1 (by decide), tl32 2 (by decide), tl64 2 (by decide), tl32 5 (by decide), tl64 5 (by decide), tl32 8 (by decide), tl64 8 (by decide), tl32 9999 (by decide), tl64 9999 (by decide)] at f47_0); (try simp only [lg_cmp_lt, lg_cmp_le, lg_cmp_gt, lg_cmp_ge, lg_cmp_eq] at hc47); (try simp (disch := omega) only [ta_lt, ta_le, ta_eq, tb_lt, tb_le, tb_eq, tw, tnI, tsub1, tsv, tn32 9999 (by decide), tnj 9999 (by decide), tn32 1 (by decide), tnj 1 (by decide), tl32 0 (by decide), tl64 0 (by decide), tl32 1 (by decide), tl64 1 (by decide), tl32 2 (by decide), tl64 2 (by decide), tl32 5 (by decide), tl64 5 (by decide), tl32 8 (by decide), tl64 8 (by decide), tl32 9999 (by decide), tl64 9999 (by decide)] at hc47); (try simp (disch := omega) only [ta_lt, ta_le, ta_eq, tb_lt, tb_le, tb_eq, tw, tnI, tsub1, tsv, tn32 9999 (by decide), tnj 9999 (by decide), tn32 1 (by decide), tnj 1 (by decide), tl32 0 (by decide), tl64 0 (by decide), tl32 1 (by decide), tl64 1 (by decide), tl32 2 (by decide), tl64 2 (by decide), tl32 5 (by decide), tl64 5 (by decide), tl32 8 (by decide), tl64 8 (by decide), tl32 9999 (by decide), tl64 9999 (by decide)]); omega)
                  have hF49 : fr true [14] [25] σ (sI τ5 0 25 (-1)) := fr.w hF_τ5 (Or.inr ⟨rfl, by decide⟩) (fun _ h => absurd h (by decide))
                  refine lv_iinc (v := nI (q2_33 + 1)) (lv' := [(2, .int (nI (q2_33 + 1))), (0, .ref (ad 0)), (1, .int (nI pg))]) hx hb (dkI DX12_runsNew (i := 43) rfl rfl rfl rfl) hl (k := 0) rfl (nI_1 _) (by decide) rfl (fun ls hl => ?_)
                  refine lv_goto (tgt := 33) hx hb (dkS dF_167 DX12_runsNew (i := 44) rfl rfl rfl) (by decide) ?_
                  exact ih6 (q2_33 + 1) (sI τ5 0 25 (-1)) _ _ _ (by omega) (by (try simp only [lg_cmp_lt, lg_cmp_le, lg_cmp_gt, lg_cmp_ge, lg_cmp_eq] at c3); (try simp (disch := omega) only [ta_lt, ta_le, ta_eq, tb_lt, tb_le, tb_eq, tw, tnI, tsub1, tsv, tn32 9999 (by decide), tnj 9999 (by decide), tn32 1 (by decide), tnj 1 (by decide), tl32 0 (by decide), tl64 0 (by decide), tl32 1 (by decide), tl64 1 (by decide), tl32 2 (by decide), tl64 2 (by decide), tl32 5 (by decide), tl64 5 (by decide), tl32 8 (by decide), tl64 8 (by decide), tl32 9999 (by decide), tl64 9999 (by decide)] at c3); (try simp only [lg_cmp_lt, lg_cmp_le, lg_cmp_gt, lg_cmp_ge, lg_cmp_eq] at c9); (try simp (disch := omega) only [ta_lt, ta_le, ta_eq, tb_lt, tb_le, tb_eq, tw, tnI, tsub1, tsv, tn32 9999 (by decide), tnj 9999 (by decide), tn32 1 (by decide), tnj 1 (by decide), tl32 0 (by decide), tl64 0 (by decide), tl32 1 (by decide), tl64 1 (by decide), tl32 2 (by decide), tl64 2 (by decide), tl32 5 (by decide), tl64 5 (by decide), tl32 8 (by decide), tl64 8 (by decide), tl32 9999 (by decide), tl64 9999 (by decide)] at c9); (try simp only [lg_cmp_lt, lg_cmp_le, lg_cmp_gt, lg_cmp_ge, lg_cmp_eq] at c29); (try simp (disch := omega) only [ta_lt, ta_le, ta_eq, tb_lt, tb_le, tb_eq, tw, tnI, tsub1, tsv, tn32 9999 (by decide), tnj 9999 (by decide), tn32 1 (by decide), tnj 1 (by decide), tl32 0 (by decide), tl64 0 (by decide), tl32 1 (by decide), tl64 1 (by decide), tl32 2 (by decide), tl64 2 (by decide), tl32 5 (by decide), tl64 5 (by decide), tl32 8 (by decide), tl64 8 (by decide), tl32 9999 (by decide), tl64 9999 (by decide)] at c29); (try simp only [lg_cmp_lt, lg_cmp_le, lg_cmp_gt, lg_cmp_ge, lg_cmp_eq] at f47_0); (try simp (disch := omega) only [ta_lt, ta_le, ta_eq, tb_lt, tb_le, tb_eq, tw, tnI, tsub1, tsv, tn32 9999 (by decide), tnj 9999 (by decide), tn32 1 (by decide), tnj 1 (by decide), tl32 0 (by decide), tl64 0 (by decide), tl32 1 (by decide), tl64 1 (by decide), tl32 2 (by decide), tl64 2 (by decide), tl32 5 (by decide), tl64 5 (by decide), tl32 8 (by decide), tl64 8 (by decide), tl32 9999 (by decide), tl64 9999 (by decide)] at f47_0); (try simp only [lg_cmp_lt, lg_cmp_le, lg_cmp_gt, lg_cmp_ge, lg_cmp_eq] at hc47); (try simp (disch := omega) only [ta_lt, ta_le, ta_eq, tb_lt, tb_le, tb_eq, tw, tnI, tsub1, tsv, tn32 9999 (by decide), tnj 9999 (by decide), tn32 1 (by decide), tnj 1 (by decide), tl32 0 (by decide), tl64 0 (by decide), tl32 1 (by decide), tl64 1 (by decide), tl32 2 (by decide), tl64 2 (by decide), tl32 5 (by decide), tl64 5 (by decide), tl32 8 (by decide), tl64 8 (by decide), tl32 9999 (by decide), tl64 9999 (by decide)] at hc47); (try simp (disch := omega) only [ta_lt, ta_le, ta_eq, tb_lt, tb_le, tb_eq, tw, tnI, tsub1, tsv, tn32 9999 (by decide), tnj 9999 (by decide), tn32 1 (by decide), tnj 1 (by decide), tl32 0 (by decide), tl64 0 (by decide), tl32 1 (by decide), tl64 1 (by decide), tl32 2 (by decide), tl64 2 (by decide), tl32 5 (by decide), tl64 5 (by decide), tl32 8 (by decide), tl64 8 (by decide), tl32 9999 (by decide), tl64 9999 (by decide)]); omega) hT49 hF49 hw (lv_sub hl [0, 1, 2] rfl)
        exact lp6 _ 0 (sI τ1 0 25 (-1)) _ _ _ (Nat.lt_succ_self _) (by (try simp only [lg_cmp_lt, lg_cmp_le, lg_cmp_gt, lg_cmp_ge, lg_cmp_eq] at c3); (try simp (disch := omega) only [ta_lt, ta_le, ta_eq, tb_lt, tb_le, tb_eq, tw, tnI, tsub1, tsv, tn32 9999 (by decide), tnj 9999 (by decide), tn32 1 (by decide), tnj 1 (by decide), tl32 0 (by decide), tl64 0 (by decide), tl32 1 (by decide), tl64 1 (by decide), tl32 2 (by decide), tl64 2 (by decide), tl32 5 (by decide), tl64 5 (by decide), tl32 8 (by decide), tl64 8 (by decide), tl32 9999 (by decide), tl64 9999 (by decide)] at c3); (try simp (disch := omega) only [ta_lt, ta_le, ta_eq, tb_lt, tb_le, tb_eq, tw, tnI, tsub1, tsv, tn32 9999 (by decide), tnj 9999 (by decide), tn32 1 (by decide), tnj 1 (by decide), tl32 0 (by decide), tl64 0 (by decide), tl32 1 (by decide), tl64 1 (by decide), tl32 2 (by decide), tl64 2 (by decide), tl32 5 (by decide), tl64 5 (by decide), tl32 8 (by decide), tl64 8 (by decide), tl32 9999 (by decide), tl64 9999 (by decide)]); omega) hT4 hF4 hw (lv_sub hl [0, 1, 2] rfl)
      · simp (disch := omega) only [ta_lt, ta_le, ta_eq, tnI, tl32 8 (by decide)] at c3
        refine lv_aload_n hx hb (dkP dF_42 DX12_runsNew (i := 5) rfl rfl) rfl (lv_at hl 1 rfl) ?_
        refine z_gr C0 hw 0 24 14 rfl fl_X12_66 (dk2 dF_180 DX12_runsNew (i := 6) rfl rfl rfl) ?_
        refine lv_iload_n hx hb (dkP dF_28 DX12_runsNew (i := 7) rfl rfl) rfl (lv_at hl 0 rfl) ?_
        refine lv_aload_n hx hb (dkP dF_42 DX12_runsNew (i := 8) rfl rfl) rfl (lv_at hl 1 rfl) ?_
        refine z_gr C0 hw 0 20 11 rfl fl_X12_57 (dk2 dF_180 DX12_runsNew (i := 9) rfl rfl rfl) ?_
        refine lv_iload_n hx hb (dkP dF_28 DX12_runsNew (i := 10) rfl rfl) rfl (lv_at hl 0 rfl) ?_
        refine z_ialdN (n := 8) C0 hw 11 q2_2 rfl (by omega) (by decide) (dkP dF_46 DX12_runsNew (i := 11) rfl rfl) ?_
        obtain ⟨v50, ev50⟩ : ∃ y : Int32, τ1.1 11 q2_2 = y := ⟨_, rfl⟩
        refine z_top (y := v50) ev50 ?_
        refine z_iastN (n := 8) C0 hw 14 q2_2 rfl (by omega) (by decide) (dkP dF_79 DX12_runsNew (i := 12) rfl rfl) (fun H locs hw => ?_)
        have hT51 : TM (sI τ1 14 q2_2 v50) := TM.w hT_τ1 (show True from trivial)
        have hF51 : fr true [14] [25] σ (sI τ1 14 q2_2 v50) := fr.w hF_τ1 (Or.inl ⟨by decide, by decide⟩) (fun _ h => absurd h (by decide))
        refine lv_iinc (v := nI (q2_2 + 1)) (lv' := [(2, .int (nI (q2_2 + 1))), (0, .ref (ad 0)), (1, .int (nI pg))]) hx hb (dkI DX12_runsNew (i := 13) rfl rfl rfl rfl) hl (k := 0) rfl (nI_1 _) (by decide) rfl (fun ls hl => ?_)
        refine lv_goto (tgt := 2) hx hb (dkS dF_167 DX12_runsNew (i := 14) rfl rfl rfl) (by decide) ?_
        exact ih2 (q2_2 + 1) (sI τ1 14 q2_2 v50) _ _ _ (by omega) (by (try simp only [lg_cmp_lt, lg_cmp_le, lg_cmp_gt, lg_cmp_ge, lg_cmp_eq] at c3); (try simp (disch := omega) only [ta_lt, ta_le, ta_eq, tb_lt, tb_le, tb_eq, tw, tnI, tsub1, tsv, tn32 9999 (by decide), tnj 9999 (by decide), tn32 1 (by decide), tnj 1 (by decide), tl32 0 (by decide), tl64 0 (by decide), tl32 1 (by decide), tl64 1 (by decide), tl32 2 (by decide), tl64 2 (by decide), tl32 5 (by decide), tl64 5 (by decide), tl32 8 (by decide), tl64 8 (by decide), tl32 9999 (by decide), tl64 9999 (by decide)] at c3); (try simp (disch := omega) only [ta_lt, ta_le, ta_eq, tb_lt, tb_le, tb_eq, tw, tnI, tsub1, tsv, tn32 9999 (by decide), tnj 9999 (by decide), tn32 1 (by decide), tnj 1 (by decide), tl32 0 (by decide), tl64 0 (by decide), tl32 1 (by decide), tl64 1 (by decide), tl32 2 (by decide), tl64 2 (by decide), tl32 5 (by decide), tl64 5 (by decide), tl32 8 (by decide), tl64 8 (by decide), tl32 9999 (by decide), tl64 9999 (by decide)]); omega) hT51 hF51 hw (lv_sub hl [0, 1, 2] rfl)
  exact lp2 _ 0 σ _ _ _ (Nat.lt_succ_self _) (by (try simp (disch := omega) only [ta_lt, ta_le, ta_eq, tb_lt, tb_le, tb_eq, tw, tnI, tsub1, tsv, tn32 9999 (by decide), tnj 9999 (by decide), tn32 1 (by decide), tnj 1 (by decide), tl32 0 (by decide), tl64 0 (by decide), tl32 1 (by decide), tl64 1 (by decide), tl32 2 (by decide), tl64 2 (by decide), tl32 5 (by decide), tl64 5 (by decide), tl32 8 (by decide), tl64 8 (by decide), tl32 9999 (by decide), tl64 9999 (by decide)]); omega) hT fr.refl hw (lv_sub hl [0, 1, 2] rfl)
set_option maxRecDepth 100000 in
set_option maxHeartbeats 8000000 in
theorem c_X12_run (l : Launch) (G : va_G) (kc : KC) (ad : Nat → Nat) (σ : Sg) (program : Int32) (input : Int32) (hT : TM σ) : MI l G kc yX12_run cX12_run 4 (some .int) 5 109 [.ref (ad 0), .int program, .int input] shM ad σ (fun r σ1 => TM σ1 ∧ fr true [11, 12, 13, 15] [23, 27] σ σ1) := by
  intro sz
  refine z_body (y := yX12_run) (n := 4) (av := [.ref (ad 0), .int program, .int input]) (Qc := fun A => va_Qi (fun r σ1 => TM σ1 ∧ fr true [11, 12, 13, 15] [23, 27] σ σ1) (PoC G kc shM ad A) A) (plainFor_of_name (by decide)) (Nat.le_of_ble_eq_true rfl) (fun pr e s m below meth c A C0 hr hlk hnm hw hRo ls hl => ?_) sz
  have hx := C0.1
  have hb := C0.2.1
  have hown := C0.2.2.2.1
  have hts := C0.2.2.2.2.1
  have hl : lv_has ls 4 [(0, .ref (ad 0)), (1, .int program), (2, .int input)] := hl
  refine lv_iload_n hx hb (dkP dF_27 DX12_run (i := 0) rfl rfl) rfl (lv_at hl 1 rfl) ?_
  refine zn_I hw (zr_S (As := [.int program]) (rest := []) C0 (c_X12_isProgram l G kc program  _) cs_X12_isProgram lk_X12_272 (zp_P C0 hRo hw a00 s00) rfl hl.1 rfl ⟨by decide, by decide⟩ (Nat.le_of_ble_eq_true rfl) (dk2 dF_184 DX12_run (i := 1) rfl rfl rfl) ⟨Nat.le_refl _, Nat.le_refl _⟩) (fun r1 s1 H locs hp hw => ?_)
  rcases hp with ⟨rfl, hc1⟩ | ⟨rfl, hc1⟩
  · skip
    (try simp (disch := omega) only [ta_lt, ta_le, ta_eq, tb_lt, tb_le, tb_eq, tw, tnI, tn32 1 (by decide), tnj 1 (by decide), tl32 0 (by decide), tl64 0 (by decide)] at hc1)
    obtain ⟨k_program, hk_program, rfl⟩ := to_nat (x := program) (n := 8) (by (try simp only [lg_cmp_lt, lg_cmp_le, lg_cmp_gt, lg_cmp_ge, lg_cmp_eq] at hc1); (try simp (disch := omega) only [ta_lt, ta_le, ta_eq, tb_lt, tb_le, tb_eq, tw, tnI, tn32 1 (by decide), tnj 1 (by decide), tl32 0 (by decide), tl64 0 (by decide)] at hc1); (try simp (disch := omega) only [ta_lt, ta_le, ta_eq, tb_lt, tb_le, tb_eq, tw, tnI, tn32 1 (by decide), tnj 1 (by decide), tl32 0 (by decide), tl64 0 (by decide)]); omega)
    refine lv_if_eq (tgt := 24) hx hb (dkS dF_153 DX12_run (i := 2) rfl rfl rfl) (by decide) (fun h => absurd h (by decide)) (fun _ => ?_)
    refine lv_aload_n hx hb (dkP dF_42 DX12_run (i := 3) rfl rfl) rfl (lv_at hl 0 rfl) ?_
    refine lv_iload_n hx hb (dkP dF_27 DX12_run (i := 4) rfl rfl) rfl (lv_at hl 1 rfl) ?_
    refine zk_I hw (zr_V (As := [.int (nI k_program)]) (rest := []) C0 (c_X12_hasOld l G kc ad σ k_program (by first | omega | assumption | decide | rfl) _) cv_X12_hasOld lk_X12_366 (zp_V C0 hRo hw 0 rfl rfl rfl) rfl hl.1 rfl ⟨by decide, by decide⟩ (Nat.le_of_ble_eq_true rfl) (dk2 dF_182 DX12_run (i := 5) rfl rfl rfl) ⟨Nat.le_refl _, Nat.le_refl _⟩) (fun r2 s2 H locs hp hw => ?_)
    obtain ⟨hq2, hs2⟩ := hp
    (rw [hs2] at hw; clear hs2)
    rcases hq2 with ⟨rfl, hc2⟩ | ⟨rfl, hc2⟩
    · skip
      refine lv_if_eq (tgt := 24) hx hb (dkS dF_153 DX12_run (i := 6) rfl rfl rfl) (by decide) (fun h => absurd h (by decide)) (fun _ => ?_)
      refine lv_aload_n hx hb (dkP dF_42 DX12_run (i := 7) rfl rfl) rfl (lv_at hl 0 rfl) ?_
      refine lv_iload_n hx hb (dkP dF_27 DX12_run (i := 8) rfl rfl) rfl (lv_at hl 1 rfl) ?_
      refine lv_iload_n hx hb (dkP dF_28 DX12_run (i := 9) rfl rfl) rfl (lv_at hl 2 rfl) ?_
      refine zk_I hw (zr_V (As := [.int (nI k_program), .int input]) (rest := []) C0 (c_X12_isInput l G kc ad σ k_program input (by first | omega | assumption | decide | rfl) hT _) cv_X12_isInput lk_X12_369 (zp_V C0 hRo hw 0 rfl rfl rfl) rfl hl.1 rfl ⟨by decide, by decide⟩ (Nat.le_of_ble_eq_true rfl) (dk2 dF_182 DX12_run (i := 10) rfl rfl rfl) ⟨Nat.le_refl _, Nat.le_refl _⟩) (fun r3 s3 H locs hp hw => ?_)
      obtain ⟨f3_0, hs3⟩ := hp
      (rw [hs3] at hw)
      rcases f3_0 with ⟨rfl, hc3⟩ | ⟨rfl, hc3⟩
      · skip
        refine lv_if_ne (tgt := 27) hx hb (dkS dF_154 DX12_run (i := 11) rfl rfl rfl) (by decide) (fun _ => ?_) (fun h => absurd h (by decide))
        refine lv_aload_n hx hb (dkP dF_42 DX12_run (i := 14) rfl rfl) rfl (lv_at hl 0 rfl) ?_
        refine lv_iload_n hx hb (dkP dF_27 DX12_run (i := 15) rfl rfl) rfl (lv_at hl 1 rfl) ?_
        refine lv_iload_n hx hb (dkP dF_28 DX12_run (i := 16) rfl rfl) rfl (lv_at hl 2 rfl) ?_
        refine zk_V hw (zr_V (As := [.int (nI k_program), .int input]) (rest := []) C0 (c_X12_beginsWith l G kc ad σ k_program input (by first | omega | assumption | decide | rfl) hT _) cv_X12_beginsWith lk_X12_372 (zp_V C0 hRo hw 0 rfl rfl rfl) rfl hl.1 rfl ⟨by decide, by decide⟩ (Nat.le_of_ble_eq_true rfl) (dk2 dF_182 DX12_run (i := 17) rfl rfl rfl) ⟨Nat.le_refl _, Nat.le_refl _⟩) (fun s4 H locs hp hw => ?_)
        obtain ⟨hT4, hG4⟩ := hp
        have hF4 : fr true [11, 12, 13, 15] [23, 27] σ s4 := fr.t fr.refl hG4 (by decide) (by decide) (by decide)
        refine lv_aload_n hx hb (dkP dF_42 DX12_run (i := 18) rfl rfl) rfl (lv_at hl 0 rfl) ?_
        refine lv_iload_n hx hb (dkP dF_27 DX12_run (i := 19) rfl rfl) rfl (lv_at hl 1 rfl) ?_
        refine zk_I hw (zr_V (As := [.int (nI k_program)]) (rest := []) C0 (c_X12_runs l G kc ad s4 k_program (by first | omega | assumption | decide | rfl) hT4 _) cv_X12_runs lk_X12_375 (zp_V C0 hRo hw 0 rfl rfl rfl) rfl hl.1 rfl ⟨by decide, by decide⟩ (Nat.le_of_ble_eq_true rfl) (dk2 dF_182 DX12_run (i := 20) rfl rfl rfl) ⟨Nat.le_refl _, Nat.le_refl _⟩) (fun r5 s5 H locs hp hw => ?_)
        obtain ⟨f5_0, hT5, hG5⟩ := hp
        have hF5 : fr true [11, 12, 13, 15] [23, 27] σ s5 := fr.t hF4 hG5 (by decide) (by decide) (by decide)
        obtain ⟨n5, hn5, rfl⟩ := rngN (h := 4) f5_0
        refine lv_istore_n (lv' := [(3, .int (nI n5)), (0, .ref (ad 0)), (1, .int (nI k_program)), (2, .int input)]) hx hb (dkP dF_62 DX12_run (i := 21) rfl rfl) rfl hl (by decide) rfl (fun ls hl => ?_)
        refine lv_aload_n hx hb (dkP dF_42 DX12_run (i := 22) rfl rfl) rfl (lv_at hl 1 rfl) ?_
        refine z_gr C0 hw 0 21 12 rfl fl_X12_60 (dk2 dF_180 DX12_run (i := 23) rfl rfl rfl) ?_
        refine lv_iconst (v := 0) hx hb (dkP dF_3 DX12_run (i := 24) rfl rfl) (by decide) ?_
        refine lv_aload_n hx hb (dkP dF_42 DX12_run (i := 25) rfl rfl) rfl (lv_at hl 1 rfl) ?_
        refine z_gr C0 hw 0 26 15 rfl fl_X12_69 (dk2 dF_180 DX12_run (i := 26) rfl rfl rfl) ?_
        refine lv_iconst (v := 0) hx hb (dkP dF_3 DX12_run (i := 27) rfl rfl) (by decide) ?_
        refine lv_bipush (v := 8) hx hb (dks dF_16 DX12_run (i := 28) rfl rfl rfl) (by decide) ?_
        refine zk_V hw (zr_S (As := [.ref (ad 12), .int 0, .ref (ad 15), .int 0, .int 8]) (rest := []) C0 (c_X12_lays_12_15 l G kc ad s5 0 0 8 (by omega) (by omega) (fun i hi v h => trivial) hT5 _) cs_X12_lays lk_X12_255 (zp_S C0 hRo hw) rfl hl.1 rfl ⟨by decide, by decide⟩ (Nat.le_of_ble_eq_true rfl) (dk2 dF_184 DX12_run (i := 29) rfl rfl rfl) ⟨Nat.le_refl _, Nat.le_refl _⟩) (fun s6 H locs hp hw => ?_)
        obtain ⟨f6_0, hT6, hG6⟩ := hp
        have hF6 : fr true [11, 12, 13, 15] [23, 27] σ s6 := fr.t hF5 hG6 (by decide) (by decide) (by decide)
        refine lv_aload_n hx hb (dkP dF_42 DX12_run (i := 30) rfl rfl) rfl (lv_at hl 1 rfl) ?_
        refine lv_aload_n hx hb (dkP dF_42 DX12_run (i := 31) rfl rfl) rfl (lv_at hl 1 rfl) ?_
        refine z_gi C0 hw 0 23 rfl fl_X12_342 (dk2 dF_180 DX12_run (i := 32) rfl rfl rfl) ?_
        obtain ⟨n7, hn7, en7⟩ := rngN (x := s6.1 0 23) (h := 100) (show 0 ≤ _ ∧ _ ≤ 100 from hT6 0 23)
        refine z_top (y := nI n7) en7 ?_
        refine z_pi C0 hw 0 27 rfl fp_X12_72 (dk2 dF_181 DX12_run (i := 33) rfl rfl rfl) (fun H locs hw => ?_)
        have hT8 : TM (sI s6 0 27 (nI n7)) := TM.w hT6 (show True from trivial)
        have hF8 : fr true [11, 12, 13, 15] [23, 27] σ (sI s6 0 27 (nI n7)) := fr.w hF6 (Or.inr ⟨rfl, by decide⟩) (fun _ h => absurd h (by decide))
        refine lv_iload_n hx hb (dkP dF_29 DX12_run (i := 34) rfl rfl) rfl (lv_at hl 0 rfl) ?_
        exact z_iret C0 hr hlk hw (⟨hT8, hF8⟩) (dkP dF_172 DX12_run (i := 35) rfl rfl)
      · skip
        refine lv_if_ne (tgt := 27) hx hb (dkS dF_154 DX12_run (i := 11) rfl rfl rfl) (by decide) (fun h => absurd h (by decide)) (fun _ => ?_)
        refine lv_bipush (v := (-2)) hx hb (dks dF_16 DX12_run (i := 12) rfl rfl rfl) (by decide) ?_
        exact z_iret C0 hr hlk hw (⟨hT, fr.refl⟩) (dkP dF_172 DX12_run (i := 13) rfl rfl)
    · skip
      refine lv_if_eq (tgt := 24) hx hb (dkS dF_153 DX12_run (i := 6) rfl rfl rfl) (by decide) (fun _ => ?_) (fun h => absurd h (by decide))
      refine lv_bipush (v := (-2)) hx hb (dks dF_16 DX12_run (i := 12) rfl rfl rfl) (by decide) ?_
      exact z_iret C0 hr hlk hw (⟨hT, fr.refl⟩) (dkP dF_172 DX12_run (i := 13) rfl rfl)
  · skip
    (try simp (disch := omega) only [ta_lt, ta_le, ta_eq, tb_lt, tb_le, tb_eq, tw, tnI, tn32 2 (by decide), tnj 2 (by decide), tn32 1 (by decide), tnj 1 (by decide), tl32 0 (by decide), tl64 0 (by decide), tl32 8 (by decide), tl64 8 (by decide)] at hc1)
    refine lv_if_eq (tgt := 24) hx hb (dkS dF_153 DX12_run (i := 2) rfl rfl rfl) (by decide) (fun _ => ?_) (fun h => absurd h (by decide))
    refine lv_bipush (v := (-2)) hx hb (dks dF_16 DX12_run (i := 12) rfl rfl rfl) (by decide) ?_
    exact z_iret C0 hr hlk hw (⟨hT, fr.refl⟩) (dkP dF_172 DX12_run (i := 13) rfl rfl)
set_option maxRecDepth 100000 in
set_option maxHeartbeats 8000000 in
theorem c_X12_runNew (l : Launch) (G : va_G) (kc : KC) (ad : Nat → Nat) (σ : Sg) (program : Int32) (input : Int32) (hT : TM σ) : MI l G kc yX12_runNew cX12_runNew 4 (some .int) 5 109 [.ref (ad 0), .int program, .int input] shM ad σ (fun r σ1 => TM σ1 ∧ fr true [11, 14, 15] [25, 27] σ σ1) := by
  intro sz
  refine z_body (y := yX12_runNew) (n := 4) (av := [.ref (ad 0), .int program, .int input]) (Qc := fun A => va_Qi (fun r σ1 => TM σ1 ∧ fr true [11, 14, 15] [25, 27] σ σ1) (PoC G kc shM ad A) A) (plainFor_of_name (by decide)) (Nat.le_of_ble_eq_true rfl) (fun pr e s m below meth c A C0 hr hlk hnm hw hRo ls hl => ?_) sz
  have hx := C0.1
  have hb := C0.2.1
  have hown := C0.2.2.2.1
  have hts := C0.2.2.2.2.1
  have hl : lv_has ls 4 [(0, .ref (ad 0)), (1, .int program), (2, .int input)] := hl
  refine lv_iload_n hx hb (dkP dF_27 DX12_runNew (i := 0) rfl rfl) rfl (lv_at hl 1 rfl) ?_
  refine zn_I hw (zr_S (As := [.int program]) (rest := []) C0 (c_X12_isProgram l G kc program  _) cs_X12_isProgram lk_X12_272 (zp_P C0 hRo hw a00 s00) rfl hl.1 rfl ⟨by decide, by decide⟩ (Nat.le_of_ble_eq_true rfl) (dk2 dF_184 DX12_runNew (i := 1) rfl rfl rfl) ⟨Nat.le_refl _, Nat.le_refl _⟩) (fun r1 s1 H locs hp hw => ?_)
  rcases hp with ⟨rfl, hc1⟩ | ⟨rfl, hc1⟩
  · skip
    (try simp (disch := omega) only [ta_lt, ta_le, ta_eq, tb_lt, tb_le, tb_eq, tw, tnI, tn32 1 (by decide), tnj 1 (by decide), tl32 0 (by decide), tl64 0 (by decide)] at hc1)
    obtain ⟨k_program, hk_program, rfl⟩ := to_nat (x := program) (n := 8) (by (try simp only [lg_cmp_lt, lg_cmp_le, lg_cmp_gt, lg_cmp_ge, lg_cmp_eq] at hc1); (try simp (disch := omega) only [ta_lt, ta_le, ta_eq, tb_lt, tb_le, tb_eq, tw, tnI, tn32 1 (by decide), tnj 1 (by decide), tl32 0 (by decide), tl64 0 (by decide)] at hc1); (try simp (disch := omega) only [ta_lt, ta_le, ta_eq, tb_lt, tb_le, tb_eq, tw, tnI, tn32 1 (by decide), tnj 1 (by decide), tl32 0 (by decide), tl64 0 (by decide)]); omega)
    refine lv_if_eq (tgt := 24) hx hb (dkS dF_153 DX12_runNew (i := 2) rfl rfl rfl) (by decide) (fun h => absurd h (by decide)) (fun _ => ?_)
    refine lv_aload_n hx hb (dkP dF_42 DX12_runNew (i := 3) rfl rfl) rfl (lv_at hl 0 rfl) ?_
    refine lv_iload_n hx hb (dkP dF_27 DX12_runNew (i := 4) rfl rfl) rfl (lv_at hl 1 rfl) ?_
    refine zk_I hw (zr_V (As := [.int (nI k_program)]) (rest := []) C0 (c_X12_hasNew l G kc ad σ k_program (by first | omega | assumption | decide | rfl) _) cv_X12_hasNew lk_X12_378 (zp_V C0 hRo hw 0 rfl rfl rfl) rfl hl.1 rfl ⟨by decide, by decide⟩ (Nat.le_of_ble_eq_true rfl) (dk2 dF_182 DX12_runNew (i := 5) rfl rfl rfl) ⟨Nat.le_refl _, Nat.le_refl _⟩) (fun r2 s2 H locs hp hw => ?_)
    obtain ⟨hq2, hs2⟩ := hp
    (rw [hs2] at hw; clear hs2)
    rcases hq2 with ⟨rfl, hc2⟩ | ⟨rfl, hc2⟩
    · skip
      refine lv_if_eq (tgt := 24) hx hb (dkS dF_153 DX12_runNew (i := 6) rfl rfl rfl) (by decide) (fun h => absurd h (by decide)) (fun _ => ?_)
      refine lv_aload_n hx hb (dkP dF_42 DX12_runNew (i := 7) rfl rfl) rfl (lv_at hl 0 rfl) ?_
      refine lv_iload_n hx hb (dkP dF_27 DX12_runNew (i := 8) rfl rfl) rfl (lv_at hl 1 rfl) ?_
      refine lv_iload_n hx hb (dkP dF_28 DX12_runNew (i := 9) rfl rfl) rfl (lv_at hl 2 rfl) ?_
      refine zk_I hw (zr_V (As := [.int (nI k_program), .int input]) (rest := []) C0 (c_X12_isInput l G kc ad σ k_program input (by first | omega | assumption | decide | rfl) hT _) cv_X12_isInput lk_X12_369 (zp_V C0 hRo hw 0 rfl rfl rfl) rfl hl.1 rfl ⟨by decide, by decide⟩ (Nat.le_of_ble_eq_true rfl) (dk2 dF_182 DX12_runNew (i := 10) rfl rfl rfl) ⟨Nat.le_refl _, Nat.le_refl _⟩) (fun r3 s3 H locs hp hw => ?_)
      obtain ⟨f3_0, hs3⟩ := hp
      (rw [hs3] at hw)
      rcases f3_0 with ⟨rfl, hc3⟩ | ⟨rfl, hc3⟩
      · skip
        refine lv_if_ne (tgt := 27) hx hb (dkS dF_154 DX12_runNew (i := 11) rfl rfl rfl) (by decide) (fun _ => ?_) (fun h => absurd h (by decide))
        refine lv_aload_n hx hb (dkP dF_42 DX12_runNew (i := 14) rfl rfl) rfl (lv_at hl 0 rfl) ?_
        refine lv_iload_n hx hb (dkP dF_27 DX12_runNew (i := 15) rfl rfl) rfl (lv_at hl 1 rfl) ?_
        refine lv_iload_n hx hb (dkP dF_28 DX12_runNew (i := 16) rfl rfl) rfl (lv_at hl 2 rfl) ?_
        refine zk_V hw (zr_V (As := [.int (nI k_program), .int input]) (rest := []) C0 (c_X12_beginsWith l G kc ad σ k_program input (by first | omega | assumption | decide | rfl) hT _) cv_X12_beginsWith lk_X12_372 (zp_V C0 hRo hw 0 rfl rfl rfl) rfl hl.1 rfl ⟨by decide, by decide⟩ (Nat.le_of_ble_eq_true rfl) (dk2 dF_182 DX12_runNew (i := 17) rfl rfl rfl) ⟨Nat.le_refl _, Nat.le_refl _⟩) (fun s4 H locs hp hw => ?_)
        obtain ⟨hT4, hG4⟩ := hp
        have hF4 : fr true [11, 14, 15] [25, 27] σ s4 := fr.t fr.refl hG4 (by decide) (by decide) (by decide)
        refine lv_aload_n hx hb (dkP dF_42 DX12_runNew (i := 18) rfl rfl) rfl (lv_at hl 0 rfl) ?_
        refine lv_iload_n hx hb (dkP dF_27 DX12_runNew (i := 19) rfl rfl) rfl (lv_at hl 1 rfl) ?_
        refine zk_I hw (zr_V (As := [.int (nI k_program)]) (rest := []) C0 (c_X12_runsNew l G kc ad s4 k_program (by first | omega | assumption | decide | rfl) hT4 _) cv_X12_runsNew lk_X12_381 (zp_V C0 hRo hw 0 rfl rfl rfl) rfl hl.1 rfl ⟨by decide, by decide⟩ (Nat.le_of_ble_eq_true rfl) (dk2 dF_182 DX12_runNew (i := 20) rfl rfl rfl) ⟨Nat.le_refl _, Nat.le_refl _⟩) (fun r5 s5 H locs hp hw => ?_)
        obtain ⟨f5_0, hT5, hG5⟩ := hp
        have hF5 : fr true [11, 14, 15] [25, 27] σ s5 := fr.t hF4 hG5 (by decide) (by decide) (by decide)
        obtain ⟨n5, hn5, rfl⟩ := rngN (h := 5) f5_0
        refine lv_istore_n (lv' := [(3, .int (nI n5)), (0, .ref (ad 0)), (1, .int (nI k_program)), (2, .int input)]) hx hb (dkP dF_62 DX12_runNew (i := 21) rfl rfl) rfl hl (by decide) rfl (fun ls hl => ?_)
        refine lv_aload_n hx hb (dkP dF_42 DX12_runNew (i := 22) rfl rfl) rfl (lv_at hl 1 rfl) ?_
        refine z_gr C0 hw 0 24 14 rfl fl_X12_66 (dk2 dF_180 DX12_runNew (i := 23) rfl rfl rfl) ?_
        refine lv_iconst (v := 0) hx hb (dkP dF_3 DX12_runNew (i := 24) rfl rfl) (by decide) ?_
        refine lv_aload_n hx hb (dkP dF_42 DX12_runNew (i := 25) rfl rfl) rfl (lv_at hl 1 rfl) ?_
        refine z_gr C0 hw 0 26 15 rfl fl_X12_69 (dk2 dF_180 DX12_runNew (i := 26) rfl rfl rfl) ?_
        refine lv_iconst (v := 0) hx hb (dkP dF_3 DX12_runNew (i := 27) rfl rfl) (by decide) ?_
        refine lv_bipush (v := 8) hx hb (dks dF_16 DX12_runNew (i := 28) rfl rfl rfl) (by decide) ?_
        refine zk_V hw (zr_S (As := [.ref (ad 14), .int 0, .ref (ad 15), .int 0, .int 8]) (rest := []) C0 (c_X12_lays_14_15 l G kc ad s5 0 0 8 (by omega) (by omega) (fun i hi v h => trivial) hT5 _) cs_X12_lays lk_X12_255 (zp_S C0 hRo hw) rfl hl.1 rfl ⟨by decide, by decide⟩ (Nat.le_of_ble_eq_true rfl) (dk2 dF_184 DX12_runNew (i := 29) rfl rfl rfl) ⟨Nat.le_refl _, Nat.le_refl _⟩) (fun s6 H locs hp hw => ?_)
        obtain ⟨f6_0, hT6, hG6⟩ := hp
        have hF6 : fr true [11, 14, 15] [25, 27] σ s6 := fr.t hF5 hG6 (by decide) (by decide) (by decide)
        refine lv_aload_n hx hb (dkP dF_42 DX12_runNew (i := 30) rfl rfl) rfl (lv_at hl 1 rfl) ?_
        refine lv_aload_n hx hb (dkP dF_42 DX12_runNew (i := 31) rfl rfl) rfl (lv_at hl 1 rfl) ?_
        refine z_gi C0 hw 0 25 rfl fl_X12_360 (dk2 dF_180 DX12_runNew (i := 32) rfl rfl rfl) ?_
        obtain ⟨v7, ev7⟩ : ∃ y : Int32, s6.1 0 25 = y := ⟨_, rfl⟩
        have hv7 : -1 ≤ v7.toInt ∧ v7.toInt ≤ 39 := by rw [← ev7]; exact (show -1 ≤ _ ∧ _ ≤ 39 from hT6 0 25)
        refine z_top (y := v7) ev7 ?_
        refine z_pi C0 hw 0 27 rfl fp_X12_72 (dk2 dF_181 DX12_runNew (i := 33) rfl rfl rfl) (fun H locs hw => ?_)
        have hT8 : TM (sI s6 0 27 v7) := TM.w hT6 (show True from trivial)
        have hF8 : fr true [11, 14, 15] [25, 27] σ (sI s6 0 27 v7) := fr.w hF6 (Or.inr ⟨rfl, by decide⟩) (fun _ h => absurd h (by decide))
        refine lv_iload_n hx hb (dkP dF_29 DX12_runNew (i := 34) rfl rfl) rfl (lv_at hl 0 rfl) ?_
        exact z_iret C0 hr hlk hw (⟨hT8, hF8⟩) (dkP dF_172 DX12_runNew (i := 35) rfl rfl)
      · skip
        refine lv_if_ne (tgt := 27) hx hb (dkS dF_154 DX12_runNew (i := 11) rfl rfl rfl) (by decide) (fun h => absurd h (by decide)) (fun _ => ?_)
        refine lv_bipush (v := (-2)) hx hb (dks dF_16 DX12_runNew (i := 12) rfl rfl rfl) (by decide) ?_
        exact z_iret C0 hr hlk hw (⟨hT, fr.refl⟩) (dkP dF_172 DX12_runNew (i := 13) rfl rfl)
    · skip
      refine lv_if_eq (tgt := 24) hx hb (dkS dF_153 DX12_runNew (i := 6) rfl rfl rfl) (by decide) (fun _ => ?_) (fun h => absurd h (by decide))
      refine lv_bipush (v := (-2)) hx hb (dks dF_16 DX12_runNew (i := 12) rfl rfl rfl) (by decide) ?_
      exact z_iret C0 hr hlk hw (⟨hT, fr.refl⟩) (dkP dF_172 DX12_runNew (i := 13) rfl rfl)
  · skip
    (try simp (disch := omega) only [ta_lt, ta_le, ta_eq, tb_lt, tb_le, tb_eq, tw, tnI, tn32 2 (by decide), tnj 2 (by decide), tn32 1 (by decide), tnj 1 (by decide), tl32 0 (by decide), tl64 0 (by decide), tl32 8 (by decide), tl64 8 (by decide)] at hc1)
    refine lv_if_eq (tgt := 24) hx hb (dkS dF_153 DX12_runNew (i := 2) rfl rfl rfl) (by decide) (fun _ => ?_) (fun h => absurd h (by decide))
    refine lv_bipush (v := (-2)) hx hb (dks dF_16 DX12_runNew (i := 12) rfl rfl rfl) (by decide) ?_
    exact z_iret C0 hr hlk hw (⟨hT, fr.refl⟩) (dkP dF_172 DX12_runNew (i := 13) rfl rfl)
