set_option maxRecDepth 100000 in
set_option maxHeartbeats 8000000 in
theorem c_X12_isCasing (l : Launch) (G : va_G) (kc : KC) (ad : Nat → Nat) (σ : Sg) (pg : Int32) (cs : Int32) (hT : TM σ) : MI l G kc yX12_isCasing cX12_isCasing 3 (some .boolean) 2 45 [.ref (ad 0), .int pg, .int cs] shM ad σ (fun r σ1 => ((r = 1 ∧ (0 ≤ pg.toInt ∧ pg.toInt ≤ 7 ∧ 0 ≤ cs.toInt ∧ cs.toInt ≤ 39)) ∨ (r = 0 ∧ (True))) ∧ σ1 = σ) := by
  intro sz
  refine z_body (y := yX12_isCasing) (n := 3) (av := [.ref (ad 0), .int pg, .int cs]) (Qc := fun A => va_Qi (fun r σ1 => ((r = 1 ∧ (0 ≤ pg.toInt ∧ pg.toInt ≤ 7 ∧ 0 ≤ cs.toInt ∧ cs.toInt ≤ 39)) ∨ (r = 0 ∧ (True))) ∧ σ1 = σ) (PoC G kc shM ad A) A) (plainFor_of_name (by decide)) (Nat.le_of_ble_eq_true rfl) (fun pr e s m below meth c A C0 hr hlk hnm hw hRo ls hl => ?_) sz
  have hx := C0.1
  have hb := C0.2.1
  have hown := C0.2.2.2.1
  have hts := C0.2.2.2.2.1
  have hl : lv_has ls 3 [(0, .ref (ad 0)), (1, .int pg), (2, .int cs)] := hl
  refine lv_iload_n hx hb (dkP dF_27 DX12_isCasing (i := 0) rfl rfl) rfl (lv_at hl 1 rfl) ?_
  refine zn_I hw (zr_S (As := [.int pg]) (rest := []) C0 (c_X12_isProgram l G kc pg  _) cs_X12_isProgram lk_X12_272 (zp_P C0 hRo hw a00 s00) rfl hl.1 rfl ⟨by decide, by decide⟩ (Nat.le_of_ble_eq_true rfl) (dk2 dF_184 DX12_isCasing (i := 1) rfl rfl rfl) ⟨Nat.le_refl _, Nat.le_refl _⟩) (fun r1 s1 H locs hp hw => ?_)
  rcases hp with ⟨rfl, hc1⟩ | ⟨rfl, hc1⟩
  · skip
    (try simp (disch := omega) only [ta_lt, ta_le, ta_eq, tb_lt, tb_le, tb_eq, tw, tnI, tn32 1 (by decide), tnj 1 (by decide), tl32 0 (by decide), tl64 0 (by decide)] at hc1)
    obtain ⟨k_pg, hk_pg, rfl⟩ := to_nat (x := pg) (n := 8) (by (try simp only [lg_cmp_lt, lg_cmp_le, lg_cmp_gt, lg_cmp_ge, lg_cmp_eq] at hc1); (try simp (disch := omega) only [ta_lt, ta_le, ta_eq, tb_lt, tb_le, tb_eq, tw, tnI, tn32 1 (by decide), tnj 1 (by decide), tl32 0 (by decide), tl64 0 (by decide)] at hc1); (try simp (disch := omega) only [ta_lt, ta_le, ta_eq, tb_lt, tb_le, tb_eq, tw, tnI, tn32 1 (by decide), tnj 1 (by decide), tl32 0 (by decide), tl64 0 (by decide)]); omega)
    refine lv_if_eq (tgt := 42) hx hb (dkS dF_153 DX12_isCasing (i := 2) rfl rfl rfl) (by decide) (fun h => absurd h (by decide)) (fun _ => ?_)
    refine lv_aload_n hx hb (dkP dF_42 DX12_isCasing (i := 3) rfl rfl) rfl (lv_at hl 0 rfl) ?_
    refine lv_iload_n hx hb (dkP dF_27 DX12_isCasing (i := 4) rfl rfl) rfl (lv_at hl 1 rfl) ?_
    refine zk_I hw (zr_V (As := [.int (nI k_pg)]) (rest := []) C0 (c_X12_hasNew l G kc ad σ k_pg (by first | omega | assumption | decide | rfl) _) cv_X12_hasNew lk_X12_378 (zp_V C0 hRo hw 0 rfl rfl rfl) rfl hl.1 rfl ⟨by decide, by decide⟩ (Nat.le_of_ble_eq_true rfl) (dk2 dF_182 DX12_isCasing (i := 5) rfl rfl rfl) ⟨Nat.le_refl _, Nat.le_refl _⟩) (fun r2 s2 H locs hp hw => ?_)
    obtain ⟨hq2, hs2⟩ := hp
    (rw [hs2] at hw; clear hs2)
    rcases hq2 with ⟨rfl, hc2⟩ | ⟨rfl, hc2⟩
    · skip
      refine lv_if_eq (tgt := 42) hx hb (dkS dF_153 DX12_isCasing (i := 6) rfl rfl rfl) (by decide) (fun h => absurd h (by decide)) (fun _ => ?_)
      refine lv_iload_n hx hb (dkP dF_28 DX12_isCasing (i := 7) rfl rfl) rfl (lv_at hl 2 rfl) ?_
      refine lv_i2l hx hb (dkP dF_133 DX12_isCasing (i := 8) rfl rfl) rfl ?_
      refine lv_lconst (v := 0) hx hb (dkP dF_9 DX12_isCasing (i := 9) rfl rfl) (by decide) ?_
      refine lv_aload_n hx hb (dkP dF_42 DX12_isCasing (i := 10) rfl rfl) rfl (lv_at hl 0 rfl) ?_
      refine z_gr C0 hw 0 1 1 rfl fl_X12_20 (dk2 dF_180 DX12_isCasing (i := 11) rfl rfl rfl) ?_
      refine lv_iload_n hx hb (dkP dF_27 DX12_isCasing (i := 12) rfl rfl) rfl (lv_at hl 1 rfl) ?_
      refine zn_I hw (zr_S (As := [.int (nI k_pg)]) (rest := [.ref (ad 1), .long 0, .long cs.toInt64]) C0 (c_X12_of l G kc k_pg  _) cs_X12_of lk_X12_139 (zp_P C0 hRo hw a00 s00) rfl hl.1 rfl ⟨by decide, by decide⟩ (Nat.le_of_ble_eq_true rfl) (dk2 dF_184 DX12_isCasing (i := 13) rfl rfl rfl) ⟨Nat.le_refl _, Nat.le_refl _⟩) (fun r3 s3 H locs hp hw => ?_)
      subst hp
      refine lv_iconst (v := 2) hx hb (dkP dF_5 DX12_isCasing (i := 14) rfl rfl) (by decide) ?_
      refine lv_iadd hx hb (dkP dF_96 DX12_isCasing (i := 15) rfl rfl) ?_
      refine z_top (y := nI ((8 + 20 * k_pg) + 2)) (by simp only [fa_lit, nI_add, pk_mul]) ?_
      refine z_ialdN (n := 414128) C0 hw 1 ((8 + 20 * k_pg) + 2) rfl (by omega) (by decide) (dkP dF_46 DX12_isCasing (i := 16) rfl rfl) ?_
      obtain ⟨v4, ev4⟩ : ∃ y : Int32, σ.1 1 ((8 + 20 * k_pg) + 2) = y := ⟨_, rfl⟩
      have hv4 : -1 ≤ v4.toInt ∧ v4.toInt ≤ 40 := by rw [← ev4]; exact (wTy_c (by omega) (hT 1 _))
      refine z_top (y := v4) ev4 ?_
      refine lv_iconst (v := 1) hx hb (dkP dF_4 DX12_isCasing (i := 17) rfl rfl) (by decide) ?_
      refine lv_isub hx hb (dkP dF_100 DX12_isCasing (i := 18) rfl rfl) ?_
      refine lv_i2l hx hb (dkP dF_133 DX12_isCasing (i := 19) rfl rfl) rfl ?_
      refine zn_I hw (zr_S (As := [.long cs.toInt64, .long 0, .long ((v4 - 1).toInt64)]) (rest := []) C0 (c_X12_in l G kc cs.toInt64 0 ((v4 - 1).toInt64)  _) cs_X12_in lk_X12_9 (zp_P C0 hRo hw a00 s00) rfl hl.1 rfl ⟨by decide, by decide⟩ (Nat.le_of_ble_eq_true rfl) (dk2 dF_184 DX12_isCasing (i := 20) rfl rfl rfl) ⟨Nat.le_refl _, Nat.le_refl _⟩) (fun r5 s5 H locs hp hw => ?_)
      rcases hp with ⟨rfl, hc5⟩ | ⟨rfl, hc5⟩
      · skip
        (try simp (disch := omega) only [ta_lt, ta_le, ta_eq, tb_lt, tb_le, tb_eq, tw, tnI, tn32 1 (by decide), tnj 1 (by decide), tl32 0 (by decide), tl64 0 (by decide), tl32 1 (by decide), tl64 1 (by decide), tl32 2 (by decide), tl64 2 (by decide)] at hc5)
        refine lv_if_eq (tgt := 42) hx hb (dkS dF_153 DX12_isCasing (i := 21) rfl rfl rfl) (by decide) (fun h => absurd h (by decide)) (fun _ => ?_)
        refine lv_iconst (v := 1) hx hb (dkP dF_4 DX12_isCasing (i := 22) rfl rfl) (by decide) ?_
        refine lv_goto (tgt := 43) hx hb (dkS dF_167 DX12_isCasing (i := 23) rfl rfl rfl) (by decide) ?_
        exact z_zret C0 hr hlk (by decide) hw (⟨(Or.inl ⟨rfl, (by (try simp only [lg_cmp_lt, lg_cmp_le, lg_cmp_gt, lg_cmp_ge, lg_cmp_eq] at hc1); (try simp (disch := omega) only [ta_lt, ta_le, ta_eq, tb_lt, tb_le, tb_eq, tw, tnI, tsub1, tsv, tn32 1 (by decide), tnj 1 (by decide), tl32 0 (by decide), tl64 0 (by decide), tl32 1 (by decide), tl64 1 (by decide), tl32 2 (by decide), tl64 2 (by decide)] at hc1); (try simp only [lg_cmp_lt, lg_cmp_le, lg_cmp_gt, lg_cmp_ge, lg_cmp_eq] at hc2); (try simp (disch := omega) only [ta_lt, ta_le, ta_eq, tb_lt, tb_le, tb_eq, tw, tnI, tsub1, tsv, tn32 1 (by decide), tnj 1 (by decide), tl32 0 (by decide), tl64 0 (by decide), tl32 1 (by decide), tl64 1 (by decide), tl32 2 (by decide), tl64 2 (by decide)] at hc2); (try simp only [lg_cmp_lt, lg_cmp_le, lg_cmp_gt, lg_cmp_ge, lg_cmp_eq] at hc5); (try simp (disch := omega) only [ta_lt, ta_le, ta_eq, tb_lt, tb_le, tb_eq, tw, tnI, tsub1, tsv, tn32 1 (by decide), tnj 1 (by decide), tl32 0 (by decide), tl64 0 (by decide), tl32 1 (by decide), tl64 1 (by decide), tl32 2 (by decide), tl64 2 (by decide)] at hc5); (try simp (disch := omega) only [ta_lt, ta_le, ta_eq, tb_lt, tb_le, tb_eq, tw, tnI, tsub1, tsv, tn32 1 (by decide), tnj 1 (by decide), tl32 0 (by decide), tl64 0 (by decide), tl32 1 (by decide), tl64 1 (by decide), tl32 2 (by decide), tl64 2 (by decide)]); omega)⟩), rfl⟩) (dkP dF_172 DX12_isCasing (i := 25) rfl rfl)
      · skip
        (try simp (disch := omega) only [ta_lt, ta_le, ta_eq, tb_lt, tb_le, tb_eq, tw, tnI, tn32 1 (by decide), tnj 1 (by decide), tl32 0 (by decide), tl64 0 (by decide), tl32 1 (by decide), tl64 1 (by decide), tl32 2 (by decide), tl64 2 (by decide)] at hc5)
        refine lv_if_eq (tgt := 42) hx hb (dkS dF_153 DX12_isCasing (i := 21) rfl rfl rfl) (by decide) (fun _ => ?_) (fun h => absurd h (by decide))
        refine lv_iconst (v := 0) hx hb (dkP dF_3 DX12_isCasing (i := 24) rfl rfl) (by decide) ?_
        exact z_zret C0 hr hlk (by decide) hw (⟨(Or.inr ⟨rfl, trivial⟩), rfl⟩) (dkP dF_172 DX12_isCasing (i := 25) rfl rfl)
    · skip
      refine lv_if_eq (tgt := 42) hx hb (dkS dF_153 DX12_isCasing (i := 6) rfl rfl rfl) (by decide) (fun _ => ?_) (fun h => absurd h (by decide))
      refine lv_iconst (v := 0) hx hb (dkP dF_3 DX12_isCasing (i := 24) rfl rfl) (by decide) ?_
      exact z_zret C0 hr hlk (by decide) hw (⟨(Or.inr ⟨rfl, trivial⟩), rfl⟩) (dkP dF_172 DX12_isCasing (i := 25) rfl rfl)
  · skip
    (try simp (disch := omega) only [ta_lt, ta_le, ta_eq, tb_lt, tb_le, tb_eq, tw, tnI, tn32 1 (by decide), tnj 1 (by decide), tl32 0 (by decide), tl64 0 (by decide), tl32 1 (by decide), tl64 1 (by decide), tl32 2 (by decide), tl64 2 (by decide)] at hc1)
    refine lv_if_eq (tgt := 42) hx hb (dkS dF_153 DX12_isCasing (i := 2) rfl rfl rfl) (by decide) (fun _ => ?_) (fun h => absurd h (by decide))
    refine lv_iconst (v := 0) hx hb (dkP dF_3 DX12_isCasing (i := 24) rfl rfl) (by decide) ?_
    exact z_zret C0 hr hlk (by decide) hw (⟨(Or.inr ⟨rfl, trivial⟩), rfl⟩) (dkP dF_172 DX12_isCasing (i := 25) rfl rfl)
set_option maxRecDepth 100000 in
set_option maxHeartbeats 8000000 in
theorem c_X12_putOf (l : Launch) (G : va_G) (kc : KC) (ad : Nat → Nat) (σ : Sg) (pg : Nat) (cs : Nat) (field : Int32) (hp8 : pg < 8) (hcs : cs < 40) (hT : TM σ) : MI l G kc yX12_putOf cX12_putOf 5 (some .int) 1 22 [.ref (ad 0), .int (nI pg), .int (nI cs), .int field] shM ad σ (fun r σ1 => (r = -1 ∨ ∃ j, j < 8 ∧ r = nI (387880 + 10 * (8 * (40 * pg + cs) + j))) ∧ σ1 = σ) := by
  intro sz
  refine z_body (y := yX12_putOf) (n := 5) (av := [.ref (ad 0), .int (nI pg), .int (nI cs), .int field]) (Qc := fun A => va_Qi (fun r σ1 => (r = -1 ∨ ∃ j, j < 8 ∧ r = nI (387880 + 10 * (8 * (40 * pg + cs) + j))) ∧ σ1 = σ) (PoC G kc shM ad A) A) (plainFor_of_name (by decide)) (Nat.le_of_ble_eq_true rfl) (fun pr e s m below meth c A C0 hr hlk hnm hw hRo ls hl => ?_) sz
  have hx := C0.1
  have hb := C0.2.1
  have hown := C0.2.2.2.1
  have hts := C0.2.2.2.2.1
  have hl : lv_has ls 5 [(0, .ref (ad 0)), (1, .int (nI pg)), (2, .int (nI cs)), (3, .int field)] := hl
  refine lv_iconst (v := 0) hx hb (dkP dF_3 DX12_putOf (i := 0) rfl rfl) (by decide) ?_
  refine lv_istore (lv' := [(4, .int 0), (0, .ref (ad 0)), (1, .int (nI pg)), (2, .int (nI cs)), (3, .int field)]) hx hb (dk1 dF_54 DX12_putOf (i := 1) rfl rfl rfl) hl (by decide) rfl (fun ls hl => ?_)
  have lp1 : ∀ (nq : Nat) (q4_3 : Nat) (H : Heap) (locs : List Loc) (ls : Array Slot), 8 - q4_3 < nq → (q4_3 ≤ 8) → St G kc A s.heap shM ad σ H locs → lv_has ls 5 [(4, .int (nI q4_3)), (0, .ref (ad 0)), (1, .int (nI pg)), (2, .int (nI cs)), (3, .int field)] → W pr l e { frames := 1, cells := 0, slots := 0, locals := 22 } s m ([.ref (ad 0), .int (nI pg), .int (nI cs), .int field] : List Value).toArray below meth c H locs 0 0 (MQ below (va_Qi (fun r σ1 => (r = -1 ∨ ∃ j, j < 8 ∧ r = nI (387880 + 10 * (8 * (40 * pg + cs) + j))) ∧ σ1 = σ) (PoC G kc shM ad A) A) ([.ref (ad 0), .int (nI pg), .int (nI cs), .int field] : List Value).toArray s 0 0 A) (F0 m 3 ls []) := by
    intro nq
    induction nq with
    | zero => intro q4_3 H locs ls hmu; exact absurd hmu (Nat.not_lt_zero _)
    | succ nq ih1 =>
      intro q4_3 H locs ls hmu hq4_3 hw hl
      refine lv_iload hx hb (dk1 dF_21 DX12_putOf (i := 2) rfl rfl rfl) (lv_at hl 0 rfl) ?_
      refine lv_aload_n hx hb (dkP dF_42 DX12_putOf (i := 3) rfl rfl) rfl (lv_at hl 1 rfl) ?_
      refine z_gr C0 hw 0 1 1 rfl fl_X12_20 (dk2 dF_180 DX12_putOf (i := 4) rfl rfl rfl) ?_
      refine lv_iload_n hx hb (dkP dF_27 DX12_putOf (i := 5) rfl rfl) rfl (lv_at hl 2 rfl) ?_
      refine lv_iload_n hx hb (dkP dF_28 DX12_putOf (i := 6) rfl rfl) rfl (lv_at hl 3 rfl) ?_
      refine zn_I hw (zr_S (As := [.int (nI pg), .int (nI cs)]) (rest := [.ref (ad 1), .int (nI q4_3)]) C0 (c_X12_caseAt l G kc pg cs  _) cs_X12_caseAt lk_X12_310 (zp_P C0 hRo hw a00 s00) rfl hl.1 rfl ⟨by decide, by decide⟩ (Nat.le_of_ble_eq_true rfl) (dk2 dF_184 DX12_putOf (i := 7) rfl rfl rfl) ⟨Nat.le_refl _, Nat.le_refl _⟩) (fun r2 s2 H locs hp hw => ?_)
      subst hp
      refine lv_iconst (v := 1) hx hb (dkP dF_4 DX12_putOf (i := 8) rfl rfl) (by decide) ?_
      refine lv_iadd hx hb (dkP dF_96 DX12_putOf (i := 9) rfl rfl) ?_
      refine z_top (y := nI ((3240 + 2 * (40 * pg + cs)) + 1)) (by simp only [fa_lit, nI_add, pk_mul]) ?_
      refine z_ialdN (n := 414128) C0 hw 1 ((3240 + 2 * (40 * pg + cs)) + 1) rfl (by omega) (by decide) (dkP dF_46 DX12_putOf (i := 10) rfl rfl) ?_
      obtain ⟨n3, hn3, en3⟩ := rngN (x := σ.1 1 ((3240 + 2 * (40 * pg + cs)) + 1)) (h := 8) (wTy_p (by omega) (by omega) (hT 1 _))
      refine z_top (y := nI n3) en3 ?_
      refine lv_icmp_ge (tgt := 50) hx hb (dkS dF_162 DX12_putOf (i := 11) rfl rfl rfl) (by decide) (fun c4 => ?_) (fun c4 => ?_)
      · simp (disch := omega) only [ta_lt, ta_le, ta_eq, tnI] at c4
        refine lv_iconst (v := (-1)) hx hb (dkP dF_2 DX12_putOf (i := 28) rfl rfl) (by decide) ?_
        exact z_iret C0 hr hlk hw (⟨(Or.inl rfl), rfl⟩) (dkP dF_172 DX12_putOf (i := 29) rfl rfl)
      · simp (disch := omega) only [ta_lt, ta_le, ta_eq, tnI] at c4
        refine lv_aload_n hx hb (dkP dF_42 DX12_putOf (i := 12) rfl rfl) rfl (lv_at hl 1 rfl) ?_
        refine z_gr C0 hw 0 1 1 rfl fl_X12_20 (dk2 dF_180 DX12_putOf (i := 13) rfl rfl rfl) ?_
        refine lv_iload_n hx hb (dkP dF_27 DX12_putOf (i := 14) rfl rfl) rfl (lv_at hl 2 rfl) ?_
        refine lv_iload_n hx hb (dkP dF_28 DX12_putOf (i := 15) rfl rfl) rfl (lv_at hl 3 rfl) ?_
        refine lv_iload hx hb (dk1 dF_21 DX12_putOf (i := 16) rfl rfl rfl) (lv_at hl 0 rfl) ?_
        refine zn_I hw (zr_S (As := [.int (nI pg), .int (nI cs), .int (nI q4_3)]) (rest := [.ref (ad 1)]) C0 (c_X12_putAt l G kc pg cs q4_3  _) cs_X12_putAt lk_X12_317 (zp_P C0 hRo hw a00 s00) rfl hl.1 rfl ⟨by decide, by decide⟩ (Nat.le_of_ble_eq_true rfl) (dk2 dF_184 DX12_putOf (i := 17) rfl rfl rfl) ⟨Nat.le_refl _, Nat.le_refl _⟩) (fun r5 s5 H locs hp hw => ?_)
        subst hp
        refine z_ialdN (n := 414128) C0 hw 1 (387880 + 10 * (8 * (40 * pg + cs) + q4_3)) rfl (by omega) (by decide) (dkP dF_46 DX12_putOf (i := 18) rfl rfl) ?_
        obtain ⟨n6, hn6, en6⟩ := rngN (x := σ.1 1 (387880 + 10 * (8 * (40 * pg + cs) + q4_3))) (h := 7) (wTy_f (by omega) (by omega) (by omega) (hT 1 _))
        refine z_top (y := nI n6) en6 ?_
        refine lv_iload_n hx hb (dkP dF_29 DX12_putOf (i := 19) rfl rfl) rfl (lv_at hl 4 rfl) ?_
        refine lv_icmp_ne (tgt := 44) hx hb (dkS dF_160 DX12_putOf (i := 20) rfl rfl rfl) (by decide) (fun c7 => ?_) (fun c7 => ?_)
        · (try simp (disch := omega) only [ta_lt, ta_le, ta_eq, tnI] at c7); have hz7 := i32b field
          refine lv_iinc (v := nI (q4_3 + 1)) (lv' := [(4, .int (nI (q4_3 + 1))), (0, .ref (ad 0)), (1, .int (nI pg)), (2, .int (nI cs)), (3, .int field)]) hx hb (dkI DX12_putOf (i := 26) rfl rfl rfl rfl) hl (k := 0) rfl (nI_1 _) (by decide) rfl (fun ls hl => ?_)
          refine lv_goto (tgt := 3) hx hb (dkS dF_167 DX12_putOf (i := 27) rfl rfl rfl) (by decide) ?_
          exact ih1 (q4_3 + 1) _ _ _ (by omega) (by (try simp only [lg_cmp_lt, lg_cmp_le, lg_cmp_gt, lg_cmp_ge, lg_cmp_eq] at c4); (try simp (disch := omega) only [ta_lt, ta_le, ta_eq, tb_lt, tb_le, tb_eq, tw, tnI, tsub1, tsv, tn32 1 (by decide), tnj 1 (by decide), tl32 0 (by decide), tl64 0 (by decide), tl32 1 (by decide), tl64 1 (by decide)] at c4); (try simp only [lg_cmp_lt, lg_cmp_le, lg_cmp_gt, lg_cmp_ge, lg_cmp_eq] at c7); (try simp (disch := omega) only [ta_lt, ta_le, ta_eq, tb_lt, tb_le, tb_eq, tw, tnI, tsub1, tsv, tn32 1 (by decide), tnj 1 (by decide), tl32 0 (by decide), tl64 0 (by decide), tl32 1 (by decide), tl64 1 (by decide)] at c7); (try simp (disch := omega) only [ta_lt, ta_le, ta_eq, tb_lt, tb_le, tb_eq, tw, tnI, tsub1, tsv, tn32 1 (by decide), tnj 1 (by decide), tl32 0 (by decide), tl64 0 (by decide), tl32 1 (by decide), tl64 1 (by decide)]); omega) hw (lv_sub hl [0, 1, 2, 3, 4] rfl)
        · (try simp (disch := omega) only [ta_lt, ta_le, ta_eq, tnI] at c7); have hz7 := i32b field
          refine lv_iload_n hx hb (dkP dF_27 DX12_putOf (i := 21) rfl rfl) rfl (lv_at hl 2 rfl) ?_
          refine lv_iload_n hx hb (dkP dF_28 DX12_putOf (i := 22) rfl rfl) rfl (lv_at hl 3 rfl) ?_
          refine lv_iload hx hb (dk1 dF_21 DX12_putOf (i := 23) rfl rfl rfl) (lv_at hl 0 rfl) ?_
          refine zn_I hw (zr_S (As := [.int (nI pg), .int (nI cs), .int (nI q4_3)]) (rest := []) C0 (c_X12_putAt l G kc pg cs q4_3  _) cs_X12_putAt lk_X12_317 (zp_P C0 hRo hw a00 s00) rfl hl.1 rfl ⟨by decide, by decide⟩ (Nat.le_of_ble_eq_true rfl) (dk2 dF_184 DX12_putOf (i := 24) rfl rfl rfl) ⟨Nat.le_refl _, Nat.le_refl _⟩) (fun r8 s8 H locs hp hw => ?_)
          subst hp
          exact z_iret C0 hr hlk hw (⟨(Or.inr ⟨q4_3, by omega, rfl⟩), rfl⟩) (dkP dF_172 DX12_putOf (i := 25) rfl rfl)
  exact lp1 _ 0 _ _ _ (Nat.lt_succ_self _) (by (try simp (disch := omega) only [ta_lt, ta_le, ta_eq, tb_lt, tb_le, tb_eq, tw, tnI, tsub1, tsv, tn32 1 (by decide), tnj 1 (by decide), tl32 0 (by decide), tl64 0 (by decide), tl32 1 (by decide), tl64 1 (by decide)]); omega) hw (lv_sub hl [0, 1, 2, 3, 4] rfl)
set_option maxRecDepth 100000 in
set_option maxHeartbeats 8000000 in
theorem c_X12_wish (l : Launch) (G : va_G) (kc : KC) (ad : Nat → Nat) (σ : Sg) (program : Int32) (casing : Int32) (field : Int32) (more : Int32) (hT : TM σ) : MI l G kc yX12_wish cX12_wish 6 (some .int) 3 67 [.ref (ad 0), .int program, .int casing, .int field, .int more] shM ad σ (fun r σ1 => TM σ1 ∧ fr true [1] [] σ σ1) := by
  intro sz
  refine z_body (y := yX12_wish) (n := 6) (av := [.ref (ad 0), .int program, .int casing, .int field, .int more]) (Qc := fun A => va_Qi (fun r σ1 => TM σ1 ∧ fr true [1] [] σ σ1) (PoC G kc shM ad A) A) (plainFor_of_name (by decide)) (Nat.le_of_ble_eq_true rfl) (fun pr e s m below meth c A C0 hr hlk hnm hw hRo ls hl => ?_) sz
  have hx := C0.1
  have hb := C0.2.1
  have hown := C0.2.2.2.1
  have hts := C0.2.2.2.2.1
  have hl : lv_has ls 6 [(0, .ref (ad 0)), (1, .int program), (2, .int casing), (3, .int field), (4, .int more)] := hl
  refine lv_aload_n hx hb (dkP dF_42 DX12_wish (i := 0) rfl rfl) rfl (lv_at hl 0 rfl) ?_
  refine lv_iload_n hx hb (dkP dF_27 DX12_wish (i := 1) rfl rfl) rfl (lv_at hl 1 rfl) ?_
  refine lv_iload_n hx hb (dkP dF_28 DX12_wish (i := 2) rfl rfl) rfl (lv_at hl 2 rfl) ?_
  refine zk_I hw (zr_V (As := [.int program, .int casing]) (rest := []) C0 (c_X12_isCasing l G kc ad σ program casing hT _) cv_X12_isCasing lk_X12_427 (zp_V C0 hRo hw 0 rfl rfl rfl) rfl hl.1 rfl ⟨by decide, by decide⟩ (Nat.le_of_ble_eq_true rfl) (dk2 dF_182 DX12_wish (i := 3) rfl rfl rfl) ⟨Nat.le_refl _, Nat.le_refl _⟩) (fun r1 s1 H locs hp hw => ?_)
  obtain ⟨f1_0, hs1⟩ := hp
  (rw [hs1] at hw)
  rcases f1_0 with ⟨rfl, hc1⟩ | ⟨rfl, hc1⟩
  · skip
    refine lv_if_eq (tgt := 40) hx hb (dkS dF_153 DX12_wish (i := 4) rfl rfl rfl) (by decide) (fun h => absurd h (by decide)) (fun _ => ?_)
    obtain ⟨pn, hpn, rfl⟩ := to_nat (x := program) (n := 8) (by (try simp only [lg_cmp_lt, lg_cmp_le, lg_cmp_gt, lg_cmp_ge, lg_cmp_eq] at f1_0); (try simp (disch := omega) only [ta_lt, ta_le, ta_eq, tb_lt, tb_le, tb_eq, tw, tnI, tsub1, tsv, tn32 1 (by decide), tnj 1 (by decide), tl32 0 (by decide), tl64 0 (by decide)] at f1_0); (try simp only [lg_cmp_lt, lg_cmp_le, lg_cmp_gt, lg_cmp_ge, lg_cmp_eq] at hc1); (try simp (disch := omega) only [ta_lt, ta_le, ta_eq, tb_lt, tb_le, tb_eq, tw, tnI, tsub1, tsv, tn32 1 (by decide), tnj 1 (by decide), tl32 0 (by decide), tl64 0 (by decide)] at hc1); (try simp (disch := omega) only [ta_lt, ta_le, ta_eq, tb_lt, tb_le, tb_eq, tw, tnI, tsub1, tsv, tn32 1 (by decide), tnj 1 (by decide), tl32 0 (by decide), tl64 0 (by decide)]); omega)
    obtain ⟨cn, hcn, rfl⟩ := to_nat (x := casing) (n := 40) (by (try simp only [lg_cmp_lt, lg_cmp_le, lg_cmp_gt, lg_cmp_ge, lg_cmp_eq] at f1_0); (try simp (disch := omega) only [ta_lt, ta_le, ta_eq, tb_lt, tb_le, tb_eq, tw, tnI, tsub1, tsv, tn32 1 (by decide), tnj 1 (by decide), tl32 0 (by decide), tl64 0 (by decide)] at f1_0); (try simp only [lg_cmp_lt, lg_cmp_le, lg_cmp_gt, lg_cmp_ge, lg_cmp_eq] at hc1); (try simp (disch := omega) only [ta_lt, ta_le, ta_eq, tb_lt, tb_le, tb_eq, tw, tnI, tsub1, tsv, tn32 1 (by decide), tnj 1 (by decide), tl32 0 (by decide), tl64 0 (by decide)] at hc1); (try simp (disch := omega) only [ta_lt, ta_le, ta_eq, tb_lt, tb_le, tb_eq, tw, tnI, tsub1, tsv, tn32 1 (by decide), tnj 1 (by decide), tl32 0 (by decide), tl64 0 (by decide)]); omega)
    refine lv_aload_n hx hb (dkP dF_42 DX12_wish (i := 5) rfl rfl) rfl (lv_at hl 0 rfl) ?_
    refine lv_iload_n hx hb (dkP dF_27 DX12_wish (i := 6) rfl rfl) rfl (lv_at hl 1 rfl) ?_
    refine zk_I hw (zr_V (As := [.int (nI pn)]) (rest := []) C0 (c_X12_stateOf l G kc ad σ pn (by first | omega | assumption | decide | rfl) _) cv_X12_stateOf lk_X12_275 (zp_V C0 hRo hw 0 rfl rfl rfl) rfl hl.1 rfl ⟨by decide, by decide⟩ (Nat.le_of_ble_eq_true rfl) (dk2 dF_182 DX12_wish (i := 7) rfl rfl rfl) ⟨Nat.le_refl _, Nat.le_refl _⟩) (fun r2 s2 H locs hp hw => ?_)
    obtain ⟨rfl, hs2⟩ := hp
    (rw [hs2] at hw; clear hs2)
    obtain ⟨v3, ev3⟩ : ∃ y : Int32, σ.1 1 (8 + 20 * pn) = y := ⟨_, rfl⟩
    refine z_top (y := v3) ev3 ?_
    refine lv_iconst (v := 1) hx hb (dkP dF_4 DX12_wish (i := 8) rfl rfl) (by decide) ?_
    refine lv_icmp_ne (tgt := 40) hx hb (dkS dF_160 DX12_wish (i := 9) rfl rfl rfl) (by decide) (fun c4 => ?_) (fun c4 => ?_)
    · (try simp (disch := omega) only [ta_lt, ta_le, ta_eq, tnI, tl32 1 (by decide)] at c4)
      refine lv_bipush (v := (-2)) hx hb (dks dF_16 DX12_wish (i := 19) rfl rfl rfl) (by decide) ?_
      exact z_iret C0 hr hlk hw (⟨hT, fr.refl⟩) (dkP dF_172 DX12_wish (i := 20) rfl rfl)
    · (try simp (disch := omega) only [ta_lt, ta_le, ta_eq, tnI, tl32 1 (by decide)] at c4)
      refine lv_iload_n hx hb (dkP dF_29 DX12_wish (i := 10) rfl rfl) rfl (lv_at hl 3 rfl) ?_
      refine zn_I hw (zr_S (As := [.int field]) (rest := []) C0 (c_X12_isField l G kc field  _) cs_X12_isField lk_X12_332 (zp_P C0 hRo hw a00 s00) rfl hl.1 rfl ⟨by decide, by decide⟩ (Nat.le_of_ble_eq_true rfl) (dk2 dF_184 DX12_wish (i := 11) rfl rfl rfl) ⟨Nat.le_refl _, Nat.le_refl _⟩) (fun r5 s5 H locs hp hw => ?_)
      rcases hp with ⟨rfl, hc5⟩ | ⟨rfl, hc5⟩
      · skip
        (try simp (disch := omega) only [ta_lt, ta_le, ta_eq, tb_lt, tb_le, tb_eq, tw, tnI, tn32 2 (by decide), tnj 2 (by decide), tn32 1 (by decide), tnj 1 (by decide), tl32 0 (by decide), tl64 0 (by decide), tl32 1 (by decide), tl64 1 (by decide)] at hc5)
        obtain ⟨k_field, hk_field, rfl⟩ := to_nat (x := field) (n := 8) (by (try simp only [lg_cmp_lt, lg_cmp_le, lg_cmp_gt, lg_cmp_ge, lg_cmp_eq] at f1_0); (try simp (disch := omega) only [ta_lt, ta_le, ta_eq, tb_lt, tb_le, tb_eq, tw, tnI, tn32 2 (by decide), tnj 2 (by decide), tn32 1 (by decide), tnj 1 (by decide), tl32 0 (by decide), tl64 0 (by decide), tl32 1 (by decide), tl64 1 (by decide)] at f1_0); (try simp only [lg_cmp_lt, lg_cmp_le, lg_cmp_gt, lg_cmp_ge, lg_cmp_eq] at hc1); (try simp (disch := omega) only [ta_lt, ta_le, ta_eq, tb_lt, tb_le, tb_eq, tw, tnI, tn32 2 (by decide), tnj 2 (by decide), tn32 1 (by decide), tnj 1 (by decide), tl32 0 (by decide), tl64 0 (by decide), tl32 1 (by decide), tl64 1 (by decide)] at hc1); (try simp only [lg_cmp_lt, lg_cmp_le, lg_cmp_gt, lg_cmp_ge, lg_cmp_eq] at b1_1); (try simp (disch := omega) only [ta_lt, ta_le, ta_eq, tb_lt, tb_le, tb_eq, tw, tnI, tn32 2 (by decide), tnj 2 (by decide), tn32 1 (by decide), tnj 1 (by decide), tl32 0 (by decide), tl64 0 (by decide), tl32 1 (by decide), tl64 1 (by decide)] at b1_1); (try simp only [lg_cmp_lt, lg_cmp_le, lg_cmp_gt, lg_cmp_ge, lg_cmp_eq] at c4); (try simp (disch := omega) only [ta_lt, ta_le, ta_eq, tb_lt, tb_le, tb_eq, tw, tnI, tn32 2 (by decide), tnj 2 (by decide), tn32 1 (by decide), tnj 1 (by decide), tl32 0 (by decide), tl64 0 (by decide), tl32 1 (by decide), tl64 1 (by decide)] at c4); (try simp only [lg_cmp_lt, lg_cmp_le, lg_cmp_gt, lg_cmp_ge, lg_cmp_eq] at hc5); (try simp (disch := omega) only [ta_lt, ta_le, ta_eq, tb_lt, tb_le, tb_eq, tw, tnI, tn32 2 (by decide), tnj 2 (by decide), tn32 1 (by decide), tnj 1 (by decide), tl32 0 (by decide), tl64 0 (by decide), tl32 1 (by decide), tl64 1 (by decide)] at hc5); (try simp (disch := omega) only [ta_lt, ta_le, ta_eq, tb_lt, tb_le, tb_eq, tw, tnI, tn32 2 (by decide), tnj 2 (by decide), tn32 1 (by decide), tnj 1 (by decide), tl32 0 (by decide), tl64 0 (by decide), tl32 1 (by decide), tl64 1 (by decide)]); omega)
        refine lv_if_eq (tgt := 40) hx hb (dkS dF_153 DX12_wish (i := 12) rfl rfl rfl) (by decide) (fun h => absurd h (by decide)) (fun _ => ?_)
        refine lv_iload hx hb (dk1 dF_21 DX12_wish (i := 13) rfl rfl rfl) (lv_at hl 4 rfl) ?_
        refine lv_i2l hx hb (dkP dF_133 DX12_wish (i := 14) rfl rfl) rfl ?_
        refine lv_ldc2 hx hb hown (hts _ kn_X12_335) (dk2 dF_20 DX12_wish (i := 15) rfl rfl rfl) ?_
        refine lv_ldc2 hx hb hown (hts _ kn_X12_337) (dk2 dF_20 DX12_wish (i := 16) rfl rfl rfl) ?_
        refine zn_I hw (zr_S (As := [.long more.toInt64, .long (-99), .long 99]) (rest := []) C0 (c_X12_in l G kc more.toInt64 (-99) 99  _) cs_X12_in lk_X12_9 (zp_P C0 hRo hw a00 s00) rfl hl.1 rfl ⟨by decide, by decide⟩ (Nat.le_of_ble_eq_true rfl) (dk2 dF_184 DX12_wish (i := 17) rfl rfl rfl) ⟨Nat.le_refl _, Nat.le_refl _⟩) (fun r6 s6 H locs hp hw => ?_)
        rcases hp with ⟨rfl, hc6⟩ | ⟨rfl, hc6⟩
        · skip
          (try simp (disch := omega) only [ta_lt, ta_le, ta_eq, tb_lt, tb_le, tb_eq, tw, tnI, tn32 99 (by decide), tnj 99 (by decide), tn32 2 (by decide), tnj 2 (by decide), tn32 1 (by decide), tnj 1 (by decide), tl32 0 (by decide), tl64 0 (by decide), tl32 1 (by decide), tl64 1 (by decide), tl32 99 (by decide), tl64 99 (by decide)] at hc6)
          refine lv_if_ne (tgt := 43) hx hb (dkS dF_154 DX12_wish (i := 18) rfl rfl rfl) (by decide) (fun _ => ?_) (fun h => absurd h (by decide))
          refine lv_aload_n hx hb (dkP dF_42 DX12_wish (i := 21) rfl rfl) rfl (lv_at hl 0 rfl) ?_
          refine lv_iload_n hx hb (dkP dF_27 DX12_wish (i := 22) rfl rfl) rfl (lv_at hl 1 rfl) ?_
          refine lv_iload_n hx hb (dkP dF_28 DX12_wish (i := 23) rfl rfl) rfl (lv_at hl 2 rfl) ?_
          refine lv_iload_n hx hb (dkP dF_29 DX12_wish (i := 24) rfl rfl) rfl (lv_at hl 3 rfl) ?_
          refine zk_I hw (zr_V (As := [.int (nI pn), .int (nI cn), .int (nI k_field)]) (rest := []) C0 (c_X12_putOf l G kc ad σ pn cn (nI k_field) (by first | omega | assumption | decide | rfl) (by first | omega | assumption | decide | rfl) hT _) cv_X12_putOf lk_X12_430 (zp_V C0 hRo hw 0 rfl rfl rfl) rfl hl.1 rfl ⟨by decide, by decide⟩ (Nat.le_of_ble_eq_true rfl) (dk2 dF_182 DX12_wish (i := 25) rfl rfl rfl) ⟨Nat.le_refl _, Nat.le_refl _⟩) (fun r7 s7 H locs hp hw => ?_)
          obtain ⟨f7_0, hs7⟩ := hp
          (rw [hs7] at hw)
          refine lv_istore (lv' := [(5, .int r7), (0, .ref (ad 0)), (1, .int (nI pn)), (2, .int (nI cn)), (3, .int (nI k_field)), (4, .int more)]) hx hb (dk1 dF_54 DX12_wish (i := 26) rfl rfl rfl) hl (by decide) rfl (fun ls hl => ?_)
          refine lv_iload hx hb (dk1 dF_21 DX12_wish (i := 27) rfl rfl rfl) (lv_at hl 0 rfl) ?_
          refine lv_iconst (v := (-1)) hx hb (dkP dF_2 DX12_wish (i := 28) rfl rfl) (by decide) ?_
          refine lv_icmp_ne (tgt := 61) hx hb (dkS dF_160 DX12_wish (i := 29) rfl rfl rfl) (by decide) (fun c8 => ?_) (fun c8 => ?_)
          · skip
            obtain ⟨j, hj, rfl⟩ : ∃ j, j < 8 ∧ r7 = nI (387880 + 10 * (8 * (40 * pn + cn) + j)) := by rcases f7_0 with h | h; (· exact absurd h c8); (· exact h)
            refine lv_aload_n hx hb (dkP dF_42 DX12_wish (i := 32) rfl rfl) rfl (lv_at hl 1 rfl) ?_
            refine z_gr C0 hw 0 1 1 rfl fl_X12_20 (dk2 dF_180 DX12_wish (i := 33) rfl rfl rfl) ?_
            refine lv_iload hx hb (dk1 dF_21 DX12_wish (i := 34) rfl rfl rfl) (lv_at hl 0 rfl) ?_
            refine lv_bipush (v := 9) hx hb (dks dF_16 DX12_wish (i := 35) rfl rfl rfl) (by decide) ?_
            refine lv_iadd hx hb (dkP dF_96 DX12_wish (i := 36) rfl rfl) ?_
            refine z_top (y := nI ((387880 + 10 * (8 * (40 * pn + cn) + j)) + 9)) (by simp only [fa_lit, nI_add, pk_mul]) ?_
            refine lv_dup2_11 hx hb (dkP dF_92 DX12_wish (i := 37) rfl rfl) rfl rfl ?_
            refine z_ialdN (n := 414128) C0 hw 1 ((387880 + 10 * (8 * (40 * pn + cn) + j)) + 9) rfl (by omega) (by decide) (dkP dF_46 DX12_wish (i := 38) rfl rfl) ?_
            obtain ⟨v9, ev9⟩ : ∃ y : Int32, σ.1 1 ((387880 + 10 * (8 * (40 * pn + cn) + j)) + 9) = y := ⟨_, rfl⟩
            refine z_top (y := v9) ev9 ?_
            refine lv_iload hx hb (dk1 dF_21 DX12_wish (i := 39) rfl rfl rfl) (lv_at hl 5 rfl) ?_
            refine lv_iadd hx hb (dkP dF_96 DX12_wish (i := 40) rfl rfl) ?_
            refine z_iastN (n := 414128) C0 hw 1 ((387880 + 10 * (8 * (40 * pn + cn) + j)) + 9) rfl (by omega) (by decide) (dkP dF_79 DX12_wish (i := 41) rfl rfl) (fun H locs hw => ?_)
            have hT10 : TM (sI σ 1 ((387880 + 10 * (8 * (40 * pn + cn) + j)) + 9) (v9 + more)) := TM.w hT (ty_pw9 (by omega) (by omega) (by omega))
            have hF10 : fr true [1] [] σ (sI σ 1 ((387880 + 10 * (8 * (40 * pn + cn) + j)) + 9) (v9 + more)) := fr.w fr.refl (Or.inl ⟨by decide, by decide⟩) (fun _ _ => by unfold KR; omega)
            refine lv_aload_n hx hb (dkP dF_42 DX12_wish (i := 42) rfl rfl) rfl (lv_at hl 1 rfl) ?_
            refine z_gr C0 hw 0 1 1 rfl fl_X12_20 (dk2 dF_180 DX12_wish (i := 43) rfl rfl rfl) ?_
            refine lv_iload_n hx hb (dkP dF_27 DX12_wish (i := 44) rfl rfl) rfl (lv_at hl 2 rfl) ?_
            refine zn_I hw (zr_S (As := [.int (nI pn)]) (rest := [.ref (ad 1)]) C0 (c_X12_of l G kc pn  _) cs_X12_of lk_X12_139 (zp_P C0 hRo hw a00 s00) rfl hl.1 rfl ⟨by decide, by decide⟩ (Nat.le_of_ble_eq_true rfl) (dk2 dF_184 DX12_wish (i := 45) rfl rfl rfl) ⟨Nat.le_refl _, Nat.le_refl _⟩) (fun r11 s11 H locs hp hw => ?_)
            subst hp
            refine lv_iconst (v := 3) hx hb (dkP dF_6 DX12_wish (i := 46) rfl rfl) (by decide) ?_
            refine lv_iadd hx hb (dkP dF_96 DX12_wish (i := 47) rfl rfl) ?_
            refine z_top (y := nI ((8 + 20 * pn) + 3)) (by simp only [fa_lit, nI_add, pk_mul]) ?_
            refine lv_iconst (v := (-1)) hx hb (dkP dF_2 DX12_wish (i := 48) rfl rfl) (by decide) ?_
            refine z_iastN (n := 414128) C0 hw 1 ((8 + 20 * pn) + 3) rfl (by omega) (by decide) (dkP dF_79 DX12_wish (i := 49) rfl rfl) (fun H locs hw => ?_)
            have hT12 : TM (sI (sI σ 1 ((387880 + 10 * (8 * (40 * pn + cn) + j)) + 9) (v9 + more)) 1 ((8 + 20 * pn) + 3) (-1)) := TM.w hT10 (ty_w3 (by omega))
            have hF12 : fr true [1] [] σ (sI (sI σ 1 ((387880 + 10 * (8 * (40 * pn + cn) + j)) + 9) (v9 + more)) 1 ((8 + 20 * pn) + 3) (-1)) := fr.w hF10 (Or.inl ⟨by decide, by decide⟩) (fun _ _ => by unfold KR; omega)
            refine lv_aload_n hx hb (dkP dF_42 DX12_wish (i := 50) rfl rfl) rfl (lv_at hl 1 rfl) ?_
            refine z_gr C0 hw 0 1 1 rfl fl_X12_20 (dk2 dF_180 DX12_wish (i := 51) rfl rfl rfl) ?_
            refine lv_iconst (v := 1) hx hb (dkP dF_4 DX12_wish (i := 52) rfl rfl) (by decide) ?_
            refine lv_dup2_11 hx hb (dkP dF_92 DX12_wish (i := 53) rfl rfl) rfl rfl ?_
            refine z_ialdN (n := 414128) C0 hw 1 1 rfl (by omega) (by decide) (dkP dF_46 DX12_wish (i := 54) rfl rfl) ?_
            obtain ⟨v13, ev13⟩ : ∃ y : Int32, (sI (sI σ 1 ((387880 + 10 * (8 * (40 * pn + cn) + j)) + 9) (v9 + more)) 1 ((8 + 20 * pn) + 3) (-1)).1 1 1 = y := ⟨_, rfl⟩
            refine z_top (y := v13) ev13 ?_
            refine lv_iconst (v := 1) hx hb (dkP dF_4 DX12_wish (i := 55) rfl rfl) (by decide) ?_
            refine lv_iadd hx hb (dkP dF_96 DX12_wish (i := 56) rfl rfl) ?_
            refine z_iastN (n := 414128) C0 hw 1 1 rfl (by omega) (by decide) (dkP dF_79 DX12_wish (i := 57) rfl rfl) (fun H locs hw => ?_)
            have hT14 : TM (sI (sI (sI σ 1 ((387880 + 10 * (8 * (40 * pn + cn) + j)) + 9) (v9 + more)) 1 ((8 + 20 * pn) + 3) (-1)) 1 1 (v13 + 1)) := TM.w hT12 (ty_k (by decide))
            have hF14 : fr true [1] [] σ (sI (sI (sI σ 1 ((387880 + 10 * (8 * (40 * pn + cn) + j)) + 9) (v9 + more)) 1 ((8 + 20 * pn) + 3) (-1)) 1 1 (v13 + 1)) := fr.w hF12 (Or.inl ⟨by decide, by decide⟩) (fun _ _ => by unfold KR; omega)
            refine lv_aload_n hx hb (dkP dF_42 DX12_wish (i := 58) rfl rfl) rfl (lv_at hl 1 rfl) ?_
            refine z_gr C0 hw 0 1 1 rfl fl_X12_20 (dk2 dF_180 DX12_wish (i := 59) rfl rfl rfl) ?_
            refine lv_iconst (v := 1) hx hb (dkP dF_4 DX12_wish (i := 60) rfl rfl) (by decide) ?_
            refine z_ialdN (n := 414128) C0 hw 1 1 rfl (by omega) (by decide) (dkP dF_46 DX12_wish (i := 61) rfl rfl) ?_
            obtain ⟨v15, ev15⟩ : ∃ y : Int32, (sI (sI (sI σ 1 ((387880 + 10 * (8 * (40 * pn + cn) + j)) + 9) (v9 + more)) 1 ((8 + 20 * pn) + 3) (-1)) 1 1 (v13 + 1)).1 1 1 = y := ⟨_, rfl⟩
            refine z_top (y := v15) ev15 ?_
            exact z_iret C0 hr hlk hw (⟨hT14, hF14⟩) (dkP dF_172 DX12_wish (i := 62) rfl rfl)
          · skip
            refine lv_bipush (v := (-2)) hx hb (dks dF_16 DX12_wish (i := 30) rfl rfl rfl) (by decide) ?_
            exact z_iret C0 hr hlk hw (⟨hT, fr.refl⟩) (dkP dF_172 DX12_wish (i := 31) rfl rfl)
        · skip
          (try simp (disch := omega) only [ta_lt, ta_le, ta_eq, tb_lt, tb_le, tb_eq, tw, tnI, tn32 99 (by decide), tnj 99 (by decide), tn32 2 (by decide), tnj 2 (by decide), tn32 1 (by decide), tnj 1 (by decide), tl32 0 (by decide), tl64 0 (by decide), tl32 1 (by decide), tl64 1 (by decide), tl32 3 (by decide), tl64 3 (by decide), tl32 9 (by decide), tl64 9 (by decide), tl32 99 (by decide), tl64 99 (by decide)] at hc6)
          refine lv_if_ne (tgt := 43) hx hb (dkS dF_154 DX12_wish (i := 18) rfl rfl rfl) (by decide) (fun h => absurd h (by decide)) (fun _ => ?_)
          refine lv_bipush (v := (-2)) hx hb (dks dF_16 DX12_wish (i := 19) rfl rfl rfl) (by decide) ?_
          exact z_iret C0 hr hlk hw (⟨hT, fr.refl⟩) (dkP dF_172 DX12_wish (i := 20) rfl rfl)
      · skip
        (try simp (disch := omega) only [ta_lt, ta_le, ta_eq, tb_lt, tb_le, tb_eq, tw, tnI, tn32 99 (by decide), tnj 99 (by decide), tn32 2 (by decide), tnj 2 (by decide), tn32 1 (by decide), tnj 1 (by decide), tl32 0 (by decide), tl64 0 (by decide), tl32 1 (by decide), tl64 1 (by decide), tl32 3 (by decide), tl64 3 (by decide), tl32 9 (by decide), tl64 9 (by decide), tl32 99 (by decide), tl64 99 (by decide)] at hc5)
        refine lv_if_eq (tgt := 40) hx hb (dkS dF_153 DX12_wish (i := 12) rfl rfl rfl) (by decide) (fun _ => ?_) (fun h => absurd h (by decide))
        refine lv_bipush (v := (-2)) hx hb (dks dF_16 DX12_wish (i := 19) rfl rfl rfl) (by decide) ?_
        exact z_iret C0 hr hlk hw (⟨hT, fr.refl⟩) (dkP dF_172 DX12_wish (i := 20) rfl rfl)
  · skip
    refine lv_if_eq (tgt := 40) hx hb (dkS dF_153 DX12_wish (i := 4) rfl rfl rfl) (by decide) (fun _ => ?_) (fun h => absurd h (by decide))
    refine lv_bipush (v := (-2)) hx hb (dks dF_16 DX12_wish (i := 19) rfl rfl rfl) (by decide) ?_
    exact z_iret C0 hr hlk hw (⟨hT, fr.refl⟩) (dkP dF_172 DX12_wish (i := 20) rfl rfl)
set_option maxRecDepth 100000 in
set_option maxHeartbeats 8000000 in
theorem c_X12_casing (l : Launch) (G : va_G) (kc : KC) (ad : Nat → Nat) (σ : Sg) (program : Int32) (casing : Int32) (what : Int32) (ja : Int32) (ia : Int32) (hT : TM σ) : MI l G kc yX12_casing cX12_casing 8 (some .int) 3 67 [.ref (ad 0), .int program, .int casing, .int what, .int ja, .int ia] shM ad σ (fun r σ1 => σ1 = σ) := by
  intro sz
  refine z_body (y := yX12_casing) (n := 8) (av := [.ref (ad 0), .int program, .int casing, .int what, .int ja, .int ia]) (Qc := fun A => va_Qi (fun r σ1 => σ1 = σ) (PoC G kc shM ad A) A) (plainFor_of_name (by decide)) (Nat.le_of_ble_eq_true rfl) (fun pr e s m below meth c A C0 hr hlk hnm hw hRo ls hl => ?_) sz
  have hx := C0.1
  have hb := C0.2.1
  have hown := C0.2.2.2.1
  have hts := C0.2.2.2.2.1
  have hl : lv_has ls 8 [(0, .ref (ad 0)), (1, .int program), (2, .int casing), (3, .int what), (4, .int ja), (5, .int ia)] := hl
  refine lv_aload_n hx hb (dkP dF_42 DX12_casing (i := 0) rfl rfl) rfl (lv_at hl 0 rfl) ?_
  refine lv_iload_n hx hb (dkP dF_27 DX12_casing (i := 1) rfl rfl) rfl (lv_at hl 1 rfl) ?_
  refine lv_iload_n hx hb (dkP dF_28 DX12_casing (i := 2) rfl rfl) rfl (lv_at hl 2 rfl) ?_
  refine zk_I hw (zr_V (As := [.int program, .int casing]) (rest := []) C0 (c_X12_isCasing l G kc ad σ program casing hT _) cv_X12_isCasing lk_X12_427 (zp_V C0 hRo hw 0 rfl rfl rfl) rfl hl.1 rfl ⟨by decide, by decide⟩ (Nat.le_of_ble_eq_true rfl) (dk2 dF_182 DX12_casing (i := 3) rfl rfl rfl) ⟨Nat.le_refl _, Nat.le_refl _⟩) (fun r1 s1 H locs hp hw => ?_)
  obtain ⟨f1_0, hs1⟩ := hp
  (rw [hs1] at hw)
  rcases f1_0 with ⟨rfl, hc1⟩ | ⟨rfl, hc1⟩
  · skip
    refine lv_if_ne (tgt := 13) hx hb (dkS dF_154 DX12_casing (i := 4) rfl rfl rfl) (by decide) (fun _ => ?_) (fun h => absurd h (by decide))
    obtain ⟨pn, hpn, rfl⟩ := to_nat (x := program) (n := 8) (by (try simp only [lg_cmp_lt, lg_cmp_le, lg_cmp_gt, lg_cmp_ge, lg_cmp_eq] at f1_0); (try simp (disch := omega) only [ta_lt, ta_le, ta_eq, tb_lt, tb_le, tb_eq, tw, tnI, tsub1, tsv, tn32 1 (by decide), tnj 1 (by decide), tl32 0 (by decide), tl64 0 (by decide)] at f1_0); (try simp only [lg_cmp_lt, lg_cmp_le, lg_cmp_gt, lg_cmp_ge, lg_cmp_eq] at hc1); (try simp (disch := omega) only [ta_lt, ta_le, ta_eq, tb_lt, tb_le, tb_eq, tw, tnI, tsub1, tsv, tn32 1 (by decide), tnj 1 (by decide), tl32 0 (by decide), tl64 0 (by decide)] at hc1); (try simp (disch := omega) only [ta_lt, ta_le, ta_eq, tb_lt, tb_le, tb_eq, tw, tnI, tsub1, tsv, tn32 1 (by decide), tnj 1 (by decide), tl32 0 (by decide), tl64 0 (by decide)]); omega)
    obtain ⟨cn, hcn, rfl⟩ := to_nat (x := casing) (n := 40) (by (try simp only [lg_cmp_lt, lg_cmp_le, lg_cmp_gt, lg_cmp_ge, lg_cmp_eq] at f1_0); (try simp (disch := omega) only [ta_lt, ta_le, ta_eq, tb_lt, tb_le, tb_eq, tw, tnI, tsub1, tsv, tn32 1 (by decide), tnj 1 (by decide), tl32 0 (by decide), tl64 0 (by decide)] at f1_0); (try simp only [lg_cmp_lt, lg_cmp_le, lg_cmp_gt, lg_cmp_ge, lg_cmp_eq] at hc1); (try simp (disch := omega) only [ta_lt, ta_le, ta_eq, tb_lt, tb_le, tb_eq, tw, tnI, tsub1, tsv, tn32 1 (by decide), tnj 1 (by decide), tl32 0 (by decide), tl64 0 (by decide)] at hc1); (try simp (disch := omega) only [ta_lt, ta_le, ta_eq, tb_lt, tb_le, tb_eq, tw, tnI, tsub1, tsv, tn32 1 (by decide), tnj 1 (by decide), tl32 0 (by decide), tl64 0 (by decide)]); omega)
    refine lv_iload_n hx hb (dkP dF_27 DX12_casing (i := 7) rfl rfl) rfl (lv_at hl 1 rfl) ?_
    refine lv_iload_n hx hb (dkP dF_28 DX12_casing (i := 8) rfl rfl) rfl (lv_at hl 2 rfl) ?_
    refine zn_I hw (zr_S (As := [.int (nI pn), .int (nI cn)]) (rest := []) C0 (c_X12_caseAt l G kc pn cn  _) cs_X12_caseAt lk_X12_310 (zp_P C0 hRo hw a00 s00) rfl hl.1 rfl ⟨by decide, by decide⟩ (Nat.le_of_ble_eq_true rfl) (dk2 dF_184 DX12_casing (i := 9) rfl rfl rfl) ⟨Nat.le_refl _, Nat.le_refl _⟩) (fun r2 s2 H locs hp hw => ?_)
    subst hp
    refine lv_istore (lv' := [(6, .int (nI (3240 + 2 * (40 * pn + cn)))), (0, .ref (ad 0)), (1, .int (nI pn)), (2, .int (nI cn)), (3, .int what), (4, .int ja), (5, .int ia)]) hx hb (dk1 dF_54 DX12_casing (i := 10) rfl rfl rfl) hl (by decide) rfl (fun ls hl => ?_)
    refine lv_iload_n hx hb (dkP dF_29 DX12_casing (i := 11) rfl rfl) rfl (lv_at hl 4 rfl) ?_
    refine lv_if_eq (tgt := 29) hx hb (dkS dF_153 DX12_casing (i := 12) rfl rfl rfl) (by decide) (fun c3 => ?_) (fun c3 => ?_)
    · (try simp (disch := omega) only [ta_lt, ta_le, ta_eq, tnI, tl32 0 (by decide)] at c3)
      obtain ⟨wh, hwh, rfl⟩ := to_nat (x := what) (n := 2) (by (try simp only [lg_cmp_lt, lg_cmp_le, lg_cmp_gt, lg_cmp_ge, lg_cmp_eq] at f1_0); (try simp (disch := omega) only [ta_lt, ta_le, ta_eq, tb_lt, tb_le, tb_eq, tw, tnI, tsub1, tsv, tn32 1 (by decide), tnj 1 (by decide), tl32 0 (by decide), tl64 0 (by decide)] at f1_0); (try simp only [lg_cmp_lt, lg_cmp_le, lg_cmp_gt, lg_cmp_ge, lg_cmp_eq] at hc1); (try simp (disch := omega) only [ta_lt, ta_le, ta_eq, tb_lt, tb_le, tb_eq, tw, tnI, tsub1, tsv, tn32 1 (by decide), tnj 1 (by decide), tl32 0 (by decide), tl64 0 (by decide)] at hc1); (try simp only [lg_cmp_lt, lg_cmp_le, lg_cmp_gt, lg_cmp_ge, lg_cmp_eq] at c3); (try simp (disch := omega) only [ta_lt, ta_le, ta_eq, tb_lt, tb_le, tb_eq, tw, tnI, tsub1, tsv, tn32 1 (by decide), tnj 1 (by decide), tl32 0 (by decide), tl64 0 (by decide)] at c3); (try simp (disch := omega) only [ta_lt, ta_le, ta_eq, tb_lt, tb_le, tb_eq, tw, tnI, tsub1, tsv, tn32 1 (by decide), tnj 1 (by decide), tl32 0 (by decide), tl64 0 (by decide)]); omega)
      refine lv_aload_n hx hb (dkP dF_42 DX12_casing (i := 16) rfl rfl) rfl (lv_at hl 1 rfl) ?_
      refine z_gr C0 hw 0 1 1 rfl fl_X12_20 (dk2 dF_180 DX12_casing (i := 17) rfl rfl rfl) ?_
      refine lv_iload hx hb (dk1 dF_21 DX12_casing (i := 18) rfl rfl rfl) (lv_at hl 0 rfl) ?_
      refine lv_iload_n hx hb (dkP dF_29 DX12_casing (i := 19) rfl rfl) rfl (lv_at hl 4 rfl) ?_
      refine lv_iadd hx hb (dkP dF_96 DX12_casing (i := 20) rfl rfl) ?_
      refine z_top (y := nI ((3240 + 2 * (40 * pn + cn)) + wh)) (by simp only [fa_lit, nI_add, pk_mul]) ?_
      refine z_ialdN (n := 414128) C0 hw 1 ((3240 + 2 * (40 * pn + cn)) + wh) rfl (by omega) (by decide) (dkP dF_46 DX12_casing (i := 21) rfl rfl) ?_
      obtain ⟨v4, ev4⟩ : ∃ y : Int32, σ.1 1 ((3240 + 2 * (40 * pn + cn)) + wh) = y := ⟨_, rfl⟩
      refine z_top (y := v4) ev4 ?_
      exact z_iret C0 hr hlk hw rfl (dkP dF_172 DX12_casing (i := 22) rfl rfl)
    · (try simp (disch := omega) only [ta_lt, ta_le, ta_eq, tnI, tl32 0 (by decide)] at c3)
      refine lv_iload_n hx hb (dkP dF_29 DX12_casing (i := 13) rfl rfl) rfl (lv_at hl 4 rfl) ?_
      refine lv_iconst (v := 1) hx hb (dkP dF_4 DX12_casing (i := 14) rfl rfl) (by decide) ?_
      refine lv_icmp_ne (tgt := 39) hx hb (dkS dF_160 DX12_casing (i := 15) rfl rfl rfl) (by decide) (fun c5 => ?_) (fun c5 => ?_)
      · (try simp (disch := omega) only [ta_lt, ta_le, ta_eq, tnI, tl32 1 (by decide)] at c5)
        refine lv_iload_n hx hb (dkP dF_29 DX12_casing (i := 23) rfl rfl) rfl (lv_at hl 4 rfl) ?_
        refine lv_i2l hx hb (dkP dF_133 DX12_casing (i := 24) rfl rfl) rfl ?_
        refine lv_ldc2 hx hb hown (hts _ kn_X12_145) (dk2 dF_20 DX12_casing (i := 25) rfl rfl rfl) ?_
        refine lv_ldc2 hx hb hown (hts _ kn_X12_433) (dk2 dF_20 DX12_casing (i := 26) rfl rfl rfl) ?_
        refine zn_I hw (zr_S (As := [.long what.toInt64, .long 2, .long 4]) (rest := []) C0 (c_X12_in l G kc what.toInt64 2 4  _) cs_X12_in lk_X12_9 (zp_P C0 hRo hw a00 s00) rfl hl.1 rfl ⟨by decide, by decide⟩ (Nat.le_of_ble_eq_true rfl) (dk2 dF_184 DX12_casing (i := 27) rfl rfl rfl) ⟨Nat.le_refl _, Nat.le_refl _⟩) (fun r6 s6 H locs hp hw => ?_)
        rcases hp with ⟨rfl, hc6⟩ | ⟨rfl, hc6⟩
        · skip
          (try simp (disch := omega) only [ta_lt, ta_le, ta_eq, tb_lt, tb_le, tb_eq, tw, tnI, tn32 1 (by decide), tnj 1 (by decide), tl32 0 (by decide), tl64 0 (by decide), tl32 1 (by decide), tl64 1 (by decide), tl32 2 (by decide), tl64 2 (by decide), tl32 4 (by decide), tl64 4 (by decide)] at hc6)
          refine lv_if_eq (tgt := 88) hx hb (dkS dF_153 DX12_casing (i := 28) rfl rfl rfl) (by decide) (fun h => absurd h (by decide)) (fun _ => ?_)
          refine lv_iload hx hb (dk1 dF_21 DX12_casing (i := 29) rfl rfl rfl) (lv_at hl 5 rfl) ?_
          refine lv_i2l hx hb (dkP dF_133 DX12_casing (i := 30) rfl rfl) rfl ?_
          refine lv_lconst (v := 0) hx hb (dkP dF_9 DX12_casing (i := 31) rfl rfl) (by decide) ?_
          refine lv_aload_n hx hb (dkP dF_42 DX12_casing (i := 32) rfl rfl) rfl (lv_at hl 1 rfl) ?_
          refine z_gr C0 hw 0 1 1 rfl fl_X12_20 (dk2 dF_180 DX12_casing (i := 33) rfl rfl rfl) ?_
          refine lv_iload hx hb (dk1 dF_21 DX12_casing (i := 34) rfl rfl rfl) (lv_at hl 0 rfl) ?_
          refine lv_iconst (v := 1) hx hb (dkP dF_4 DX12_casing (i := 35) rfl rfl) (by decide) ?_
          refine lv_iadd hx hb (dkP dF_96 DX12_casing (i := 36) rfl rfl) ?_
          refine z_top (y := nI ((3240 + 2 * (40 * pn + cn)) + 1)) (by simp only [fa_lit, nI_add, pk_mul]) ?_
          refine z_ialdN (n := 414128) C0 hw 1 ((3240 + 2 * (40 * pn + cn)) + 1) rfl (by omega) (by decide) (dkP dF_46 DX12_casing (i := 37) rfl rfl) ?_
          obtain ⟨n7, hn7, en7⟩ := rngN (x := σ.1 1 ((3240 + 2 * (40 * pn + cn)) + 1)) (h := 8) (wTy_p (by omega) (by omega) (hT 1 _))
          refine z_top (y := nI n7) en7 ?_
          refine lv_iconst (v := 1) hx hb (dkP dF_4 DX12_casing (i := 38) rfl rfl) (by decide) ?_
          refine lv_isub hx hb (dkP dF_100 DX12_casing (i := 39) rfl rfl) ?_
          refine lv_i2l hx hb (dkP dF_133 DX12_casing (i := 40) rfl rfl) rfl ?_
          refine zn_I hw (zr_S (As := [.long ja.toInt64, .long 0, .long (((nI n7) - 1).toInt64)]) (rest := []) C0 (c_X12_in l G kc ja.toInt64 0 (((nI n7) - 1).toInt64)  _) cs_X12_in lk_X12_9 (zp_P C0 hRo hw a00 s00) rfl hl.1 rfl ⟨by decide, by decide⟩ (Nat.le_of_ble_eq_true rfl) (dk2 dF_184 DX12_casing (i := 41) rfl rfl rfl) ⟨Nat.le_refl _, Nat.le_refl _⟩) (fun r8 s8 H locs hp hw => ?_)
          rcases hp with ⟨rfl, hc8⟩ | ⟨rfl, hc8⟩
          · skip
            (try simp (disch := omega) only [ta_lt, ta_le, ta_eq, tb_lt, tb_le, tb_eq, tw, tnI, tn32 1 (by decide), tnj 1 (by decide), tl32 0 (by decide), tl64 0 (by decide), tl32 1 (by decide), tl64 1 (by decide), tl32 2 (by decide), tl64 2 (by decide), tl32 4 (by decide), tl64 4 (by decide)] at hc8)
            refine lv_if_eq (tgt := 88) hx hb (dkS dF_153 DX12_casing (i := 42) rfl rfl rfl) (by decide) (fun h => absurd h (by decide)) (fun _ => ?_)
            obtain ⟨jn, hjn, rfl⟩ := to_nat (x := ja) (n := 8) (by (try simp only [lg_cmp_lt, lg_cmp_le, lg_cmp_gt, lg_cmp_ge, lg_cmp_eq] at f1_0); (try simp (disch := omega) only [ta_lt, ta_le, ta_eq, tb_lt, tb_le, tb_eq, tw, tnI, tsub1, tsv, tn32 1 (by decide), tnj 1 (by decide), tl32 0 (by decide), tl64 0 (by decide), tl32 1 (by decide), tl64 1 (by decide), tl32 2 (by decide), tl64 2 (by decide), tl32 4 (by decide), tl64 4 (by decide)] at f1_0); (try simp only [lg_cmp_lt, lg_cmp_le, lg_cmp_gt, lg_cmp_ge, lg_cmp_eq] at hc1); (try simp (disch := omega) only [ta_lt, ta_le, ta_eq, tb_lt, tb_le, tb_eq, tw, tnI, tsub1, tsv, tn32 1 (by decide), tnj 1 (by decide), tl32 0 (by decide), tl64 0 (by decide), tl32 1 (by decide), tl64 1 (by decide), tl32 2 (by decide), tl64 2 (by decide), tl32 4 (by decide), tl64 4 (by decide)] at hc1); (try simp only [lg_cmp_lt, lg_cmp_le, lg_cmp_gt, lg_cmp_ge, lg_cmp_eq] at c3); (try simp (disch := omega) only [ta_lt, ta_le, ta_eq, tb_lt, tb_le, tb_eq, tw, tnI, tsub1, tsv, tn32 1 (by decide), tnj 1 (by decide), tl32 0 (by decide), tl64 0 (by decide), tl32 1 (by decide), tl64 1 (by decide), tl32 2 (by decide), tl64 2 (by decide), tl32 4 (by decide), tl64 4 (by decide)] at c3); (try simp only [lg_cmp_lt, lg_cmp_le, lg_cmp_gt, lg_cmp_ge, lg_cmp_eq] at c5); (try simp (disch := omega) only [ta_lt, ta_le, ta_eq, tb_lt, tb_le, tb_eq, tw, tnI, tsub1, tsv, tn32 1 (by decide), tnj 1 (by decide), tl32 0 (by decide), tl64 0 (by decide), tl32 1 (by decide), tl64 1 (by decide), tl32 2 (by decide), tl64 2 (by decide), tl32 4 (by decide), tl64 4 (by decide)] at c5); (try simp only [lg_cmp_lt, lg_cmp_le, lg_cmp_gt, lg_cmp_ge, lg_cmp_eq] at hc6); (try simp (disch := omega) only [ta_lt, ta_le, ta_eq, tb_lt, tb_le, tb_eq, tw, tnI, tsub1, tsv, tn32 1 (by decide), tnj 1 (by decide), tl32 0 (by decide), tl64 0 (by decide), tl32 1 (by decide), tl64 1 (by decide), tl32 2 (by decide), tl64 2 (by decide), tl32 4 (by decide), tl64 4 (by decide)] at hc6); (try simp only [lg_cmp_lt, lg_cmp_le, lg_cmp_gt, lg_cmp_ge, lg_cmp_eq] at hc8); (try simp (disch := omega) only [ta_lt, ta_le, ta_eq, tb_lt, tb_le, tb_eq, tw, tnI, tsub1, tsv, tn32 1 (by decide), tnj 1 (by decide), tl32 0 (by decide), tl64 0 (by decide), tl32 1 (by decide), tl64 1 (by decide), tl32 2 (by decide), tl64 2 (by decide), tl32 4 (by decide), tl64 4 (by decide)] at hc8); (try simp (disch := omega) only [ta_lt, ta_le, ta_eq, tb_lt, tb_le, tb_eq, tw, tnI, tsub1, tsv, tn32 1 (by decide), tnj 1 (by decide), tl32 0 (by decide), tl64 0 (by decide), tl32 1 (by decide), tl64 1 (by decide), tl32 2 (by decide), tl64 2 (by decide), tl32 4 (by decide), tl64 4 (by decide)]); omega)
            refine lv_iload_n hx hb (dkP dF_29 DX12_casing (i := 43) rfl rfl) rfl (lv_at hl 4 rfl) ?_
            refine lv_iconst (v := 2) hx hb (dkP dF_5 DX12_casing (i := 44) rfl rfl) (by decide) ?_
            refine lv_icmp_ne (tgt := 92) hx hb (dkS dF_160 DX12_casing (i := 45) rfl rfl rfl) (by decide) (fun c9 => ?_) (fun c9 => ?_)
            · skip
              refine lv_iload_n hx hb (dkP dF_27 DX12_casing (i := 51) rfl rfl) rfl (lv_at hl 2 rfl) ?_
              refine lv_iload_n hx hb (dkP dF_28 DX12_casing (i := 52) rfl rfl) rfl (lv_at hl 3 rfl) ?_
              refine lv_iload hx hb (dk1 dF_21 DX12_casing (i := 53) rfl rfl rfl) (lv_at hl 5 rfl) ?_
              refine zn_I hw (zr_S (As := [.int (nI pn), .int (nI cn), .int (nI jn)]) (rest := []) C0 (c_X12_putAt l G kc pn cn jn  _) cs_X12_putAt lk_X12_317 (zp_P C0 hRo hw a00 s00) rfl hl.1 rfl ⟨by decide, by decide⟩ (Nat.le_of_ble_eq_true rfl) (dk2 dF_184 DX12_casing (i := 54) rfl rfl rfl) ⟨Nat.le_refl _, Nat.le_refl _⟩) (fun r10 s10 H locs hp hw => ?_)
              subst hp
              refine lv_istore (lv' := [(7, .int (nI (387880 + 10 * (8 * (40 * pn + cn) + jn)))), (6, .int (nI (3240 + 2 * (40 * pn + cn)))), (0, .ref (ad 0)), (1, .int (nI pn)), (2, .int (nI cn)), (3, .int what), (4, .int (nI jn)), (5, .int ia)]) hx hb (dk1 dF_54 DX12_casing (i := 55) rfl rfl rfl) hl (by decide) rfl (fun ls hl => ?_)
              refine lv_iload_n hx hb (dkP dF_29 DX12_casing (i := 56) rfl rfl) rfl (lv_at hl 5 rfl) ?_
              refine lv_iconst (v := 2) hx hb (dkP dF_5 DX12_casing (i := 57) rfl rfl) (by decide) ?_
              refine lv_icmp_ne (tgt := 121) hx hb (dkS dF_160 DX12_casing (i := 58) rfl rfl rfl) (by decide) (fun c11 => ?_) (fun c11 => absurd c11 c9)
              refine lv_iload_n hx hb (dkP dF_29 DX12_casing (i := 68) rfl rfl) rfl (lv_at hl 5 rfl) ?_
              refine lv_iconst (v := 3) hx hb (dkP dF_6 DX12_casing (i := 69) rfl rfl) (by decide) ?_
              refine lv_icmp_ne (tgt := 139) hx hb (dkS dF_160 DX12_casing (i := 70) rfl rfl rfl) (by decide) (fun c12 => ?_) (fun c12 => ?_)
              · (try simp (disch := omega) only [ta_lt, ta_le, ta_eq, tnI, tl32 3 (by decide)] at c12)
                refine lv_aload_n hx hb (dkP dF_42 DX12_casing (i := 78) rfl rfl) rfl (lv_at hl 2 rfl) ?_
                refine z_gr C0 hw 0 1 1 rfl fl_X12_20 (dk2 dF_180 DX12_casing (i := 79) rfl rfl rfl) ?_
                refine lv_iload hx hb (dk1 dF_21 DX12_casing (i := 80) rfl rfl rfl) (lv_at hl 0 rfl) ?_
                refine z_ialdN (n := 414128) C0 hw 1 (387880 + 10 * (8 * (40 * pn + cn) + jn)) rfl (by omega) (by decide) (dkP dF_46 DX12_casing (i := 81) rfl rfl) ?_
                obtain ⟨n13, hn13, en13⟩ := rngN (x := σ.1 1 (387880 + 10 * (8 * (40 * pn + cn) + jn))) (h := 7) (wTy_f (by omega) (by omega) (by omega) (hT 1 _))
                refine z_top (y := nI n13) en13 ?_
                exact z_iret C0 hr hlk hw rfl (dkP dF_172 DX12_casing (i := 82) rfl rfl)
              · (try simp (disch := omega) only [ta_lt, ta_le, ta_eq, tnI, tl32 3 (by decide)] at c12)
                refine lv_aload_n hx hb (dkP dF_42 DX12_casing (i := 71) rfl rfl) rfl (lv_at hl 2 rfl) ?_
                refine z_gr C0 hw 0 1 1 rfl fl_X12_20 (dk2 dF_180 DX12_casing (i := 72) rfl rfl rfl) ?_
                refine lv_iload hx hb (dk1 dF_21 DX12_casing (i := 73) rfl rfl rfl) (lv_at hl 0 rfl) ?_
                refine lv_bipush (v := 9) hx hb (dks dF_16 DX12_casing (i := 74) rfl rfl rfl) (by decide) ?_
                refine lv_iadd hx hb (dkP dF_96 DX12_casing (i := 75) rfl rfl) ?_
                refine z_top (y := nI ((387880 + 10 * (8 * (40 * pn + cn) + jn)) + 9)) (by simp only [fa_lit, nI_add, pk_mul]) ?_
                refine z_ialdN (n := 414128) C0 hw 1 ((387880 + 10 * (8 * (40 * pn + cn) + jn)) + 9) rfl (by omega) (by decide) (dkP dF_46 DX12_casing (i := 76) rfl rfl) ?_
                obtain ⟨v14, ev14⟩ : ∃ y : Int32, σ.1 1 ((387880 + 10 * (8 * (40 * pn + cn) + jn)) + 9) = y := ⟨_, rfl⟩
                refine z_top (y := v14) ev14 ?_
                refine lv_goto (tgt := 146) hx hb (dkS dF_167 DX12_casing (i := 77) rfl rfl rfl) (by decide) ?_
                exact z_iret C0 hr hlk hw rfl (dkP dF_172 DX12_casing (i := 82) rfl rfl)
            · skip
              refine lv_iload hx hb (dk1 dF_21 DX12_casing (i := 46) rfl rfl rfl) (lv_at hl 6 rfl) ?_
              refine zn_I hw (zr_S (As := [.int ia]) (rest := []) C0 (c_X12_isField l G kc ia  _) cs_X12_isField lk_X12_332 (zp_P C0 hRo hw a00 s00) rfl hl.1 rfl ⟨by decide, by decide⟩ (Nat.le_of_ble_eq_true rfl) (dk2 dF_184 DX12_casing (i := 47) rfl rfl rfl) ⟨Nat.le_refl _, Nat.le_refl _⟩) (fun r15 s15 H locs hp hw => ?_)
              rcases hp with ⟨rfl, hc15⟩ | ⟨rfl, hc15⟩
              · skip
                (try simp (disch := omega) only [ta_lt, ta_le, ta_eq, tb_lt, tb_le, tb_eq, tw, tnI, tn32 1 (by decide), tnj 1 (by decide), tl32 0 (by decide), tl64 0 (by decide), tl32 1 (by decide), tl64 1 (by decide), tl32 2 (by decide), tl64 2 (by decide), tl32 3 (by decide), tl64 3 (by decide), tl32 4 (by decide), tl64 4 (by decide), tl32 9 (by decide), tl64 9 (by decide)] at hc15)
                obtain ⟨k_ia, hk_ia, rfl⟩ := to_nat (x := ia) (n := 8) (by (try simp only [lg_cmp_lt, lg_cmp_le, lg_cmp_gt, lg_cmp_ge, lg_cmp_eq] at f1_0); (try simp (disch := omega) only [ta_lt, ta_le, ta_eq, tb_lt, tb_le, tb_eq, tw, tnI, tn32 1 (by decide), tnj 1 (by decide), tl32 0 (by decide), tl64 0 (by decide), tl32 1 (by decide), tl64 1 (by decide), tl32 2 (by decide), tl64 2 (by decide), tl32 3 (by decide), tl64 3 (by decide), tl32 4 (by decide), tl64 4 (by decide), tl32 9 (by decide), tl64 9 (by decide)] at f1_0); (try simp only [lg_cmp_lt, lg_cmp_le, lg_cmp_gt, lg_cmp_ge, lg_cmp_eq] at hc1); (try simp (disch := omega) only [ta_lt, ta_le, ta_eq, tb_lt, tb_le, tb_eq, tw, tnI, tn32 1 (by decide), tnj 1 (by decide), tl32 0 (by decide), tl64 0 (by decide), tl32 1 (by decide), tl64 1 (by decide), tl32 2 (by decide), tl64 2 (by decide), tl32 3 (by decide), tl64 3 (by decide), tl32 4 (by decide), tl64 4 (by decide), tl32 9 (by decide), tl64 9 (by decide)] at hc1); (try simp only [lg_cmp_lt, lg_cmp_le, lg_cmp_gt, lg_cmp_ge, lg_cmp_eq] at b1_1); (try simp (disch := omega) only [ta_lt, ta_le, ta_eq, tb_lt, tb_le, tb_eq, tw, tnI, tn32 1 (by decide), tnj 1 (by decide), tl32 0 (by decide), tl64 0 (by decide), tl32 1 (by decide), tl64 1 (by decide), tl32 2 (by decide), tl64 2 (by decide), tl32 3 (by decide), tl64 3 (by decide), tl32 4 (by decide), tl64 4 (by decide), tl32 9 (by decide), tl64 9 (by decide)] at b1_1); (try simp only [lg_cmp_lt, lg_cmp_le, lg_cmp_gt, lg_cmp_ge, lg_cmp_eq] at c3); (try simp (disch := omega) only [ta_lt, ta_le, ta_eq, tb_lt, tb_le, tb_eq, tw, tnI, tn32 1 (by decide), tnj 1 (by decide), tl32 0 (by decide), tl64 0 (by decide), tl32 1 (by decide), tl64 1 (by decide), tl32 2 (by decide), tl64 2 (by decide), tl32 3 (by decide), tl64 3 (by decide), tl32 4 (by decide), tl64 4 (by decide), tl32 9 (by decide), tl64 9 (by decide)] at c3); (try simp only [lg_cmp_lt, lg_cmp_le, lg_cmp_gt, lg_cmp_ge, lg_cmp_eq] at c5); (try simp (disch := omega) only [ta_lt, ta_le, ta_eq, tb_lt, tb_le, tb_eq, tw, tnI, tn32 1 (by decide), tnj 1 (by decide), tl32 0 (by decide), tl64 0 (by decide), tl32 1 (by decide), tl64 1 (by decide), tl32 2 (by decide), tl64 2 (by decide), tl32 3 (by decide), tl64 3 (by decide), tl32 4 (by decide), tl64 4 (by decide), tl32 9 (by decide), tl64 9 (by decide)] at c5); (try simp only [lg_cmp_lt, lg_cmp_le, lg_cmp_gt, lg_cmp_ge, lg_cmp_eq] at hc6); (try simp (disch := omega) only [ta_lt, ta_le, ta_eq, tb_lt, tb_le, tb_eq, tw, tnI, tn32 1 (by decide), tnj 1 (by decide), tl32 0 (by decide), tl64 0 (by decide), tl32 1 (by decide), tl64 1 (by decide), tl32 2 (by decide), tl64 2 (by decide), tl32 3 (by decide), tl64 3 (by decide), tl32 4 (by decide), tl64 4 (by decide), tl32 9 (by decide), tl64 9 (by decide)] at hc6); (try simp only [lg_cmp_lt, lg_cmp_le, lg_cmp_gt, lg_cmp_ge, lg_cmp_eq] at hc8); (try simp (disch := omega) only [ta_lt, ta_le, ta_eq, tb_lt, tb_le, tb_eq, tw, tnI, tn32 1 (by decide), tnj 1 (by decide), tl32 0 (by decide), tl64 0 (by decide), tl32 1 (by decide), tl64 1 (by decide), tl32 2 (by decide), tl64 2 (by decide), tl32 3 (by decide), tl64 3 (by decide), tl32 4 (by decide), tl64 4 (by decide), tl32 9 (by decide), tl64 9 (by decide)] at hc8); (try simp only [lg_cmp_lt, lg_cmp_le, lg_cmp_gt, lg_cmp_ge, lg_cmp_eq] at c9); (try simp (disch := omega) only [ta_lt, ta_le, ta_eq, tb_lt, tb_le, tb_eq, tw, tnI, tn32 1 (by decide), tnj 1 (by decide), tl32 0 (by decide), tl64 0 (by decide), tl32 1 (by decide), tl64 1 (by decide), tl32 2 (by decide), tl64 2 (by decide), tl32 3 (by decide), tl64 3 (by decide), tl32 4 (by decide), tl64 4 (by decide), tl32 9 (by decide), tl64 9 (by decide)] at c9); (try simp only [lg_cmp_lt, lg_cmp_le, lg_cmp_gt, lg_cmp_ge, lg_cmp_eq] at hc15); (try simp (disch := omega) only [ta_lt, ta_le, ta_eq, tb_lt, tb_le, tb_eq, tw, tnI, tn32 1 (by decide), tnj 1 (by decide), tl32 0 (by decide), tl64 0 (by decide), tl32 1 (by decide), tl64 1 (by decide), tl32 2 (by decide), tl64 2 (by decide), tl32 3 (by decide), tl64 3 (by decide), tl32 4 (by decide), tl64 4 (by decide), tl32 9 (by decide), tl64 9 (by decide)] at hc15); (try simp (disch := omega) only [ta_lt, ta_le, ta_eq, tb_lt, tb_le, tb_eq, tw, tnI, tn32 1 (by decide), tnj 1 (by decide), tl32 0 (by decide), tl64 0 (by decide), tl32 1 (by decide), tl64 1 (by decide), tl32 2 (by decide), tl64 2 (by decide), tl32 3 (by decide), tl64 3 (by decide), tl32 4 (by decide), tl64 4 (by decide), tl32 9 (by decide), tl64 9 (by decide)]); omega)
                refine lv_if_ne (tgt := 92) hx hb (dkS dF_154 DX12_casing (i := 48) rfl rfl rfl) (by decide) (fun _ => ?_) (fun h => absurd h (by decide))
                refine lv_iload_n hx hb (dkP dF_27 DX12_casing (i := 51) rfl rfl) rfl (lv_at hl 2 rfl) ?_
                refine lv_iload_n hx hb (dkP dF_28 DX12_casing (i := 52) rfl rfl) rfl (lv_at hl 3 rfl) ?_
                refine lv_iload hx hb (dk1 dF_21 DX12_casing (i := 53) rfl rfl rfl) (lv_at hl 5 rfl) ?_
                refine zn_I hw (zr_S (As := [.int (nI pn), .int (nI cn), .int (nI jn)]) (rest := []) C0 (c_X12_putAt l G kc pn cn jn  _) cs_X12_putAt lk_X12_317 (zp_P C0 hRo hw a00 s00) rfl hl.1 rfl ⟨by decide, by decide⟩ (Nat.le_of_ble_eq_true rfl) (dk2 dF_184 DX12_casing (i := 54) rfl rfl rfl) ⟨Nat.le_refl _, Nat.le_refl _⟩) (fun r16 s16 H locs hp hw => ?_)
                subst hp
                refine lv_istore (lv' := [(7, .int (nI (387880 + 10 * (8 * (40 * pn + cn) + jn)))), (6, .int (nI (3240 + 2 * (40 * pn + cn)))), (0, .ref (ad 0)), (1, .int (nI pn)), (2, .int (nI cn)), (3, .int what), (4, .int (nI jn)), (5, .int (nI k_ia))]) hx hb (dk1 dF_54 DX12_casing (i := 55) rfl rfl rfl) hl (by decide) rfl (fun ls hl => ?_)
                refine lv_iload_n hx hb (dkP dF_29 DX12_casing (i := 56) rfl rfl) rfl (lv_at hl 5 rfl) ?_
                refine lv_iconst (v := 2) hx hb (dkP dF_5 DX12_casing (i := 57) rfl rfl) (by decide) ?_
                refine lv_icmp_ne (tgt := 121) hx hb (dkS dF_160 DX12_casing (i := 58) rfl rfl rfl) (by decide) (fun c17 => ?_) (fun c17 => ?_)
                · skip
                  refine lv_iload_n hx hb (dkP dF_29 DX12_casing (i := 68) rfl rfl) rfl (lv_at hl 5 rfl) ?_
                  refine lv_iconst (v := 3) hx hb (dkP dF_6 DX12_casing (i := 69) rfl rfl) (by decide) ?_
                  refine lv_icmp_ne (tgt := 139) hx hb (dkS dF_160 DX12_casing (i := 70) rfl rfl rfl) (by decide) (fun c18 => ?_) (fun c18 => ?_)
                  · (try simp (disch := omega) only [ta_lt, ta_le, ta_eq, tnI, tl32 3 (by decide)] at c18)
                    refine lv_aload_n hx hb (dkP dF_42 DX12_casing (i := 78) rfl rfl) rfl (lv_at hl 2 rfl) ?_
                    refine z_gr C0 hw 0 1 1 rfl fl_X12_20 (dk2 dF_180 DX12_casing (i := 79) rfl rfl rfl) ?_
                    refine lv_iload hx hb (dk1 dF_21 DX12_casing (i := 80) rfl rfl rfl) (lv_at hl 0 rfl) ?_
                    refine z_ialdN (n := 414128) C0 hw 1 (387880 + 10 * (8 * (40 * pn + cn) + jn)) rfl (by omega) (by decide) (dkP dF_46 DX12_casing (i := 81) rfl rfl) ?_
                    obtain ⟨n19, hn19, en19⟩ := rngN (x := σ.1 1 (387880 + 10 * (8 * (40 * pn + cn) + jn))) (h := 7) (wTy_f (by omega) (by omega) (by omega) (hT 1 _))
                    refine z_top (y := nI n19) en19 ?_
                    exact z_iret C0 hr hlk hw rfl (dkP dF_172 DX12_casing (i := 82) rfl rfl)
                  · (try simp (disch := omega) only [ta_lt, ta_le, ta_eq, tnI, tl32 3 (by decide)] at c18)
                    refine lv_aload_n hx hb (dkP dF_42 DX12_casing (i := 71) rfl rfl) rfl (lv_at hl 2 rfl) ?_
                    refine z_gr C0 hw 0 1 1 rfl fl_X12_20 (dk2 dF_180 DX12_casing (i := 72) rfl rfl rfl) ?_
                    refine lv_iload hx hb (dk1 dF_21 DX12_casing (i := 73) rfl rfl rfl) (lv_at hl 0 rfl) ?_
                    refine lv_bipush (v := 9) hx hb (dks dF_16 DX12_casing (i := 74) rfl rfl rfl) (by decide) ?_
                    refine lv_iadd hx hb (dkP dF_96 DX12_casing (i := 75) rfl rfl) ?_
                    refine z_top (y := nI ((387880 + 10 * (8 * (40 * pn + cn) + jn)) + 9)) (by simp only [fa_lit, nI_add, pk_mul]) ?_
                    refine z_ialdN (n := 414128) C0 hw 1 ((387880 + 10 * (8 * (40 * pn + cn) + jn)) + 9) rfl (by omega) (by decide) (dkP dF_46 DX12_casing (i := 76) rfl rfl) ?_
                    obtain ⟨v20, ev20⟩ : ∃ y : Int32, σ.1 1 ((387880 + 10 * (8 * (40 * pn + cn) + jn)) + 9) = y := ⟨_, rfl⟩
                    refine z_top (y := v20) ev20 ?_
                    refine lv_goto (tgt := 146) hx hb (dkS dF_167 DX12_casing (i := 77) rfl rfl rfl) (by decide) ?_
                    exact z_iret C0 hr hlk hw rfl (dkP dF_172 DX12_casing (i := 82) rfl rfl)
                · skip
                  refine lv_aload_n hx hb (dkP dF_42 DX12_casing (i := 59) rfl rfl) rfl (lv_at hl 2 rfl) ?_
                  refine z_gr C0 hw 0 1 1 rfl fl_X12_20 (dk2 dF_180 DX12_casing (i := 60) rfl rfl rfl) ?_
                  refine lv_iload hx hb (dk1 dF_21 DX12_casing (i := 61) rfl rfl rfl) (lv_at hl 0 rfl) ?_
                  refine lv_iconst (v := 1) hx hb (dkP dF_4 DX12_casing (i := 62) rfl rfl) (by decide) ?_
                  refine lv_iadd hx hb (dkP dF_96 DX12_casing (i := 63) rfl rfl) ?_
                  refine z_top (y := nI ((387880 + 10 * (8 * (40 * pn + cn) + jn)) + 1)) (by simp only [fa_lit, nI_add, pk_mul]) ?_
                  refine lv_iload hx hb (dk1 dF_21 DX12_casing (i := 64) rfl rfl rfl) (lv_at hl 7 rfl) ?_
                  refine lv_iadd hx hb (dkP dF_96 DX12_casing (i := 65) rfl rfl) ?_
                  refine z_top (y := nI (((387880 + 10 * (8 * (40 * pn + cn) + jn)) + 1) + k_ia)) (by simp only [fa_lit, nI_add, pk_mul]) ?_
                  refine z_ialdN (n := 414128) C0 hw 1 (((387880 + 10 * (8 * (40 * pn + cn) + jn)) + 1) + k_ia) rfl (by omega) (by decide) (dkP dF_46 DX12_casing (i := 66) rfl rfl) ?_
                  obtain ⟨v21, ev21⟩ : ∃ y : Int32, σ.1 1 (((387880 + 10 * (8 * (40 * pn + cn) + jn)) + 1) + k_ia) = y := ⟨_, rfl⟩
                  refine z_top (y := v21) ev21 ?_
                  refine lv_goto (tgt := 146) hx hb (dkS dF_167 DX12_casing (i := 67) rfl rfl rfl) (by decide) ?_
                  exact z_iret C0 hr hlk hw rfl (dkP dF_172 DX12_casing (i := 82) rfl rfl)
              · skip
                (try simp (disch := omega) only [ta_lt, ta_le, ta_eq, tb_lt, tb_le, tb_eq, tw, tnI, tn32 1 (by decide), tnj 1 (by decide), tl32 0 (by decide), tl64 0 (by decide), tl32 1 (by decide), tl64 1 (by decide), tl32 2 (by decide), tl64 2 (by decide), tl32 3 (by decide), tl64 3 (by decide), tl32 4 (by decide), tl64 4 (by decide), tl32 9 (by decide), tl64 9 (by decide)] at hc15)
                refine lv_if_ne (tgt := 92) hx hb (dkS dF_154 DX12_casing (i := 48) rfl rfl rfl) (by decide) (fun h => absurd h (by decide)) (fun _ => ?_)
                refine lv_ldcw hx hb hown (hts _ kn_X12_413) (dk2 dF_19 DX12_casing (i := 49) rfl rfl rfl) ?_
                exact z_iret C0 hr hlk hw rfl (dkP dF_172 DX12_casing (i := 50) rfl rfl)
          · skip
            (try simp (disch := omega) only [ta_lt, ta_le, ta_eq, tb_lt, tb_le, tb_eq, tw, tnI, tn32 2000000000 (by decide), tnj 2000000000 (by decide), tn32 1 (by decide), tnj 1 (by decide), tl32 0 (by decide), tl64 0 (by decide), tl32 1 (by decide), tl64 1 (by decide), tl32 2 (by decide), tl64 2 (by decide), tl32 3 (by decide), tl64 3 (by decide), tl32 4 (by decide), tl64 4 (by decide), tl32 9 (by decide), tl64 9 (by decide)] at hc8)
            refine lv_if_eq (tgt := 88) hx hb (dkS dF_153 DX12_casing (i := 42) rfl rfl rfl) (by decide) (fun _ => ?_) (fun h => absurd h (by decide))
            refine lv_ldcw hx hb hown (hts _ kn_X12_413) (dk2 dF_19 DX12_casing (i := 49) rfl rfl rfl) ?_
            exact z_iret C0 hr hlk hw rfl (dkP dF_172 DX12_casing (i := 50) rfl rfl)
        · skip
          (try simp (disch := omega) only [ta_lt, ta_le, ta_eq, tb_lt, tb_le, tb_eq, tw, tnI, tn32 2000000000 (by decide), tnj 2000000000 (by decide), tn32 1 (by decide), tnj 1 (by decide), tl32 0 (by decide), tl64 0 (by decide), tl32 1 (by decide), tl64 1 (by decide), tl32 2 (by decide), tl64 2 (by decide), tl32 3 (by decide), tl64 3 (by decide), tl32 4 (by decide), tl64 4 (by decide), tl32 9 (by decide), tl64 9 (by decide)] at hc6)
          refine lv_if_eq (tgt := 88) hx hb (dkS dF_153 DX12_casing (i := 28) rfl rfl rfl) (by decide) (fun _ => ?_) (fun h => absurd h (by decide))
          refine lv_ldcw hx hb hown (hts _ kn_X12_413) (dk2 dF_19 DX12_casing (i := 49) rfl rfl rfl) ?_
          exact z_iret C0 hr hlk hw rfl (dkP dF_172 DX12_casing (i := 50) rfl rfl)
      · (try simp (disch := omega) only [ta_lt, ta_le, ta_eq, tnI, tl32 1 (by decide)] at c5)
        obtain ⟨wh, hwh, rfl⟩ := to_nat (x := what) (n := 2) (by (try simp only [lg_cmp_lt, lg_cmp_le, lg_cmp_gt, lg_cmp_ge, lg_cmp_eq] at f1_0); (try simp (disch := omega) only [ta_lt, ta_le, ta_eq, tb_lt, tb_le, tb_eq, tw, tnI, tsub1, tsv, tn32 2000000000 (by decide), tnj 2000000000 (by decide), tn32 1 (by decide), tnj 1 (by decide), tl32 0 (by decide), tl64 0 (by decide), tl32 1 (by decide), tl64 1 (by decide), tl32 2 (by decide), tl64 2 (by decide), tl32 3 (by decide), tl64 3 (by decide), tl32 4 (by decide), tl64 4 (by decide), tl32 9 (by decide), tl64 9 (by decide)] at f1_0); (try simp only [lg_cmp_lt, lg_cmp_le, lg_cmp_gt, lg_cmp_ge, lg_cmp_eq] at hc1); (try simp (disch := omega) only [ta_lt, ta_le, ta_eq, tb_lt, tb_le, tb_eq, tw, tnI, tsub1, tsv, tn32 2000000000 (by decide), tnj 2000000000 (by decide), tn32 1 (by decide), tnj 1 (by decide), tl32 0 (by decide), tl64 0 (by decide), tl32 1 (by decide), tl64 1 (by decide), tl32 2 (by decide), tl64 2 (by decide), tl32 3 (by decide), tl64 3 (by decide), tl32 4 (by decide), tl64 4 (by decide), tl32 9 (by decide), tl64 9 (by decide)] at hc1); (try simp only [lg_cmp_lt, lg_cmp_le, lg_cmp_gt, lg_cmp_ge, lg_cmp_eq] at c3); (try simp (disch := omega) only [ta_lt, ta_le, ta_eq, tb_lt, tb_le, tb_eq, tw, tnI, tsub1, tsv, tn32 2000000000 (by decide), tnj 2000000000 (by decide), tn32 1 (by decide), tnj 1 (by decide), tl32 0 (by decide), tl64 0 (by decide), tl32 1 (by decide), tl64 1 (by decide), tl32 2 (by decide), tl64 2 (by decide), tl32 3 (by decide), tl64 3 (by decide), tl32 4 (by decide), tl64 4 (by decide), tl32 9 (by decide), tl64 9 (by decide)] at c3); (try simp only [lg_cmp_lt, lg_cmp_le, lg_cmp_gt, lg_cmp_ge, lg_cmp_eq] at c5); (try simp (disch := omega) only [ta_lt, ta_le, ta_eq, tb_lt, tb_le, tb_eq, tw, tnI, tsub1, tsv, tn32 2000000000 (by decide), tnj 2000000000 (by decide), tn32 1 (by decide), tnj 1 (by decide), tl32 0 (by decide), tl64 0 (by decide), tl32 1 (by decide), tl64 1 (by decide), tl32 2 (by decide), tl64 2 (by decide), tl32 3 (by decide), tl64 3 (by decide), tl32 4 (by decide), tl64 4 (by decide), tl32 9 (by decide), tl64 9 (by decide)] at c5); (try simp (disch := omega) only [ta_lt, ta_le, ta_eq, tb_lt, tb_le, tb_eq, tw, tnI, tsub1, tsv, tn32 2000000000 (by decide), tnj 2000000000 (by decide), tn32 1 (by decide), tnj 1 (by decide), tl32 0 (by decide), tl64 0 (by decide), tl32 1 (by decide), tl64 1 (by decide), tl32 2 (by decide), tl64 2 (by decide), tl32 3 (by decide), tl64 3 (by decide), tl32 4 (by decide), tl64 4 (by decide), tl32 9 (by decide), tl64 9 (by decide)]); omega)
        refine lv_aload_n hx hb (dkP dF_42 DX12_casing (i := 16) rfl rfl) rfl (lv_at hl 1 rfl) ?_
        refine z_gr C0 hw 0 1 1 rfl fl_X12_20 (dk2 dF_180 DX12_casing (i := 17) rfl rfl rfl) ?_
        refine lv_iload hx hb (dk1 dF_21 DX12_casing (i := 18) rfl rfl rfl) (lv_at hl 0 rfl) ?_
        refine lv_iload_n hx hb (dkP dF_29 DX12_casing (i := 19) rfl rfl) rfl (lv_at hl 4 rfl) ?_
        refine lv_iadd hx hb (dkP dF_96 DX12_casing (i := 20) rfl rfl) ?_
        refine z_top (y := nI ((3240 + 2 * (40 * pn + cn)) + wh)) (by simp only [fa_lit, nI_add, pk_mul]) ?_
        refine z_ialdN (n := 414128) C0 hw 1 ((3240 + 2 * (40 * pn + cn)) + wh) rfl (by omega) (by decide) (dkP dF_46 DX12_casing (i := 21) rfl rfl) ?_
        obtain ⟨v22, ev22⟩ : ∃ y : Int32, σ.1 1 ((3240 + 2 * (40 * pn + cn)) + wh) = y := ⟨_, rfl⟩
        refine z_top (y := v22) ev22 ?_
        exact z_iret C0 hr hlk hw rfl (dkP dF_172 DX12_casing (i := 22) rfl rfl)
  · skip
    refine lv_if_ne (tgt := 13) hx hb (dkS dF_154 DX12_casing (i := 4) rfl rfl rfl) (by decide) (fun h => absurd h (by decide)) (fun _ => ?_)
    refine lv_ldcw hx hb hown (hts _ kn_X12_413) (dk2 dF_19 DX12_casing (i := 5) rfl rfl rfl) ?_
    exact z_iret C0 hr hlk hw rfl (dkP dF_172 DX12_casing (i := 6) rfl rfl)
set_option maxRecDepth 100000 in
set_option maxHeartbeats 8000000 in
theorem c_X12_hasBoth (l : Launch) (G : va_G) (kc : KC) (ad : Nat → Nat) (σ : Sg) (pg : Int32) (hT : TM σ) : MI l G kc yX12_hasBoth cX12_hasBoth 2 (some .boolean) 2 45 [.ref (ad 0), .int pg] shM ad σ (fun r σ1 => ((r = 1 ∧ (0 ≤ pg.toInt ∧ pg.toInt ≤ 7)) ∨ (r = 0 ∧ (True))) ∧ σ1 = σ) := by
  intro sz
  refine z_body (y := yX12_hasBoth) (n := 2) (av := [.ref (ad 0), .int pg]) (Qc := fun A => va_Qi (fun r σ1 => ((r = 1 ∧ (0 ≤ pg.toInt ∧ pg.toInt ≤ 7)) ∨ (r = 0 ∧ (True))) ∧ σ1 = σ) (PoC G kc shM ad A) A) (plainFor_of_name (by decide)) (Nat.le_of_ble_eq_true rfl) (fun pr e s m below meth c A C0 hr hlk hnm hw hRo ls hl => ?_) sz
  have hx := C0.1
  have hb := C0.2.1
  have hown := C0.2.2.2.1
  have hts := C0.2.2.2.2.1
  have hl : lv_has ls 2 [(0, .ref (ad 0)), (1, .int pg)] := hl
  refine lv_iload_n hx hb (dkP dF_27 DX12_hasBoth (i := 0) rfl rfl) rfl (lv_at hl 1 rfl) ?_
  refine zn_I hw (zr_S (As := [.int pg]) (rest := []) C0 (c_X12_isProgram l G kc pg  _) cs_X12_isProgram lk_X12_272 (zp_P C0 hRo hw a00 s00) rfl hl.1 rfl ⟨by decide, by decide⟩ (Nat.le_of_ble_eq_true rfl) (dk2 dF_184 DX12_hasBoth (i := 1) rfl rfl rfl) ⟨Nat.le_refl _, Nat.le_refl _⟩) (fun r1 s1 H locs hp hw => ?_)
  rcases hp with ⟨rfl, hc1⟩ | ⟨rfl, hc1⟩
  · skip
    (try simp (disch := omega) only [ta_lt, ta_le, ta_eq, tb_lt, tb_le, tb_eq, tw, tnI, tn32 1 (by decide), tnj 1 (by decide), tl32 0 (by decide), tl64 0 (by decide)] at hc1)
    obtain ⟨k_pg, hk_pg, rfl⟩ := to_nat (x := pg) (n := 8) (by (try simp only [lg_cmp_lt, lg_cmp_le, lg_cmp_gt, lg_cmp_ge, lg_cmp_eq] at hc1); (try simp (disch := omega) only [ta_lt, ta_le, ta_eq, tb_lt, tb_le, tb_eq, tw, tnI, tn32 1 (by decide), tnj 1 (by decide), tl32 0 (by decide), tl64 0 (by decide)] at hc1); (try simp (disch := omega) only [ta_lt, ta_le, ta_eq, tb_lt, tb_le, tb_eq, tw, tnI, tn32 1 (by decide), tnj 1 (by decide), tl32 0 (by decide), tl64 0 (by decide)]); omega)
    refine lv_if_eq (tgt := 27) hx hb (dkS dF_153 DX12_hasBoth (i := 2) rfl rfl rfl) (by decide) (fun h => absurd h (by decide)) (fun _ => ?_)
    refine lv_aload_n hx hb (dkP dF_42 DX12_hasBoth (i := 3) rfl rfl) rfl (lv_at hl 0 rfl) ?_
    refine lv_iload_n hx hb (dkP dF_27 DX12_hasBoth (i := 4) rfl rfl) rfl (lv_at hl 1 rfl) ?_
    refine zk_I hw (zr_V (As := [.int (nI k_pg)]) (rest := []) C0 (c_X12_hasOld l G kc ad σ k_pg (by first | omega | assumption | decide | rfl) _) cv_X12_hasOld lk_X12_366 (zp_V C0 hRo hw 0 rfl rfl rfl) rfl hl.1 rfl ⟨by decide, by decide⟩ (Nat.le_of_ble_eq_true rfl) (dk2 dF_182 DX12_hasBoth (i := 5) rfl rfl rfl) ⟨Nat.le_refl _, Nat.le_refl _⟩) (fun r2 s2 H locs hp hw => ?_)
    obtain ⟨hq2, hs2⟩ := hp
    (rw [hs2] at hw; clear hs2)
    rcases hq2 with ⟨rfl, hc2⟩ | ⟨rfl, hc2⟩
    · skip
      refine lv_if_eq (tgt := 27) hx hb (dkS dF_153 DX12_hasBoth (i := 6) rfl rfl rfl) (by decide) (fun h => absurd h (by decide)) (fun _ => ?_)
      refine lv_aload_n hx hb (dkP dF_42 DX12_hasBoth (i := 7) rfl rfl) rfl (lv_at hl 0 rfl) ?_
      refine lv_iload_n hx hb (dkP dF_27 DX12_hasBoth (i := 8) rfl rfl) rfl (lv_at hl 1 rfl) ?_
      refine zk_I hw (zr_V (As := [.int (nI k_pg)]) (rest := []) C0 (c_X12_hasNew l G kc ad σ k_pg (by first | omega | assumption | decide | rfl) _) cv_X12_hasNew lk_X12_378 (zp_V C0 hRo hw 0 rfl rfl rfl) rfl hl.1 rfl ⟨by decide, by decide⟩ (Nat.le_of_ble_eq_true rfl) (dk2 dF_182 DX12_hasBoth (i := 9) rfl rfl rfl) ⟨Nat.le_refl _, Nat.le_refl _⟩) (fun r3 s3 H locs hp hw => ?_)
      obtain ⟨hq3, hs3⟩ := hp
      (rw [hs3] at hw; clear hs3)
      rcases hq3 with ⟨rfl, hc3⟩ | ⟨rfl, hc3⟩
      · skip
        refine lv_if_eq (tgt := 27) hx hb (dkS dF_153 DX12_hasBoth (i := 10) rfl rfl rfl) (by decide) (fun h => absurd h (by decide)) (fun _ => ?_)
        refine lv_iconst (v := 1) hx hb (dkP dF_4 DX12_hasBoth (i := 11) rfl rfl) (by decide) ?_
        refine lv_goto (tgt := 28) hx hb (dkS dF_167 DX12_hasBoth (i := 12) rfl rfl rfl) (by decide) ?_
        exact z_zret C0 hr hlk (by decide) hw (⟨(Or.inl ⟨rfl, (by (try simp only [lg_cmp_lt, lg_cmp_le, lg_cmp_gt, lg_cmp_ge, lg_cmp_eq] at hc1); (try simp (disch := omega) only [ta_lt, ta_le, ta_eq, tb_lt, tb_le, tb_eq, tw, tnI, tsub1, tsv, tn32 1 (by decide), tnj 1 (by decide), tl32 0 (by decide), tl64 0 (by decide), tl32 1 (by decide), tl64 1 (by decide)] at hc1); (try simp only [lg_cmp_lt, lg_cmp_le, lg_cmp_gt, lg_cmp_ge, lg_cmp_eq] at hc2); (try simp (disch := omega) only [ta_lt, ta_le, ta_eq, tb_lt, tb_le, tb_eq, tw, tnI, tsub1, tsv, tn32 1 (by decide), tnj 1 (by decide), tl32 0 (by decide), tl64 0 (by decide), tl32 1 (by decide), tl64 1 (by decide)] at hc2); (try simp only [lg_cmp_lt, lg_cmp_le, lg_cmp_gt, lg_cmp_ge, lg_cmp_eq] at hc3); (try simp (disch := omega) only [ta_lt, ta_le, ta_eq, tb_lt, tb_le, tb_eq, tw, tnI, tsub1, tsv, tn32 1 (by decide), tnj 1 (by decide), tl32 0 (by decide), tl64 0 (by decide), tl32 1 (by decide), tl64 1 (by decide)] at hc3); (try simp (disch := omega) only [ta_lt, ta_le, ta_eq, tb_lt, tb_le, tb_eq, tw, tnI, tsub1, tsv, tn32 1 (by decide), tnj 1 (by decide), tl32 0 (by decide), tl64 0 (by decide), tl32 1 (by decide), tl64 1 (by decide)]); omega)⟩), rfl⟩) (dkP dF_172 DX12_hasBoth (i := 14) rfl rfl)
      · skip
        refine lv_if_eq (tgt := 27) hx hb (dkS dF_153 DX12_hasBoth (i := 10) rfl rfl rfl) (by decide) (fun _ => ?_) (fun h => absurd h (by decide))
        refine lv_iconst (v := 0) hx hb (dkP dF_3 DX12_hasBoth (i := 13) rfl rfl) (by decide) ?_
        exact z_zret C0 hr hlk (by decide) hw (⟨(Or.inr ⟨rfl, trivial⟩), rfl⟩) (dkP dF_172 DX12_hasBoth (i := 14) rfl rfl)
    · skip
      refine lv_if_eq (tgt := 27) hx hb (dkS dF_153 DX12_hasBoth (i := 6) rfl rfl rfl) (by decide) (fun _ => ?_) (fun h => absurd h (by decide))
      refine lv_iconst (v := 0) hx hb (dkP dF_3 DX12_hasBoth (i := 13) rfl rfl) (by decide) ?_
      exact z_zret C0 hr hlk (by decide) hw (⟨(Or.inr ⟨rfl, trivial⟩), rfl⟩) (dkP dF_172 DX12_hasBoth (i := 14) rfl rfl)
  · skip
    (try simp (disch := omega) only [ta_lt, ta_le, ta_eq, tb_lt, tb_le, tb_eq, tw, tnI, tn32 1 (by decide), tnj 1 (by decide), tl32 0 (by decide), tl64 0 (by decide), tl32 1 (by decide), tl64 1 (by decide)] at hc1)
    refine lv_if_eq (tgt := 27) hx hb (dkS dF_153 DX12_hasBoth (i := 2) rfl rfl rfl) (by decide) (fun _ => ?_) (fun h => absurd h (by decide))
    refine lv_iconst (v := 0) hx hb (dkP dF_3 DX12_hasBoth (i := 13) rfl rfl) (by decide) ?_
    exact z_zret C0 hr hlk (by decide) hw (⟨(Or.inr ⟨rfl, trivial⟩), rfl⟩) (dkP dF_172 DX12_hasBoth (i := 14) rfl rfl)
