set_option maxRecDepth 100000 in
set_option maxHeartbeats 8000000 in
theorem c_X12_begun (l : Launch) (G : va_G) (kc : KC) (ad : Nat → Nat) (σ : Sg) (pg : Nat) (cases : Nat) (hp8 : pg < 8) (hc40 : cases ≤ 40) (hT : TM σ) : MV l G kc yX12_begun cX12_begun 3 1 20 [.ref (ad 0), .int (nI pg), .int (nI cases)] shM ad σ (fun σ1 => TM σ1 ∧ fr true [1] [] σ σ1) := by
  intro sz
  refine z_body (y := yX12_begun) (n := 3) (av := [.ref (ad 0), .int (nI pg), .int (nI cases)]) (Qc := fun A => va_Qv (fun σ1 => TM σ1 ∧ fr true [1] [] σ σ1) (PoC G kc shM ad A) A) (plainFor_of_name (by decide)) (Nat.le_of_ble_eq_true rfl) (fun pr e s m below meth c A C0 hr hlk hnm hw hRo ls hl => ?_) sz
  have hx := C0.1
  have hb := C0.2.1
  have hown := C0.2.2.2.1
  have hts := C0.2.2.2.2.1
  have hl : lv_has ls 3 [(0, .ref (ad 0)), (1, .int (nI pg)), (2, .int (nI cases))] := hl
  refine lv_aload_n hx hb (dkP dF_42 DX12_begun (i := 0) rfl rfl) rfl (lv_at hl 0 rfl) ?_
  refine z_gr C0 hw 0 1 1 rfl fl_X12_20 (dk2 dF_180 DX12_begun (i := 1) rfl rfl rfl) ?_
  refine lv_iload_n hx hb (dkP dF_27 DX12_begun (i := 2) rfl rfl) rfl (lv_at hl 1 rfl) ?_
  refine zn_I hw (zr_S (As := [.int (nI pg)]) (rest := [.ref (ad 1)]) C0 (c_X12_of l G kc pg  _) cs_X12_of lk_X12_139 (zp_P C0 hRo hw a00 s00) rfl hl.1 rfl ⟨by decide, by decide⟩ (Nat.le_of_ble_eq_true rfl) (dk2 dF_184 DX12_begun (i := 3) rfl rfl rfl) ⟨Nat.le_refl _, Nat.le_refl _⟩) (fun r1 s1 H locs hp hw => ?_)
  subst hp
  refine lv_iconst (v := 1) hx hb (dkP dF_4 DX12_begun (i := 4) rfl rfl) (by decide) ?_
  refine z_iastN (n := 414128) C0 hw 1 (8 + 20 * pg) rfl (by omega) (by decide) (dkP dF_79 DX12_begun (i := 5) rfl rfl) (fun H locs hw => ?_)
  have hT2 : TM (sI σ 1 (8 + 20 * pg) 1) := TM.w hT (by simp only [tyM, wTy]; (repeat' split) <;> first | trivial | omega | (simp (disch := omega) only [tnI, tn32 1 (by decide), tl32 0 (by decide), tl32 1 (by decide)]; omega))
  have hF2 : fr true [1] [] σ (sI σ 1 (8 + 20 * pg) 1) := fr.w fr.refl (Or.inl ⟨by decide, by decide⟩) (fun _ _ => by unfold KR; omega)
  refine lv_aload_n hx hb (dkP dF_42 DX12_begun (i := 6) rfl rfl) rfl (lv_at hl 0 rfl) ?_
  refine z_gr C0 hw 0 1 1 rfl fl_X12_20 (dk2 dF_180 DX12_begun (i := 7) rfl rfl rfl) ?_
  refine lv_iload_n hx hb (dkP dF_27 DX12_begun (i := 8) rfl rfl) rfl (lv_at hl 1 rfl) ?_
  refine zn_I hw (zr_S (As := [.int (nI pg)]) (rest := [.ref (ad 1)]) C0 (c_X12_of l G kc pg  _) cs_X12_of lk_X12_139 (zp_P C0 hRo hw a00 s00) rfl hl.1 rfl ⟨by decide, by decide⟩ (Nat.le_of_ble_eq_true rfl) (dk2 dF_184 DX12_begun (i := 9) rfl rfl rfl) ⟨Nat.le_refl _, Nat.le_refl _⟩) (fun r3 s3 H locs hp hw => ?_)
  subst hp
  refine lv_iconst (v := 2) hx hb (dkP dF_5 DX12_begun (i := 10) rfl rfl) (by decide) ?_
  refine lv_iadd hx hb (dkP dF_96 DX12_begun (i := 11) rfl rfl) ?_
  refine z_top (y := nI ((8 + 20 * pg) + 2)) (by simp only [fa_lit, nI_add, pk_mul]) ?_
  refine lv_iload_n hx hb (dkP dF_28 DX12_begun (i := 12) rfl rfl) rfl (lv_at hl 2 rfl) ?_
  refine z_iastN (n := 414128) C0 hw 1 ((8 + 20 * pg) + 2) rfl (by omega) (by decide) (dkP dF_79 DX12_begun (i := 13) rfl rfl) (fun H locs hw => ?_)
  have hT4 : TM (sI (sI σ 1 (8 + 20 * pg) 1) 1 ((8 + 20 * pg) + 2) (nI cases)) := TM.w hT2 (by simp only [tyM, wTy]; (repeat' split) <;> first | trivial | omega | (simp (disch := omega) only [tnI, tn32 1 (by decide), tl32 0 (by decide), tl32 1 (by decide), tl32 2 (by decide)]; omega))
  have hF4 : fr true [1] [] σ (sI (sI σ 1 (8 + 20 * pg) 1) 1 ((8 + 20 * pg) + 2) (nI cases)) := fr.w hF2 (Or.inl ⟨by decide, by decide⟩) (fun _ _ => by unfold KR; omega)
  refine lv_aload_n hx hb (dkP dF_42 DX12_begun (i := 14) rfl rfl) rfl (lv_at hl 0 rfl) ?_
  refine z_gr C0 hw 0 1 1 rfl fl_X12_20 (dk2 dF_180 DX12_begun (i := 15) rfl rfl rfl) ?_
  refine lv_iload_n hx hb (dkP dF_27 DX12_begun (i := 16) rfl rfl) rfl (lv_at hl 1 rfl) ?_
  refine zn_I hw (zr_S (As := [.int (nI pg)]) (rest := [.ref (ad 1)]) C0 (c_X12_of l G kc pg  _) cs_X12_of lk_X12_139 (zp_P C0 hRo hw a00 s00) rfl hl.1 rfl ⟨by decide, by decide⟩ (Nat.le_of_ble_eq_true rfl) (dk2 dF_184 DX12_begun (i := 17) rfl rfl rfl) ⟨Nat.le_refl _, Nat.le_refl _⟩) (fun r5 s5 H locs hp hw => ?_)
  subst hp
  refine lv_iconst (v := 3) hx hb (dkP dF_6 DX12_begun (i := 18) rfl rfl) (by decide) ?_
  refine lv_iadd hx hb (dkP dF_96 DX12_begun (i := 19) rfl rfl) ?_
  refine z_top (y := nI ((8 + 20 * pg) + 3)) (by simp only [fa_lit, nI_add, pk_mul]) ?_
  refine lv_iconst (v := (-1)) hx hb (dkP dF_2 DX12_begun (i := 20) rfl rfl) (by decide) ?_
  refine z_iastN (n := 414128) C0 hw 1 ((8 + 20 * pg) + 3) rfl (by omega) (by decide) (dkP dF_79 DX12_begun (i := 21) rfl rfl) (fun H locs hw => ?_)
  have hT6 : TM (sI (sI (sI σ 1 (8 + 20 * pg) 1) 1 ((8 + 20 * pg) + 2) (nI cases)) 1 ((8 + 20 * pg) + 3) (-1)) := TM.w hT4 (by simp only [tyM, wTy]; (repeat' split) <;> first | trivial | omega | (simp (disch := omega) only [tnI, tn32 1 (by decide), tl32 0 (by decide), tl32 1 (by decide), tl32 2 (by decide), tl32 3 (by decide)]; omega))
  have hF6 : fr true [1] [] σ (sI (sI (sI σ 1 (8 + 20 * pg) 1) 1 ((8 + 20 * pg) + 2) (nI cases)) 1 ((8 + 20 * pg) + 3) (-1)) := fr.w hF4 (Or.inl ⟨by decide, by decide⟩) (fun _ _ => by unfold KR; omega)
  exact z_vret C0 hr hlk hw (⟨hT6, hF6⟩) (dkP dF_177 DX12_begun (i := 22) rfl rfl)
set_option maxRecDepth 100000 in
set_option maxHeartbeats 8000000 in
theorem c_X12_renew (l : Launch) (G : va_G) (kc : KC) (ad : Nat → Nat) (σ : Sg) (program : Int32) (hT : TM σ) : MI l G kc yX12_renew cX12_renew 4 (some .int) 7 161 [.ref (ad 0), .int program] shM ad σ (fun r σ1 => TM σ1 ∧ fr true [1, 6, 8, 9, 10] [5, 7, 8, 9, 10, 11, 12, 13, 19] σ σ1) := by
  intro sz
  refine z_body (y := yX12_renew) (n := 4) (av := [.ref (ad 0), .int program]) (Qc := fun A => va_Qi (fun r σ1 => TM σ1 ∧ fr true [1, 6, 8, 9, 10] [5, 7, 8, 9, 10, 11, 12, 13, 19] σ σ1) (PoC G kc shM ad A) A) (plainFor_of_name (by decide)) (Nat.le_of_ble_eq_true rfl) (fun pr e s m below meth c A C0 hr hlk hnm hw hRo ls hl => ?_) sz
  have hx := C0.1
  have hb := C0.2.1
  have hown := C0.2.2.2.1
  have hts := C0.2.2.2.2.1
  have hl : lv_has ls 4 [(0, .ref (ad 0)), (1, .int program)] := hl
  refine lv_iload_n hx hb (dkP dF_27 DX12_renew (i := 0) rfl rfl) rfl (lv_at hl 1 rfl) ?_
  refine zn_I hw (zr_S (As := [.int program]) (rest := []) C0 (c_X12_isProgram l G kc program  _) cs_X12_isProgram lk_X12_272 (zp_P C0 hRo hw a00 s00) rfl hl.1 rfl ⟨by decide, by decide⟩ (Nat.le_of_ble_eq_true rfl) (dk2 dF_184 DX12_renew (i := 1) rfl rfl rfl) ⟨Nat.le_refl _, Nat.le_refl _⟩) (fun r1 s1 H locs hp hw => ?_)
  rcases hp with ⟨rfl, hc1⟩ | ⟨rfl, hc1⟩
  · skip
    (try simp (disch := omega) only [ta_lt, ta_le, ta_eq, tb_lt, tb_le, tb_eq, tw, tnI, tn32 1 (by decide), tnj 1 (by decide), tl32 0 (by decide), tl64 0 (by decide)] at hc1)
    obtain ⟨k_program, hk_program, rfl⟩ := to_nat (x := program) (n := 8) (by (try simp only [lg_cmp_lt, lg_cmp_le, lg_cmp_gt, lg_cmp_ge, lg_cmp_eq] at hc1); (try simp (disch := omega) only [ta_lt, ta_le, ta_eq, tb_lt, tb_le, tb_eq, tw, tnI, tn32 1 (by decide), tnj 1 (by decide), tl32 0 (by decide), tl64 0 (by decide)] at hc1); (try simp (disch := omega) only [ta_lt, ta_le, ta_eq, tb_lt, tb_le, tb_eq, tw, tnI, tn32 1 (by decide), tnj 1 (by decide), tl32 0 (by decide), tl64 0 (by decide)]); omega)
    refine lv_if_eq (tgt := 16) hx hb (dkS dF_153 DX12_renew (i := 2) rfl rfl rfl) (by decide) (fun h => absurd h (by decide)) (fun _ => ?_)
    refine lv_aload_n hx hb (dkP dF_42 DX12_renew (i := 3) rfl rfl) rfl (lv_at hl 0 rfl) ?_
    refine lv_iload_n hx hb (dkP dF_27 DX12_renew (i := 4) rfl rfl) rfl (lv_at hl 1 rfl) ?_
    refine zk_I hw (zr_V (As := [.int (nI k_program)]) (rest := []) C0 (c_X12_stateOf l G kc ad σ k_program (by first | omega | assumption | decide | rfl) _) cv_X12_stateOf lk_X12_275 (zp_V C0 hRo hw 0 rfl rfl rfl) rfl hl.1 rfl ⟨by decide, by decide⟩ (Nat.le_of_ble_eq_true rfl) (dk2 dF_182 DX12_renew (i := 5) rfl rfl rfl) ⟨Nat.le_refl _, Nat.le_refl _⟩) (fun r2 s2 H locs hp hw => ?_)
    obtain ⟨rfl, hs2⟩ := hp
    (rw [hs2] at hw; clear hs2)
    obtain ⟨v3, ev3⟩ : ∃ y : Int32, σ.1 1 (8 + 20 * k_program) = y := ⟨_, rfl⟩
    refine z_top (y := v3) ev3 ?_
    refine lv_iconst (v := 1) hx hb (dkP dF_4 DX12_renew (i := 6) rfl rfl) (by decide) ?_
    refine lv_icmp_le (tgt := 19) hx hb (dkS dF_164 DX12_renew (i := 7) rfl rfl rfl) (by decide) (fun c4 => ?_) (fun c4 => ?_)
    · (try simp (disch := omega) only [ta_lt, ta_le, ta_eq, tnI, tl32 1 (by decide)] at c4)
      refine lv_aload_n hx hb (dkP dF_42 DX12_renew (i := 10) rfl rfl) rfl (lv_at hl 0 rfl) ?_
      refine zk_V hw (zr_V (As := []) (rest := []) C0 (c_X12_begins l G kc ad σ hT _) cv_X12_begins lk_X12_278 (zp_V C0 hRo hw 0 rfl rfl rfl) rfl hl.1 rfl ⟨by decide, by decide⟩ (Nat.le_of_ble_eq_true rfl) (dk2 dF_182 DX12_renew (i := 11) rfl rfl rfl) ⟨Nat.le_refl _, Nat.le_refl _⟩) (fun s5 H locs hp hw => ?_)
      obtain ⟨hT5, hG5⟩ := hp
      have hF5 : fr true [1, 6, 8, 9, 10] [5, 7, 8, 9, 10, 11, 12, 13, 19] σ s5 := fr.t fr.refl hG5 (by decide) (by decide) (by decide)
      refine lv_aload_n hx hb (dkP dF_42 DX12_renew (i := 12) rfl rfl) rfl (lv_at hl 0 rfl) ?_
      refine lv_iconst (v := 0) hx hb (dkP dF_3 DX12_renew (i := 13) rfl rfl) (by decide) ?_
      refine z_pz C0 hw 0 19 (by decide) rfl fp_X12_295 (dk2 dF_181 DX12_renew (i := 14) rfl rfl rfl) (fun H locs hw => ?_)
      have hT6 : TM (sI s5 0 19 0) := TM.w hT5 (show 0 ≤ _ ∧ _ ≤ 1 from by (try simp only [lg_cmp_lt, lg_cmp_le, lg_cmp_gt, lg_cmp_ge, lg_cmp_eq] at hc1); (try simp (disch := omega) only [ta_lt, ta_le, ta_eq, tb_lt, tb_le, tb_eq, tw, tnI, tsub1, tsv, tn32 1 (by decide), tnj 1 (by decide), tl32 0 (by decide), tl64 0 (by decide), tl32 1 (by decide), tl64 1 (by decide)] at hc1); (try simp only [lg_cmp_lt, lg_cmp_le, lg_cmp_gt, lg_cmp_ge, lg_cmp_eq] at c4); (try simp (disch := omega) only [ta_lt, ta_le, ta_eq, tb_lt, tb_le, tb_eq, tw, tnI, tsub1, tsv, tn32 1 (by decide), tnj 1 (by decide), tl32 0 (by decide), tl64 0 (by decide), tl32 1 (by decide), tl64 1 (by decide)] at c4); (try simp (disch := omega) only [ta_lt, ta_le, ta_eq, tb_lt, tb_le, tb_eq, tw, tnI, tsub1, tsv, tn32 1 (by decide), tnj 1 (by decide), tl32 0 (by decide), tl64 0 (by decide), tl32 1 (by decide), tl64 1 (by decide)]); omega)
      have hF6 : fr true [1, 6, 8, 9, 10] [5, 7, 8, 9, 10, 11, 12, 13, 19] σ (sI s5 0 19 0) := fr.w hF5 (Or.inr ⟨rfl, by decide⟩) (fun _ h => absurd h (by decide))
      refine lv_iconst (v := 0) hx hb (dkP dF_3 DX12_renew (i := 15) rfl rfl) (by decide) ?_
      refine lv_istore_n (lv' := [(2, .int 0), (0, .ref (ad 0)), (1, .int (nI k_program))]) hx hb (dkP dF_61 DX12_renew (i := 16) rfl rfl) rfl hl (by decide) rfl (fun ls hl => ?_)
      have lp8 : ∀ (nq : Nat) (q2_30 : Nat) (τ7 : Sg) (H : Heap) (locs : List Loc) (ls : Array Slot), 14 - q2_30 < nq → (q2_30 ≤ 13) → (q2_30 = 13 → ¬ τ7.1 0 12 = 0) → (TM τ7) → (fr true [1, 6, 8, 9, 10] [5, 7, 8, 9, 10, 11, 12, 13, 19] σ τ7) → St G kc A s.heap shM ad τ7 H locs → lv_has ls 4 [(2, .int (nI q2_30)), (0, .ref (ad 0)), (1, .int (nI k_program))] → W pr l e { frames := 7, cells := 0, slots := 0, locals := 161 } s m ([.ref (ad 0), .int (nI k_program)] : List Value).toArray below meth c H locs 0 0 (MQ below (va_Qi (fun r σ1 => TM σ1 ∧ fr true [1, 6, 8, 9, 10] [5, 7, 8, 9, 10, 11, 12, 13, 19] σ σ1) (PoC G kc shM ad A) A) ([.ref (ad 0), .int (nI k_program)] : List Value).toArray s 0 0 A) (F0 m 30 ls []) := by
        intro nq
        induction nq with
        | zero => intro q2_30 τ7 H locs ls hmu; exact absurd hmu (Nat.not_lt_zero _)
        | succ nq ih8 =>
          intro q2_30 τ7 H locs ls hmu hq2_30 h13 hT_τ7 hF_τ7 hw hl
          refine lv_aload_n hx hb (dkP dF_42 DX12_renew (i := 17) rfl rfl) rfl (lv_at hl 1 rfl) ?_
          refine zk_I hw (zr_V (As := []) (rest := []) C0 (c_X12_good l G kc ad τ7  _) cv_X12_good lk_X12_190 (zp_V C0 hRo hw 0 rfl rfl rfl) rfl hl.1 rfl ⟨by decide, by decide⟩ (Nat.le_of_ble_eq_true rfl) (dk2 dF_182 DX12_renew (i := 18) rfl rfl rfl) ⟨Nat.le_refl _, Nat.le_refl _⟩) (fun r9 s9 H locs hp hw => ?_)
          obtain ⟨hq9, hs9⟩ := hp
          (rw [hs9] at hw; clear hs9)
          rcases hq9 with ⟨rfl, hc9⟩ | ⟨rfl, hc9⟩
          · skip
            refine lv_if_eq (tgt := 55) hx hb (dkS dF_153 DX12_renew (i := 19) rfl rfl rfl) (by decide) (fun h => absurd h (by decide)) (fun _ => ?_)
            refine lv_aload_n hx hb (dkP dF_42 DX12_renew (i := 20) rfl rfl) rfl (lv_at hl 1 rfl) ?_
            refine z_gi C0 hw 0 10 rfl fl_X12_162 (dk2 dF_180 DX12_renew (i := 21) rfl rfl rfl) ?_
            obtain ⟨v10, ev10⟩ : ∃ y : Int32, τ7.1 0 10 = y := ⟨_, rfl⟩
            refine z_top (y := v10) ev10 ?_
            refine lv_if_eq (tgt := 55) hx hb (dkS dF_153 DX12_renew (i := 22) rfl rfl rfl) (by decide) (fun c11 => ?_) (fun c11 => ?_)
            · (try simp (disch := omega) only [ta_lt, ta_le, ta_eq, tnI, tl32 0 (by decide)] at c11)
              refine lv_aload_n hx hb (dkP dF_42 DX12_renew (i := 28) rfl rfl) rfl (lv_at hl 1 rfl) ?_
              refine zk_I hw (zr_V (As := []) (rest := []) C0 (c_X12_good l G kc ad τ7  _) cv_X12_good lk_X12_190 (zp_V C0 hRo hw 0 rfl rfl rfl) rfl hl.1 rfl ⟨by decide, by decide⟩ (Nat.le_of_ble_eq_true rfl) (dk2 dF_182 DX12_renew (i := 29) rfl rfl rfl) ⟨Nat.le_refl _, Nat.le_refl _⟩) (fun r12 s12 H locs hp hw => ?_)
              obtain ⟨hq12, hs12⟩ := hp
              (rw [hs12] at hw; clear hs12)
              rcases hq12 with ⟨rfl, hc12⟩ | ⟨rfl, hc12⟩
              · skip
                refine lv_if_ne (tgt := 65) hx hb (dkS dF_154 DX12_renew (i := 30) rfl rfl rfl) (by decide) (fun _ => ?_) (fun h => absurd h (by decide))
                have hq12 : q2_30 ≤ 12 := by have h : q2_30 ≠ 13 := fun h => h13 h hc12; omega
                refine lv_iconst (v := 0) hx hb (dkP dF_3 DX12_renew (i := 33) rfl rfl) (by decide) ?_
                refine lv_istore_n (lv' := [(3, .int 0), (2, .int (nI q2_30)), (0, .ref (ad 0)), (1, .int (nI k_program))]) hx hb (dkP dF_62 DX12_renew (i := 34) rfl rfl) rfl hl (by decide) rfl (fun ls hl => ?_)
                have lp14 : ∀ (nq : Nat) (q3_67 : Nat) (τ13 : Sg) (H : Heap) (locs : List Loc) (ls : Array Slot), 2147483647 - q3_67 < nq → (q3_67 ≤ 2147483647) → (TM τ13) → (fr true [1, 6, 8, 9, 10] [5, 7, 8, 9, 10, 11, 12, 13, 19] σ τ13) → St G kc A s.heap shM ad τ13 H locs → lv_has ls 4 [(3, .int (nI q3_67)), (2, .int (nI q2_30)), (0, .ref (ad 0)), (1, .int (nI k_program))] → W pr l e { frames := 7, cells := 0, slots := 0, locals := 161 } s m ([.ref (ad 0), .int (nI k_program)] : List Value).toArray below meth c H locs 0 0 (MQ below (va_Qi (fun r σ1 => TM σ1 ∧ fr true [1, 6, 8, 9, 10] [5, 7, 8, 9, 10, 11, 12, 13, 19] σ σ1) (PoC G kc shM ad A) A) ([.ref (ad 0), .int (nI k_program)] : List Value).toArray s 0 0 A) (F0 m 67 ls []) := by
                  intro nq
                  induction nq with
                  | zero => intro q3_67 τ13 H locs ls hmu; exact absurd hmu (Nat.not_lt_zero _)
                  | succ nq ih14 =>
                    intro q3_67 τ13 H locs ls hmu hq3_67 hT_τ13 hF_τ13 hw hl
                    refine lv_iload_n hx hb (dkP dF_29 DX12_renew (i := 35) rfl rfl) rfl (lv_at hl 0 rfl) ?_
                    refine lv_iload_n hx hb (dkP dF_28 DX12_renew (i := 36) rfl rfl) rfl (lv_at hl 1 rfl) ?_
                    refine lv_icmp_ge (tgt := 164) hx hb (dkS dF_162 DX12_renew (i := 37) rfl rfl rfl) (by decide) (fun c15 => ?_) (fun c15 => ?_)
                    · simp (disch := omega) only [ta_lt, ta_le, ta_eq, tnI] at c15
                      refine lv_aload_n hx hb (dkP dF_42 DX12_renew (i := 94) rfl rfl) rfl (lv_at hl 2 rfl) ?_
                      refine lv_iload_n hx hb (dkP dF_27 DX12_renew (i := 95) rfl rfl) rfl (lv_at hl 3 rfl) ?_
                      refine lv_iload_n hx hb (dkP dF_28 DX12_renew (i := 96) rfl rfl) rfl (lv_at hl 1 rfl) ?_
                      refine zk_V hw (zr_V (As := [.int (nI k_program), .int (nI q2_30)]) (rest := []) C0 (c_X12_begun l G kc ad τ13 k_program q2_30 (by first | omega | assumption | decide | rfl) (by first | omega | assumption | decide | rfl) hT_τ13 _) cv_X12_begun lk_X12_320 (zp_V C0 hRo hw 0 rfl rfl rfl) rfl hl.1 rfl ⟨by decide, by decide⟩ (Nat.le_of_ble_eq_true rfl) (dk2 dF_182 DX12_renew (i := 97) rfl rfl rfl) ⟨Nat.le_refl _, Nat.le_refl _⟩) (fun s16 H locs hp hw => ?_)
                      obtain ⟨hT16, hG16⟩ := hp
                      have hF16 : fr true [1, 6, 8, 9, 10] [5, 7, 8, 9, 10, 11, 12, 13, 19] σ s16 := fr.t hF_τ13 hG16 (by decide) (by decide) (by decide)
                      refine lv_iload_n hx hb (dkP dF_28 DX12_renew (i := 98) rfl rfl) rfl (lv_at hl 1 rfl) ?_
                      exact z_iret C0 hr hlk hw (⟨hT16, hF16⟩) (dkP dF_172 DX12_renew (i := 99) rfl rfl)
                    · simp (disch := omega) only [ta_lt, ta_le, ta_eq, tnI] at c15
                      refine lv_aload_n hx hb (dkP dF_42 DX12_renew (i := 38) rfl rfl) rfl (lv_at hl 2 rfl) ?_
                      refine z_gr C0 hw 0 16 8 rfl fl_X12_48 (dk2 dF_180 DX12_renew (i := 39) rfl rfl rfl) ?_
                      refine lv_iconst (v := 2) hx hb (dkP dF_5 DX12_renew (i := 40) rfl rfl) (by decide) ?_
                      refine lv_iload_n hx hb (dkP dF_29 DX12_renew (i := 41) rfl rfl) rfl (lv_at hl 0 rfl) ?_
                      refine lv_imul hx hb (dkP dF_104 DX12_renew (i := 42) rfl rfl) ?_
                      refine z_top (y := nI (2 * q3_67)) (by simp only [fa_lit, nI_add, pk_mul]) ?_
                      refine lv_aload_n hx hb (dkP dF_42 DX12_renew (i := 43) rfl rfl) rfl (lv_at hl 2 rfl) ?_
                      refine z_gr C0 hw 0 1 1 rfl fl_X12_20 (dk2 dF_180 DX12_renew (i := 44) rfl rfl rfl) ?_
                      refine lv_iload_n hx hb (dkP dF_27 DX12_renew (i := 45) rfl rfl) rfl (lv_at hl 3 rfl) ?_
                      refine lv_iload_n hx hb (dkP dF_29 DX12_renew (i := 46) rfl rfl) rfl (lv_at hl 0 rfl) ?_
                      refine zn_I hw (zr_S (As := [.int (nI k_program), .int (nI q3_67)]) (rest := [.ref (ad 1), .int (nI (2 * q3_67)), .ref (ad 8)]) C0 (c_X12_caseAt l G kc k_program q3_67  _) cs_X12_caseAt lk_X12_310 (zp_P C0 hRo hw a00 s00) rfl hl.1 rfl ⟨by decide, by decide⟩ (Nat.le_of_ble_eq_true rfl) (dk2 dF_184 DX12_renew (i := 47) rfl rfl rfl) ⟨Nat.le_refl _, Nat.le_refl _⟩) (fun r17 s17 H locs hp hw => ?_)
                      subst hp
                      refine lv_iconst (v := 2) hx hb (dkP dF_5 DX12_renew (i := 48) rfl rfl) (by decide) ?_
                      refine zk_V hw (zr_S (As := [.ref (ad 8), .int (nI (2 * q3_67)), .ref (ad 1), .int (nI (3240 + 2 * (40 * k_program + q3_67))), .int 2]) (rest := []) C0 (c_X12_lays_8_1 l G kc ad τ13 (2 * q3_67) (3240 + 2 * (40 * k_program + q3_67)) 2 (by omega) (by omega) (fun i hi v h => ty_cw (by omega) (by omega) hi h) (fun i hi => by unfold KR; omega) hT_τ13 _) cs_X12_lays lk_X12_255 (zp_S C0 hRo hw) rfl hl.1 rfl ⟨by decide, by decide⟩ (Nat.le_of_ble_eq_true rfl) (dk2 dF_184 DX12_renew (i := 49) rfl rfl rfl) ⟨Nat.le_refl _, Nat.le_refl _⟩) (fun s18 H locs hp hw => ?_)
                      obtain ⟨f18_0, hT18, hG18⟩ := hp
                      have hF18 : fr true [1, 6, 8, 9, 10] [5, 7, 8, 9, 10, 11, 12, 13, 19] σ s18 := fr.t hF_τ13 hG18 (by decide) (by decide) (by decide)
                      refine lv_aload_n hx hb (dkP dF_42 DX12_renew (i := 50) rfl rfl) rfl (lv_at hl 2 rfl) ?_
                      refine z_gr C0 hw 0 17 9 rfl fl_X12_51 (dk2 dF_180 DX12_renew (i := 51) rfl rfl rfl) ?_
                      refine lv_bipush (v := 48) hx hb (dks dF_16 DX12_renew (i := 52) rfl rfl rfl) (by decide) ?_
                      refine lv_iload_n hx hb (dkP dF_29 DX12_renew (i := 53) rfl rfl) rfl (lv_at hl 0 rfl) ?_
                      refine lv_imul hx hb (dkP dF_104 DX12_renew (i := 54) rfl rfl) ?_
                      refine z_top (y := nI (48 * q3_67)) (by simp only [fa_lit, nI_add, pk_mul]) ?_
                      refine lv_aload_n hx hb (dkP dF_42 DX12_renew (i := 55) rfl rfl) rfl (lv_at hl 2 rfl) ?_
                      refine z_gr C0 hw 0 1 1 rfl fl_X12_20 (dk2 dF_180 DX12_renew (i := 56) rfl rfl rfl) ?_
                      refine lv_iload_n hx hb (dkP dF_27 DX12_renew (i := 57) rfl rfl) rfl (lv_at hl 3 rfl) ?_
                      refine lv_iload_n hx hb (dkP dF_29 DX12_renew (i := 58) rfl rfl) rfl (lv_at hl 0 rfl) ?_
                      refine lv_iconst (v := 0) hx hb (dkP dF_3 DX12_renew (i := 59) rfl rfl) (by decide) ?_
                      refine zn_I hw (zr_S (As := [.int (nI k_program), .int (nI q3_67), .int 0]) (rest := [.ref (ad 1), .int (nI (48 * q3_67)), .ref (ad 9)]) C0 (c_X12_testAt l G kc k_program q3_67 0  _) cs_X12_testAt lk_X12_313 (zp_P C0 hRo hw a00 s00) rfl hl.1 rfl ⟨by decide, by decide⟩ (Nat.le_of_ble_eq_true rfl) (dk2 dF_184 DX12_renew (i := 60) rfl rfl rfl) ⟨Nat.le_refl _, Nat.le_refl _⟩) (fun r19 s19 H locs hp hw => ?_)
                      subst hp
                      refine lv_bipush (v := 12) hx hb (dks dF_16 DX12_renew (i := 61) rfl rfl rfl) (by decide) ?_
                      refine lv_aload_n hx hb (dkP dF_42 DX12_renew (i := 62) rfl rfl) rfl (lv_at hl 2 rfl) ?_
                      refine z_gr C0 hw 0 16 8 rfl fl_X12_48 (dk2 dF_180 DX12_renew (i := 63) rfl rfl rfl) ?_
                      refine lv_iconst (v := 2) hx hb (dkP dF_5 DX12_renew (i := 64) rfl rfl) (by decide) ?_
                      refine lv_iload_n hx hb (dkP dF_29 DX12_renew (i := 65) rfl rfl) rfl (lv_at hl 0 rfl) ?_
                      refine lv_imul hx hb (dkP dF_104 DX12_renew (i := 66) rfl rfl) ?_
                      refine z_top (y := nI (2 * q3_67)) (by simp only [fa_lit, nI_add, pk_mul]) ?_
                      refine z_ialdN (n := 24) C0 hw 8 (2 * q3_67) rfl (by omega) (by decide) (dkP dF_46 DX12_renew (i := 67) rfl rfl) ?_
                      obtain ⟨n20, hn20, en20⟩ := rngN (x := s18.1 8 (2 * q3_67)) (h := 4) (ty_fc0 (by omega) (hT18 8 _))
                      refine z_top (y := nI n20) en20 ?_
                      refine lv_imul hx hb (dkP dF_104 DX12_renew (i := 68) rfl rfl) ?_
                      refine z_top (y := nI (12 * n20)) (by simp only [fa_lit, nI_add, pk_mul]) ?_
                      refine zk_V hw (zr_S (As := [.ref (ad 9), .int (nI (48 * q3_67)), .ref (ad 1), .int (nI (3880 + 12 * (100 * (40 * k_program + q3_67) + 0))), .int (nI (12 * n20))]) (rest := []) C0 (c_X12_lays_9_1 l G kc ad s18 (48 * q3_67) (3880 + 12 * (100 * (40 * k_program + q3_67) + 0)) (12 * n20) (by omega) (by omega) (fun i hi v h => ty_tw (by omega) (by omega)) (fun i hi => by unfold KR; omega) hT18 _) cs_X12_lays lk_X12_255 (zp_S C0 hRo hw) rfl hl.1 rfl ⟨by decide, by decide⟩ (Nat.le_of_ble_eq_true rfl) (dk2 dF_184 DX12_renew (i := 69) rfl rfl rfl) ⟨Nat.le_refl _, Nat.le_refl _⟩) (fun s21 H locs hp hw => ?_)
                      obtain ⟨f21_0, hT21, hG21⟩ := hp
                      have hF21 : fr true [1, 6, 8, 9, 10] [5, 7, 8, 9, 10, 11, 12, 13, 19] σ s21 := fr.t hF18 hG21 (by decide) (by decide) (by decide)
                      refine lv_aload_n hx hb (dkP dF_42 DX12_renew (i := 70) rfl rfl) rfl (lv_at hl 2 rfl) ?_
                      refine z_gr C0 hw 0 18 10 rfl fl_X12_54 (dk2 dF_180 DX12_renew (i := 71) rfl rfl rfl) ?_
                      refine lv_bipush (v := 80) hx hb (dks dF_16 DX12_renew (i := 72) rfl rfl rfl) (by decide) ?_
                      refine lv_iload_n hx hb (dkP dF_29 DX12_renew (i := 73) rfl rfl) rfl (lv_at hl 0 rfl) ?_
                      refine lv_imul hx hb (dkP dF_104 DX12_renew (i := 74) rfl rfl) ?_
                      refine z_top (y := nI (80 * q3_67)) (by simp only [fa_lit, nI_add, pk_mul]) ?_
                      refine lv_aload_n hx hb (dkP dF_42 DX12_renew (i := 75) rfl rfl) rfl (lv_at hl 2 rfl) ?_
                      refine z_gr C0 hw 0 1 1 rfl fl_X12_20 (dk2 dF_180 DX12_renew (i := 76) rfl rfl rfl) ?_
                      refine lv_iload_n hx hb (dkP dF_27 DX12_renew (i := 77) rfl rfl) rfl (lv_at hl 3 rfl) ?_
                      refine lv_iload_n hx hb (dkP dF_29 DX12_renew (i := 78) rfl rfl) rfl (lv_at hl 0 rfl) ?_
                      refine lv_iconst (v := 0) hx hb (dkP dF_3 DX12_renew (i := 79) rfl rfl) (by decide) ?_
                      refine zn_I hw (zr_S (As := [.int (nI k_program), .int (nI q3_67), .int 0]) (rest := [.ref (ad 1), .int (nI (80 * q3_67)), .ref (ad 10)]) C0 (c_X12_putAt l G kc k_program q3_67 0  _) cs_X12_putAt lk_X12_317 (zp_P C0 hRo hw a00 s00) rfl hl.1 rfl ⟨by decide, by decide⟩ (Nat.le_of_ble_eq_true rfl) (dk2 dF_184 DX12_renew (i := 80) rfl rfl rfl) ⟨Nat.le_refl _, Nat.le_refl _⟩) (fun r22 s22 H locs hp hw => ?_)
                      subst hp
                      refine lv_bipush (v := 10) hx hb (dks dF_16 DX12_renew (i := 81) rfl rfl rfl) (by decide) ?_
                      refine lv_aload_n hx hb (dkP dF_42 DX12_renew (i := 82) rfl rfl) rfl (lv_at hl 2 rfl) ?_
                      refine z_gr C0 hw 0 16 8 rfl fl_X12_48 (dk2 dF_180 DX12_renew (i := 83) rfl rfl rfl) ?_
                      refine lv_iconst (v := 2) hx hb (dkP dF_5 DX12_renew (i := 84) rfl rfl) (by decide) ?_
                      refine lv_iload_n hx hb (dkP dF_29 DX12_renew (i := 85) rfl rfl) rfl (lv_at hl 0 rfl) ?_
                      refine lv_imul hx hb (dkP dF_104 DX12_renew (i := 86) rfl rfl) ?_
                      refine z_top (y := nI (2 * q3_67)) (by simp only [fa_lit, nI_add, pk_mul]) ?_
                      refine lv_iconst (v := 1) hx hb (dkP dF_4 DX12_renew (i := 87) rfl rfl) (by decide) ?_
                      refine lv_iadd hx hb (dkP dF_96 DX12_renew (i := 88) rfl rfl) ?_
                      refine z_top (y := nI ((2 * q3_67) + 1)) (by simp only [fa_lit, nI_add, pk_mul]) ?_
                      refine z_ialdN (n := 24) C0 hw 8 ((2 * q3_67) + 1) rfl (by omega) (by decide) (dkP dF_46 DX12_renew (i := 89) rfl rfl) ?_
                      obtain ⟨n23, hn23, en23⟩ := rngN (x := s21.1 8 ((2 * q3_67) + 1)) (h := 8) (ty_fc1 (by omega) (hT21 8 _))
                      refine z_top (y := nI n23) en23 ?_
                      refine lv_imul hx hb (dkP dF_104 DX12_renew (i := 90) rfl rfl) ?_
                      refine z_top (y := nI (10 * n23)) (by simp only [fa_lit, nI_add, pk_mul]) ?_
                      refine zk_V hw (zr_S (As := [.ref (ad 10), .int (nI (80 * q3_67)), .ref (ad 1), .int (nI (387880 + 10 * (8 * (40 * k_program + q3_67) + 0))), .int (nI (10 * n23))]) (rest := []) C0 (c_X12_lays_10_1 l G kc ad s21 (80 * q3_67) (387880 + 10 * (8 * (40 * k_program + q3_67) + 0)) (10 * n23) (by omega) (by omega) (fun i hi v h => ty_pw (by omega) (by omega) (by omega) h) (fun i hi => by unfold KR; omega) hT21 _) cs_X12_lays lk_X12_255 (zp_S C0 hRo hw) rfl hl.1 rfl ⟨by decide, by decide⟩ (Nat.le_of_ble_eq_true rfl) (dk2 dF_184 DX12_renew (i := 91) rfl rfl rfl) ⟨Nat.le_refl _, Nat.le_refl _⟩) (fun s24 H locs hp hw => ?_)
                      obtain ⟨f24_0, hT24, hG24⟩ := hp
                      have hF24 : fr true [1, 6, 8, 9, 10] [5, 7, 8, 9, 10, 11, 12, 13, 19] σ s24 := fr.t hF21 hG24 (by decide) (by decide) (by decide)
                      refine lv_iinc (v := nI (q3_67 + 1)) (lv' := [(3, .int (nI (q3_67 + 1))), (2, .int (nI q2_30)), (0, .ref (ad 0)), (1, .int (nI k_program))]) hx hb (dkI DX12_renew (i := 92) rfl rfl rfl rfl) hl (k := 0) rfl (nI_1 _) (by decide) rfl (fun ls hl => ?_)
                      refine lv_goto (tgt := 67) hx hb (dkS dF_167 DX12_renew (i := 93) rfl rfl rfl) (by decide) ?_
                      exact ih14 (q3_67 + 1) s24 _ _ _ (by omega) (by (try simp only [lg_cmp_lt, lg_cmp_le, lg_cmp_gt, lg_cmp_ge, lg_cmp_eq] at hc1); (try simp (disch := omega) only [ta_lt, ta_le, ta_eq, tb_lt, tb_le, tb_eq, tw, tnI, tsub1, tsv, tn32 1 (by decide), tnj 1 (by decide), tl32 0 (by decide), tl64 0 (by decide), tl32 1 (by decide), tl64 1 (by decide), tl32 2 (by decide), tl64 2 (by decide), tl32 10 (by decide), tl64 10 (by decide), tl32 12 (by decide), tl64 12 (by decide), tl32 48 (by decide), tl64 48 (by decide), tl32 80 (by decide), tl64 80 (by decide)] at hc1); (try simp only [lg_cmp_lt, lg_cmp_le, lg_cmp_gt, lg_cmp_ge, lg_cmp_eq] at c4); (try simp (disch := omega) only [ta_lt, ta_le, ta_eq, tb_lt, tb_le, tb_eq, tw, tnI, tsub1, tsv, tn32 1 (by decide), tnj 1 (by decide), tl32 0 (by decide), tl64 0 (by decide), tl32 1 (by decide), tl64 1 (by decide), tl32 2 (by decide), tl64 2 (by decide), tl32 10 (by decide), tl64 10 (by decide), tl32 12 (by decide), tl64 12 (by decide), tl32 48 (by decide), tl64 48 (by decide), tl32 80 (by decide), tl64 80 (by decide)] at c4); (try simp only [lg_cmp_lt, lg_cmp_le, lg_cmp_gt, lg_cmp_ge, lg_cmp_eq] at hc9); (try simp (disch := omega) only [ta_lt, ta_le, ta_eq, tb_lt, tb_le, tb_eq, tw, tnI, tsub1, tsv, tn32 1 (by decide), tnj 1 (by decide), tl32 0 (by decide), tl64 0 (by decide), tl32 1 (by decide), tl64 1 (by decide), tl32 2 (by decide), tl64 2 (by decide), tl32 10 (by decide), tl64 10 (by decide), tl32 12 (by decide), tl64 12 (by decide), tl32 48 (by decide), tl64 48 (by decide), tl32 80 (by decide), tl64 80 (by decide)] at hc9); (try simp only [lg_cmp_lt, lg_cmp_le, lg_cmp_gt, lg_cmp_ge, lg_cmp_eq] at c11); (try simp (disch := omega) only [ta_lt, ta_le, ta_eq, tb_lt, tb_le, tb_eq, tw, tnI, tsub1, tsv, tn32 1 (by decide), tnj 1 (by decide), tl32 0 (by decide), tl64 0 (by decide), tl32 1 (by decide), tl64 1 (by decide), tl32 2 (by decide), tl64 2 (by decide), tl32 10 (by decide), tl64 10 (by decide), tl32 12 (by decide), tl64 12 (by decide), tl32 48 (by decide), tl64 48 (by decide), tl32 80 (by decide), tl64 80 (by decide)] at c11); (try simp only [lg_cmp_lt, lg_cmp_le, lg_cmp_gt, lg_cmp_ge, lg_cmp_eq] at hc12); (try simp (disch := omega) only [ta_lt, ta_le, ta_eq, tb_lt, tb_le, tb_eq, tw, tnI, tsub1, tsv, tn32 1 (by decide), tnj 1 (by decide), tl32 0 (by decide), tl64 0 (by decide), tl32 1 (by decide), tl64 1 (by decide), tl32 2 (by decide), tl64 2 (by decide), tl32 10 (by decide), tl64 10 (by decide), tl32 12 (by decide), tl64 12 (by decide), tl32 48 (by decide), tl64 48 (by decide), tl32 80 (by decide), tl64 80 (by decide)] at hc12); (try simp only [lg_cmp_lt, lg_cmp_le, lg_cmp_gt, lg_cmp_ge, lg_cmp_eq] at c15); (try simp (disch := omega) only [ta_lt, ta_le, ta_eq, tb_lt, tb_le, tb_eq, tw, tnI, tsub1, tsv, tn32 1 (by decide), tnj 1 (by decide), tl32 0 (by decide), tl64 0 (by decide), tl32 1 (by decide), tl64 1 (by decide), tl32 2 (by decide), tl64 2 (by decide), tl32 10 (by decide), tl64 10 (by decide), tl32 12 (by decide), tl64 12 (by decide), tl32 48 (by decide), tl64 48 (by decide), tl32 80 (by decide), tl64 80 (by decide)] at c15); (try simp only [lg_cmp_lt, lg_cmp_le, lg_cmp_gt, lg_cmp_ge, lg_cmp_eq] at f18_0); (try simp (disch := omega) only [ta_lt, ta_le, ta_eq, tb_lt, tb_le, tb_eq, tw, tnI, tsub1, tsv, tn32 1 (by decide), tnj 1 (by decide), tl32 0 (by decide), tl64 0 (by decide), tl32 1 (by decide), tl64 1 (by decide), tl32 2 (by decide), tl64 2 (by decide), tl32 10 (by decide), tl64 10 (by decide), tl32 12 (by decide), tl64 12 (by decide), tl32 48 (by decide), tl64 48 (by decide), tl32 80 (by decide), tl64 80 (by decide)] at f18_0); (try simp only [lg_cmp_lt, lg_cmp_le, lg_cmp_gt, lg_cmp_ge, lg_cmp_eq] at f21_0); (try simp (disch := omega) only [ta_lt, ta_le, ta_eq, tb_lt, tb_le, tb_eq, tw, tnI, tsub1, tsv, tn32 1 (by decide), tnj 1 (by decide), tl32 0 (by decide), tl64 0 (by decide), tl32 1 (by decide), tl64 1 (by decide), tl32 2 (by decide), tl64 2 (by decide), tl32 10 (by decide), tl64 10 (by decide), tl32 12 (by decide), tl64 12 (by decide), tl32 48 (by decide), tl64 48 (by decide), tl32 80 (by decide), tl64 80 (by decide)] at f21_0); (try simp only [lg_cmp_lt, lg_cmp_le, lg_cmp_gt, lg_cmp_ge, lg_cmp_eq] at f24_0); (try simp (disch := omega) only [ta_lt, ta_le, ta_eq, tb_lt, tb_le, tb_eq, tw, tnI, tsub1, tsv, tn32 1 (by decide), tnj 1 (by decide), tl32 0 (by decide), tl64 0 (by decide), tl32 1 (by decide), tl64 1 (by decide), tl32 2 (by decide), tl64 2 (by decide), tl32 10 (by decide), tl64 10 (by decide), tl32 12 (by decide), tl64 12 (by decide), tl32 48 (by decide), tl64 48 (by decide), tl32 80 (by decide), tl64 80 (by decide)] at f24_0); (try simp (disch := omega) only [ta_lt, ta_le, ta_eq, tb_lt, tb_le, tb_eq, tw, tnI, tsub1, tsv, tn32 1 (by decide), tnj 1 (by decide), tl32 0 (by decide), tl64 0 (by decide), tl32 1 (by decide), tl64 1 (by decide), tl32 2 (by decide), tl64 2 (by decide), tl32 10 (by decide), tl64 10 (by decide), tl32 12 (by decide), tl64 12 (by decide), tl32 48 (by decide), tl64 48 (by decide), tl32 80 (by decide), tl64 80 (by decide)]); omega) hT24 hF24 hw (lv_sub hl [0, 1, 2, 3] rfl)
                exact lp14 _ 0 τ7 _ _ _ (Nat.lt_succ_self _) (by (try simp only [lg_cmp_lt, lg_cmp_le, lg_cmp_gt, lg_cmp_ge, lg_cmp_eq] at hc1); (try simp (disch := omega) only [ta_lt, ta_le, ta_eq, tb_lt, tb_le, tb_eq, tw, tnI, tsub1, tsv, tn32 1 (by decide), tnj 1 (by decide), tl32 0 (by decide), tl64 0 (by decide), tl32 1 (by decide), tl64 1 (by decide), tl32 2 (by decide), tl64 2 (by decide), tl32 10 (by decide), tl64 10 (by decide), tl32 12 (by decide), tl64 12 (by decide), tl32 48 (by decide), tl64 48 (by decide), tl32 80 (by decide), tl64 80 (by decide)] at hc1); (try simp only [lg_cmp_lt, lg_cmp_le, lg_cmp_gt, lg_cmp_ge, lg_cmp_eq] at c4); (try simp (disch := omega) only [ta_lt, ta_le, ta_eq, tb_lt, tb_le, tb_eq, tw, tnI, tsub1, tsv, tn32 1 (by decide), tnj 1 (by decide), tl32 0 (by decide), tl64 0 (by decide), tl32 1 (by decide), tl64 1 (by decide), tl32 2 (by decide), tl64 2 (by decide), tl32 10 (by decide), tl64 10 (by decide), tl32 12 (by decide), tl64 12 (by decide), tl32 48 (by decide), tl64 48 (by decide), tl32 80 (by decide), tl64 80 (by decide)] at c4); (try simp only [lg_cmp_lt, lg_cmp_le, lg_cmp_gt, lg_cmp_ge, lg_cmp_eq] at hc9); (try simp (disch := omega) only [ta_lt, ta_le, ta_eq, tb_lt, tb_le, tb_eq, tw, tnI, tsub1, tsv, tn32 1 (by decide), tnj 1 (by decide), tl32 0 (by decide), tl64 0 (by decide), tl32 1 (by decide), tl64 1 (by decide), tl32 2 (by decide), tl64 2 (by decide), tl32 10 (by decide), tl64 10 (by decide), tl32 12 (by decide), tl64 12 (by decide), tl32 48 (by decide), tl64 48 (by decide), tl32 80 (by decide), tl64 80 (by decide)] at hc9); (try simp only [lg_cmp_lt, lg_cmp_le, lg_cmp_gt, lg_cmp_ge, lg_cmp_eq] at c11); (try simp (disch := omega) only [ta_lt, ta_le, ta_eq, tb_lt, tb_le, tb_eq, tw, tnI, tsub1, tsv, tn32 1 (by decide), tnj 1 (by decide), tl32 0 (by decide), tl64 0 (by decide), tl32 1 (by decide), tl64 1 (by decide), tl32 2 (by decide), tl64 2 (by decide), tl32 10 (by decide), tl64 10 (by decide), tl32 12 (by decide), tl64 12 (by decide), tl32 48 (by decide), tl64 48 (by decide), tl32 80 (by decide), tl64 80 (by decide)] at c11); (try simp only [lg_cmp_lt, lg_cmp_le, lg_cmp_gt, lg_cmp_ge, lg_cmp_eq] at hc12); (try simp (disch := omega) only [ta_lt, ta_le, ta_eq, tb_lt, tb_le, tb_eq, tw, tnI, tsub1, tsv, tn32 1 (by decide), tnj 1 (by decide), tl32 0 (by decide), tl64 0 (by decide), tl32 1 (by decide), tl64 1 (by decide), tl32 2 (by decide), tl64 2 (by decide), tl32 10 (by decide), tl64 10 (by decide), tl32 12 (by decide), tl64 12 (by decide), tl32 48 (by decide), tl64 48 (by decide), tl32 80 (by decide), tl64 80 (by decide)] at hc12); (try simp (disch := omega) only [ta_lt, ta_le, ta_eq, tb_lt, tb_le, tb_eq, tw, tnI, tsub1, tsv, tn32 1 (by decide), tnj 1 (by decide), tl32 0 (by decide), tl64 0 (by decide), tl32 1 (by decide), tl64 1 (by decide), tl32 2 (by decide), tl64 2 (by decide), tl32 10 (by decide), tl64 10 (by decide), tl32 12 (by decide), tl64 12 (by decide), tl32 48 (by decide), tl64 48 (by decide), tl32 80 (by decide), tl64 80 (by decide)]); omega) hT_τ7 hF_τ7 hw (lv_sub hl [0, 1, 2, 3] rfl)
              · skip
                refine lv_if_ne (tgt := 65) hx hb (dkS dF_154 DX12_renew (i := 30) rfl rfl rfl) (by decide) (fun h => absurd h (by decide)) (fun _ => ?_)
                refine lv_bipush (v := (-4)) hx hb (dks dF_16 DX12_renew (i := 31) rfl rfl rfl) (by decide) ?_
                exact z_iret C0 hr hlk hw (⟨hT_τ7, hF_τ7⟩) (dkP dF_172 DX12_renew (i := 32) rfl rfl)
            · (try simp (disch := omega) only [ta_lt, ta_le, ta_eq, tnI, tl32 0 (by decide)] at c11)
              have hq12 : q2_30 ≤ 12 := by have h : q2_30 ≠ 13 := fun h => h13 h hc9; omega
              refine lv_aload_n hx hb (dkP dF_42 DX12_renew (i := 23) rfl rfl) rfl (lv_at hl 1 rfl) ?_
              refine lv_iload_n hx hb (dkP dF_28 DX12_renew (i := 24) rfl rfl) rfl (lv_at hl 0 rfl) ?_
              refine zk_V hw (zr_V (As := [.int (nI q2_30)]) (rest := []) C0 (c_X12_readCase l G kc ad τ7 q2_30 (by first | omega | assumption | decide | rfl) hT_τ7 _) cv_X12_readCase lk_X12_307 (zp_V C0 hRo hw 0 rfl rfl rfl) rfl hl.1 rfl ⟨by decide, by decide⟩ (Nat.le_of_ble_eq_true rfl) (dk2 dF_182 DX12_renew (i := 25) rfl rfl rfl) ⟨Nat.le_refl _, Nat.le_refl _⟩) (fun s25 H locs hp hw => ?_)
              obtain ⟨f25_0, hT25, hG25⟩ := hp
              have hF25 : fr true [1, 6, 8, 9, 10] [5, 7, 8, 9, 10, 11, 12, 13, 19] σ s25 := fr.t hF_τ7 hG25 (by decide) (by decide) (by decide)
              refine lv_iinc (v := nI (q2_30 + 1)) (lv' := [(2, .int (nI (q2_30 + 1))), (0, .ref (ad 0)), (1, .int (nI k_program))]) hx hb (dkI DX12_renew (i := 26) rfl rfl rfl rfl) hl (k := 0) rfl (nI_1 _) (by decide) rfl (fun ls hl => ?_)
              refine lv_goto (tgt := 30) hx hb (dkS dF_167 DX12_renew (i := 27) rfl rfl rfl) (by decide) ?_
              exact ih8 (q2_30 + 1) s25 _ _ _ (by omega) (by (try simp only [lg_cmp_lt, lg_cmp_le, lg_cmp_gt, lg_cmp_ge, lg_cmp_eq] at hc1); (try simp (disch := omega) only [ta_lt, ta_le, ta_eq, tb_lt, tb_le, tb_eq, tw, tnI, tsub1, tsv, tn32 4 (by decide), tnj 4 (by decide), tn32 1 (by decide), tnj 1 (by decide), tl32 0 (by decide), tl64 0 (by decide), tl32 1 (by decide), tl64 1 (by decide), tl32 2 (by decide), tl64 2 (by decide), tl32 10 (by decide), tl64 10 (by decide), tl32 12 (by decide), tl64 12 (by decide), tl32 48 (by decide), tl64 48 (by decide), tl32 80 (by decide), tl64 80 (by decide)] at hc1); (try simp only [lg_cmp_lt, lg_cmp_le, lg_cmp_gt, lg_cmp_ge, lg_cmp_eq] at c4); (try simp (disch := omega) only [ta_lt, ta_le, ta_eq, tb_lt, tb_le, tb_eq, tw, tnI, tsub1, tsv, tn32 4 (by decide), tnj 4 (by decide), tn32 1 (by decide), tnj 1 (by decide), tl32 0 (by decide), tl64 0 (by decide), tl32 1 (by decide), tl64 1 (by decide), tl32 2 (by decide), tl64 2 (by decide), tl32 10 (by decide), tl64 10 (by decide), tl32 12 (by decide), tl64 12 (by decide), tl32 48 (by decide), tl64 48 (by decide), tl32 80 (by decide), tl64 80 (by decide)] at c4); (try simp only [lg_cmp_lt, lg_cmp_le, lg_cmp_gt, lg_cmp_ge, lg_cmp_eq] at hc9); (try simp (disch := omega) only [ta_lt, ta_le, ta_eq, tb_lt, tb_le, tb_eq, tw, tnI, tsub1, tsv, tn32 4 (by decide), tnj 4 (by decide), tn32 1 (by decide), tnj 1 (by decide), tl32 0 (by decide), tl64 0 (by decide), tl32 1 (by decide), tl64 1 (by decide), tl32 2 (by decide), tl64 2 (by decide), tl32 10 (by decide), tl64 10 (by decide), tl32 12 (by decide), tl64 12 (by decide), tl32 48 (by decide), tl64 48 (by decide), tl32 80 (by decide), tl64 80 (by decide)] at hc9); (try simp only [lg_cmp_lt, lg_cmp_le, lg_cmp_gt, lg_cmp_ge, lg_cmp_eq] at c11); (try simp (disch := omega) only [ta_lt, ta_le, ta_eq, tb_lt, tb_le, tb_eq, tw, tnI, tsub1, tsv, tn32 4 (by decide), tnj 4 (by decide), tn32 1 (by decide), tnj 1 (by decide), tl32 0 (by decide), tl64 0 (by decide), tl32 1 (by decide), tl64 1 (by decide), tl32 2 (by decide), tl64 2 (by decide), tl32 10 (by decide), tl64 10 (by decide), tl32 12 (by decide), tl64 12 (by decide), tl32 48 (by decide), tl64 48 (by decide), tl32 80 (by decide), tl64 80 (by decide)] at c11); (try simp only [lg_cmp_lt, lg_cmp_le, lg_cmp_gt, lg_cmp_ge, lg_cmp_eq] at f25_0); (try simp (disch := omega) only [ta_lt, ta_le, ta_eq, tb_lt, tb_le, tb_eq, tw, tnI, tsub1, tsv, tn32 4 (by decide), tnj 4 (by decide), tn32 1 (by decide), tnj 1 (by decide), tl32 0 (by decide), tl64 0 (by decide), tl32 1 (by decide), tl64 1 (by decide), tl32 2 (by decide), tl64 2 (by decide), tl32 10 (by decide), tl64 10 (by decide), tl32 12 (by decide), tl64 12 (by decide), tl32 48 (by decide), tl64 48 (by decide), tl32 80 (by decide), tl64 80 (by decide)] at f25_0); (try simp (disch := omega) only [ta_lt, ta_le, ta_eq, tb_lt, tb_le, tb_eq, tw, tnI, tsub1, tsv, tn32 4 (by decide), tnj 4 (by decide), tn32 1 (by decide), tnj 1 (by decide), tl32 0 (by decide), tl64 0 (by decide), tl32 1 (by decide), tl64 1 (by decide), tl32 2 (by decide), tl64 2 (by decide), tl32 10 (by decide), tl64 10 (by decide), tl32 12 (by decide), tl64 12 (by decide), tl32 48 (by decide), tl64 48 (by decide), tl32 80 (by decide), tl64 80 (by decide)]); omega) (fun h => f25_0 (by omega)) hT25 hF25 hw (lv_sub hl [0, 1, 2] rfl)
          · skip
            refine lv_if_eq (tgt := 55) hx hb (dkS dF_153 DX12_renew (i := 19) rfl rfl rfl) (by decide) (fun _ => ?_) (fun h => absurd h (by decide))
            refine lv_aload_n hx hb (dkP dF_42 DX12_renew (i := 28) rfl rfl) rfl (lv_at hl 1 rfl) ?_
            refine zk_I hw (zr_V (As := []) (rest := []) C0 (c_X12_good l G kc ad τ7  _) cv_X12_good lk_X12_190 (zp_V C0 hRo hw 0 rfl rfl rfl) rfl hl.1 rfl ⟨by decide, by decide⟩ (Nat.le_of_ble_eq_true rfl) (dk2 dF_182 DX12_renew (i := 29) rfl rfl rfl) ⟨Nat.le_refl _, Nat.le_refl _⟩) (fun r26 s26 H locs hp hw => ?_)
            obtain ⟨hq26, hs26⟩ := hp
            (rw [hs26] at hw; clear hs26)
            rcases hq26 with ⟨rfl, hc26⟩ | ⟨rfl, hc26⟩
            · skip
              refine lv_if_ne (tgt := 65) hx hb (dkS dF_154 DX12_renew (i := 30) rfl rfl rfl) (by decide) (fun _ => ?_) (fun h => absurd h (by decide))
              have hq12 : q2_30 ≤ 12 := by have h : q2_30 ≠ 13 := fun h => h13 h hc26; omega
              refine lv_iconst (v := 0) hx hb (dkP dF_3 DX12_renew (i := 33) rfl rfl) (by decide) ?_
              refine lv_istore_n (lv' := [(3, .int 0), (2, .int (nI q2_30)), (0, .ref (ad 0)), (1, .int (nI k_program))]) hx hb (dkP dF_62 DX12_renew (i := 34) rfl rfl) rfl hl (by decide) rfl (fun ls hl => ?_)
              have lp28 : ∀ (nq : Nat) (q3_67 : Nat) (τ27 : Sg) (H : Heap) (locs : List Loc) (ls : Array Slot), 2147483647 - q3_67 < nq → (q3_67 ≤ 2147483647) → (TM τ27) → (fr true [1, 6, 8, 9, 10] [5, 7, 8, 9, 10, 11, 12, 13, 19] σ τ27) → St G kc A s.heap shM ad τ27 H locs → lv_has ls 4 [(3, .int (nI q3_67)), (2, .int (nI q2_30)), (0, .ref (ad 0)), (1, .int (nI k_program))] → W pr l e { frames := 7, cells := 0, slots := 0, locals := 161 } s m ([.ref (ad 0), .int (nI k_program)] : List Value).toArray below meth c H locs 0 0 (MQ below (va_Qi (fun r σ1 => TM σ1 ∧ fr true [1, 6, 8, 9, 10] [5, 7, 8, 9, 10, 11, 12, 13, 19] σ σ1) (PoC G kc shM ad A) A) ([.ref (ad 0), .int (nI k_program)] : List Value).toArray s 0 0 A) (F0 m 67 ls []) := by
                intro nq
                induction nq with
                | zero => intro q3_67 τ27 H locs ls hmu; exact absurd hmu (Nat.not_lt_zero _)
                | succ nq ih28 =>
                  intro q3_67 τ27 H locs ls hmu hq3_67 hT_τ27 hF_τ27 hw hl
                  refine lv_iload_n hx hb (dkP dF_29 DX12_renew (i := 35) rfl rfl) rfl (lv_at hl 0 rfl) ?_
                  refine lv_iload_n hx hb (dkP dF_28 DX12_renew (i := 36) rfl rfl) rfl (lv_at hl 1 rfl) ?_
                  refine lv_icmp_ge (tgt := 164) hx hb (dkS dF_162 DX12_renew (i := 37) rfl rfl rfl) (by decide) (fun c29 => ?_) (fun c29 => ?_)
                  · simp (disch := omega) only [ta_lt, ta_le, ta_eq, tnI] at c29
                    refine lv_aload_n hx hb (dkP dF_42 DX12_renew (i := 94) rfl rfl) rfl (lv_at hl 2 rfl) ?_
                    refine lv_iload_n hx hb (dkP dF_27 DX12_renew (i := 95) rfl rfl) rfl (lv_at hl 3 rfl) ?_
                    refine lv_iload_n hx hb (dkP dF_28 DX12_renew (i := 96) rfl rfl) rfl (lv_at hl 1 rfl) ?_
                    refine zk_V hw (zr_V (As := [.int (nI k_program), .int (nI q2_30)]) (rest := []) C0 (c_X12_begun l G kc ad τ27 k_program q2_30 (by first | omega | assumption | decide | rfl) (by first | omega | assumption | decide | rfl) hT_τ27 _) cv_X12_begun lk_X12_320 (zp_V C0 hRo hw 0 rfl rfl rfl) rfl hl.1 rfl ⟨by decide, by decide⟩ (Nat.le_of_ble_eq_true rfl) (dk2 dF_182 DX12_renew (i := 97) rfl rfl rfl) ⟨Nat.le_refl _, Nat.le_refl _⟩) (fun s30 H locs hp hw => ?_)
                    obtain ⟨hT30, hG30⟩ := hp
                    have hF30 : fr true [1, 6, 8, 9, 10] [5, 7, 8, 9, 10, 11, 12, 13, 19] σ s30 := fr.t hF_τ27 hG30 (by decide) (by decide) (by decide)
                    refine lv_iload_n hx hb (dkP dF_28 DX12_renew (i := 98) rfl rfl) rfl (lv_at hl 1 rfl) ?_
                    exact z_iret C0 hr hlk hw (⟨hT30, hF30⟩) (dkP dF_172 DX12_renew (i := 99) rfl rfl)
                  · simp (disch := omega) only [ta_lt, ta_le, ta_eq, tnI] at c29
                    refine lv_aload_n hx hb (dkP dF_42 DX12_renew (i := 38) rfl rfl) rfl (lv_at hl 2 rfl) ?_
                    refine z_gr C0 hw 0 16 8 rfl fl_X12_48 (dk2 dF_180 DX12_renew (i := 39) rfl rfl rfl) ?_
                    refine lv_iconst (v := 2) hx hb (dkP dF_5 DX12_renew (i := 40) rfl rfl) (by decide) ?_
                    refine lv_iload_n hx hb (dkP dF_29 DX12_renew (i := 41) rfl rfl) rfl (lv_at hl 0 rfl) ?_
                    refine lv_imul hx hb (dkP dF_104 DX12_renew (i := 42) rfl rfl) ?_
                    refine z_top (y := nI (2 * q3_67)) (by simp only [fa_lit, nI_add, pk_mul]) ?_
                    refine lv_aload_n hx hb (dkP dF_42 DX12_renew (i := 43) rfl rfl) rfl (lv_at hl 2 rfl) ?_
                    refine z_gr C0 hw 0 1 1 rfl fl_X12_20 (dk2 dF_180 DX12_renew (i := 44) rfl rfl rfl) ?_
                    refine lv_iload_n hx hb (dkP dF_27 DX12_renew (i := 45) rfl rfl) rfl (lv_at hl 3 rfl) ?_
                    refine lv_iload_n hx hb (dkP dF_29 DX12_renew (i := 46) rfl rfl) rfl (lv_at hl 0 rfl) ?_
                    refine zn_I hw (zr_S (As := [.int (nI k_program), .int (nI q3_67)]) (rest := [.ref (ad 1), .int (nI (2 * q3_67)), .ref (ad 8)]) C0 (c_X12_caseAt l G kc k_program q3_67  _) cs_X12_caseAt lk_X12_310 (zp_P C0 hRo hw a00 s00) rfl hl.1 rfl ⟨by decide, by decide⟩ (Nat.le_of_ble_eq_true rfl) (dk2 dF_184 DX12_renew (i := 47) rfl rfl rfl) ⟨Nat.le_refl _, Nat.le_refl _⟩) (fun r31 s31 H locs hp hw => ?_)
                    subst hp
                    refine lv_iconst (v := 2) hx hb (dkP dF_5 DX12_renew (i := 48) rfl rfl) (by decide) ?_
                    refine zk_V hw (zr_S (As := [.ref (ad 8), .int (nI (2 * q3_67)), .ref (ad 1), .int (nI (3240 + 2 * (40 * k_program + q3_67))), .int 2]) (rest := []) C0 (c_X12_lays_8_1 l G kc ad τ27 (2 * q3_67) (3240 + 2 * (40 * k_program + q3_67)) 2 (by omega) (by omega) (fun i hi v h => ty_cw (by omega) (by omega) hi h) (fun i hi => by unfold KR; omega) hT_τ27 _) cs_X12_lays lk_X12_255 (zp_S C0 hRo hw) rfl hl.1 rfl ⟨by decide, by decide⟩ (Nat.le_of_ble_eq_true rfl) (dk2 dF_184 DX12_renew (i := 49) rfl rfl rfl) ⟨Nat.le_refl _, Nat.le_refl _⟩) (fun s32 H locs hp hw => ?_)
                    obtain ⟨f32_0, hT32, hG32⟩ := hp
                    have hF32 : fr true [1, 6, 8, 9, 10] [5, 7, 8, 9, 10, 11, 12, 13, 19] σ s32 := fr.t hF_τ27 hG32 (by decide) (by decide) (by decide)
                    refine lv_aload_n hx hb (dkP dF_42 DX12_renew (i := 50) rfl rfl) rfl (lv_at hl 2 rfl) ?_
                    refine z_gr C0 hw 0 17 9 rfl fl_X12_51 (dk2 dF_180 DX12_renew (i := 51) rfl rfl rfl) ?_
                    refine lv_bipush (v := 48) hx hb (dks dF_16 DX12_renew (i := 52) rfl rfl rfl) (by decide) ?_
                    refine lv_iload_n hx hb (dkP dF_29 DX12_renew (i := 53) rfl rfl) rfl (lv_at hl 0 rfl) ?_
                    refine lv_imul hx hb (dkP dF_104 DX12_renew (i := 54) rfl rfl) ?_
                    refine z_top (y := nI (48 * q3_67)) (by simp only [fa_lit, nI_add, pk_mul]) ?_
                    refine lv_aload_n hx hb (dkP dF_42 DX12_renew (i := 55) rfl rfl) rfl (lv_at hl 2 rfl) ?_
                    refine z_gr C0 hw 0 1 1 rfl fl_X12_20 (dk2 dF_180 DX12_renew (i := 56) rfl rfl rfl) ?_
                    refine lv_iload_n hx hb (dkP dF_27 DX12_renew (i := 57) rfl rfl) rfl (lv_at hl 3 rfl) ?_
                    refine lv_iload_n hx hb (dkP dF_29 DX12_renew (i := 58) rfl rfl) rfl (lv_at hl 0 rfl) ?_
                    refine lv_iconst (v := 0) hx hb (dkP dF_3 DX12_renew (i := 59) rfl rfl) (by decide) ?_
                    refine zn_I hw (zr_S (As := [.int (nI k_program), .int (nI q3_67), .int 0]) (rest := [.ref (ad 1), .int (nI (48 * q3_67)), .ref (ad 9)]) C0 (c_X12_testAt l G kc k_program q3_67 0  _) cs_X12_testAt lk_X12_313 (zp_P C0 hRo hw a00 s00) rfl hl.1 rfl ⟨by decide, by decide⟩ (Nat.le_of_ble_eq_true rfl) (dk2 dF_184 DX12_renew (i := 60) rfl rfl rfl) ⟨Nat.le_refl _, Nat.le_refl _⟩) (fun r33 s33 H locs hp hw => ?_)
                    subst hp
                    refine lv_bipush (v := 12) hx hb (dks dF_16 DX12_renew (i := 61) rfl rfl rfl) (by decide) ?_
                    refine lv_aload_n hx hb (dkP dF_42 DX12_renew (i := 62) rfl rfl) rfl (lv_at hl 2 rfl) ?_
                    refine z_gr C0 hw 0 16 8 rfl fl_X12_48 (dk2 dF_180 DX12_renew (i := 63) rfl rfl rfl) ?_
                    refine lv_iconst (v := 2) hx hb (dkP dF_5 DX12_renew (i := 64) rfl rfl) (by decide) ?_
                    refine lv_iload_n hx hb (dkP dF_29 DX12_renew (i := 65) rfl rfl) rfl (lv_at hl 0 rfl) ?_
                    refine lv_imul hx hb (dkP dF_104 DX12_renew (i := 66) rfl rfl) ?_
                    refine z_top (y := nI (2 * q3_67)) (by simp only [fa_lit, nI_add, pk_mul]) ?_
                    refine z_ialdN (n := 24) C0 hw 8 (2 * q3_67) rfl (by omega) (by decide) (dkP dF_46 DX12_renew (i := 67) rfl rfl) ?_
                    obtain ⟨n34, hn34, en34⟩ := rngN (x := s32.1 8 (2 * q3_67)) (h := 4) (ty_fc0 (by omega) (hT32 8 _))
                    refine z_top (y := nI n34) en34 ?_
                    refine lv_imul hx hb (dkP dF_104 DX12_renew (i := 68) rfl rfl) ?_
                    refine z_top (y := nI (12 * n34)) (by simp only [fa_lit, nI_add, pk_mul]) ?_
                    refine zk_V hw (zr_S (As := [.ref (ad 9), .int (nI (48 * q3_67)), .ref (ad 1), .int (nI (3880 + 12 * (100 * (40 * k_program + q3_67) + 0))), .int (nI (12 * n34))]) (rest := []) C0 (c_X12_lays_9_1 l G kc ad s32 (48 * q3_67) (3880 + 12 * (100 * (40 * k_program + q3_67) + 0)) (12 * n34) (by omega) (by omega) (fun i hi v h => ty_tw (by omega) (by omega)) (fun i hi => by unfold KR; omega) hT32 _) cs_X12_lays lk_X12_255 (zp_S C0 hRo hw) rfl hl.1 rfl ⟨by decide, by decide⟩ (Nat.le_of_ble_eq_true rfl) (dk2 dF_184 DX12_renew (i := 69) rfl rfl rfl) ⟨Nat.le_refl _, Nat.le_refl _⟩) (fun s35 H locs hp hw => ?_)
                    obtain ⟨f35_0, hT35, hG35⟩ := hp
                    have hF35 : fr true [1, 6, 8, 9, 10] [5, 7, 8, 9, 10, 11, 12, 13, 19] σ s35 := fr.t hF32 hG35 (by decide) (by decide) (by decide)
                    refine lv_aload_n hx hb (dkP dF_42 DX12_renew (i := 70) rfl rfl) rfl (lv_at hl 2 rfl) ?_
                    refine z_gr C0 hw 0 18 10 rfl fl_X12_54 (dk2 dF_180 DX12_renew (i := 71) rfl rfl rfl) ?_
                    refine lv_bipush (v := 80) hx hb (dks dF_16 DX12_renew (i := 72) rfl rfl rfl) (by decide) ?_
                    refine lv_iload_n hx hb (dkP dF_29 DX12_renew (i := 73) rfl rfl) rfl (lv_at hl 0 rfl) ?_
                    refine lv_imul hx hb (dkP dF_104 DX12_renew (i := 74) rfl rfl) ?_
                    refine z_top (y := nI (80 * q3_67)) (by simp only [fa_lit, nI_add, pk_mul]) ?_
                    refine lv_aload_n hx hb (dkP dF_42 DX12_renew (i := 75) rfl rfl) rfl (lv_at hl 2 rfl) ?_
                    refine z_gr C0 hw 0 1 1 rfl fl_X12_20 (dk2 dF_180 DX12_renew (i := 76) rfl rfl rfl) ?_
                    refine lv_iload_n hx hb (dkP dF_27 DX12_renew (i := 77) rfl rfl) rfl (lv_at hl 3 rfl) ?_
                    refine lv_iload_n hx hb (dkP dF_29 DX12_renew (i := 78) rfl rfl) rfl (lv_at hl 0 rfl) ?_
                    refine lv_iconst (v := 0) hx hb (dkP dF_3 DX12_renew (i := 79) rfl rfl) (by decide) ?_
                    refine zn_I hw (zr_S (As := [.int (nI k_program), .int (nI q3_67), .int 0]) (rest := [.ref (ad 1), .int (nI (80 * q3_67)), .ref (ad 10)]) C0 (c_X12_putAt l G kc k_program q3_67 0  _) cs_X12_putAt lk_X12_317 (zp_P C0 hRo hw a00 s00) rfl hl.1 rfl ⟨by decide, by decide⟩ (Nat.le_of_ble_eq_true rfl) (dk2 dF_184 DX12_renew (i := 80) rfl rfl rfl) ⟨Nat.le_refl _, Nat.le_refl _⟩) (fun r36 s36 H locs hp hw => ?_)
                    subst hp
                    refine lv_bipush (v := 10) hx hb (dks dF_16 DX12_renew (i := 81) rfl rfl rfl) (by decide) ?_
                    refine lv_aload_n hx hb (dkP dF_42 DX12_renew (i := 82) rfl rfl) rfl (lv_at hl 2 rfl) ?_
                    refine z_gr C0 hw 0 16 8 rfl fl_X12_48 (dk2 dF_180 DX12_renew (i := 83) rfl rfl rfl) ?_
                    refine lv_iconst (v := 2) hx hb (dkP dF_5 DX12_renew (i := 84) rfl rfl) (by decide) ?_
                    refine lv_iload_n hx hb (dkP dF_29 DX12_renew (i := 85) rfl rfl) rfl (lv_at hl 0 rfl) ?_
                    refine lv_imul hx hb (dkP dF_104 DX12_renew (i := 86) rfl rfl) ?_
                    refine z_top (y := nI (2 * q3_67)) (by simp only [fa_lit, nI_add, pk_mul]) ?_
                    refine lv_iconst (v := 1) hx hb (dkP dF_4 DX12_renew (i := 87) rfl rfl) (by decide) ?_
                    refine lv_iadd hx hb (dkP dF_96 DX12_renew (i := 88) rfl rfl) ?_
                    refine z_top (y := nI ((2 * q3_67) + 1)) (by simp only [fa_lit, nI_add, pk_mul]) ?_
                    refine z_ialdN (n := 24) C0 hw 8 ((2 * q3_67) + 1) rfl (by omega) (by decide) (dkP dF_46 DX12_renew (i := 89) rfl rfl) ?_
                    obtain ⟨n37, hn37, en37⟩ := rngN (x := s35.1 8 ((2 * q3_67) + 1)) (h := 8) (ty_fc1 (by omega) (hT35 8 _))
                    refine z_top (y := nI n37) en37 ?_
                    refine lv_imul hx hb (dkP dF_104 DX12_renew (i := 90) rfl rfl) ?_
                    refine z_top (y := nI (10 * n37)) (by simp only [fa_lit, nI_add, pk_mul]) ?_
                    refine zk_V hw (zr_S (As := [.ref (ad 10), .int (nI (80 * q3_67)), .ref (ad 1), .int (nI (387880 + 10 * (8 * (40 * k_program + q3_67) + 0))), .int (nI (10 * n37))]) (rest := []) C0 (c_X12_lays_10_1 l G kc ad s35 (80 * q3_67) (387880 + 10 * (8 * (40 * k_program + q3_67) + 0)) (10 * n37) (by omega) (by omega) (fun i hi v h => ty_pw (by omega) (by omega) (by omega) h) (fun i hi => by unfold KR; omega) hT35 _) cs_X12_lays lk_X12_255 (zp_S C0 hRo hw) rfl hl.1 rfl ⟨by decide, by decide⟩ (Nat.le_of_ble_eq_true rfl) (dk2 dF_184 DX12_renew (i := 91) rfl rfl rfl) ⟨Nat.le_refl _, Nat.le_refl _⟩) (fun s38 H locs hp hw => ?_)
                    obtain ⟨f38_0, hT38, hG38⟩ := hp
                    have hF38 : fr true [1, 6, 8, 9, 10] [5, 7, 8, 9, 10, 11, 12, 13, 19] σ s38 := fr.t hF35 hG38 (by decide) (by decide) (by decide)
                    refine lv_iinc (v := nI (q3_67 + 1)) (lv' := [(3, .int (nI (q3_67 + 1))), (2, .int (nI q2_30)), (0, .ref (ad 0)), (1, .int (nI k_program))]) hx hb (dkI DX12_renew (i := 92) rfl rfl rfl rfl) hl (k := 0) rfl (nI_1 _) (by decide) rfl (fun ls hl => ?_)
                    refine lv_goto (tgt := 67) hx hb (dkS dF_167 DX12_renew (i := 93) rfl rfl rfl) (by decide) ?_
                    exact ih28 (q3_67 + 1) s38 _ _ _ (by omega) (by (try simp only [lg_cmp_lt, lg_cmp_le, lg_cmp_gt, lg_cmp_ge, lg_cmp_eq] at hc1); (try simp (disch := omega) only [ta_lt, ta_le, ta_eq, tb_lt, tb_le, tb_eq, tw, tnI, tsub1, tsv, tn32 4 (by decide), tnj 4 (by decide), tn32 1 (by decide), tnj 1 (by decide), tl32 0 (by decide), tl64 0 (by decide), tl32 1 (by decide), tl64 1 (by decide), tl32 2 (by decide), tl64 2 (by decide), tl32 10 (by decide), tl64 10 (by decide), tl32 12 (by decide), tl64 12 (by decide), tl32 48 (by decide), tl64 48 (by decide), tl32 80 (by decide), tl64 80 (by decide)] at hc1); (try simp only [lg_cmp_lt, lg_cmp_le, lg_cmp_gt, lg_cmp_ge, lg_cmp_eq] at c4); (try simp (disch := omega) only [ta_lt, ta_le, ta_eq, tb_lt, tb_le, tb_eq, tw, tnI, tsub1, tsv, tn32 4 (by decide), tnj 4 (by decide), tn32 1 (by decide), tnj 1 (by decide), tl32 0 (by decide), tl64 0 (by decide), tl32 1 (by decide), tl64 1 (by decide), tl32 2 (by decide), tl64 2 (by decide), tl32 10 (by decide), tl64 10 (by decide), tl32 12 (by decide), tl64 12 (by decide), tl32 48 (by decide), tl64 48 (by decide), tl32 80 (by decide), tl64 80 (by decide)] at c4); (try simp only [lg_cmp_lt, lg_cmp_le, lg_cmp_gt, lg_cmp_ge, lg_cmp_eq] at hc9); (try simp (disch := omega) only [ta_lt, ta_le, ta_eq, tb_lt, tb_le, tb_eq, tw, tnI, tsub1, tsv, tn32 4 (by decide), tnj 4 (by decide), tn32 1 (by decide), tnj 1 (by decide), tl32 0 (by decide), tl64 0 (by decide), tl32 1 (by decide), tl64 1 (by decide), tl32 2 (by decide), tl64 2 (by decide), tl32 10 (by decide), tl64 10 (by decide), tl32 12 (by decide), tl64 12 (by decide), tl32 48 (by decide), tl64 48 (by decide), tl32 80 (by decide), tl64 80 (by decide)] at hc9); (try simp only [lg_cmp_lt, lg_cmp_le, lg_cmp_gt, lg_cmp_ge, lg_cmp_eq] at hc26); (try simp (disch := omega) only [ta_lt, ta_le, ta_eq, tb_lt, tb_le, tb_eq, tw, tnI, tsub1, tsv, tn32 4 (by decide), tnj 4 (by decide), tn32 1 (by decide), tnj 1 (by decide), tl32 0 (by decide), tl64 0 (by decide), tl32 1 (by decide), tl64 1 (by decide), tl32 2 (by decide), tl64 2 (by decide), tl32 10 (by decide), tl64 10 (by decide), tl32 12 (by decide), tl64 12 (by decide), tl32 48 (by decide), tl64 48 (by decide), tl32 80 (by decide), tl64 80 (by decide)] at hc26); (try simp only [lg_cmp_lt, lg_cmp_le, lg_cmp_gt, lg_cmp_ge, lg_cmp_eq] at c29); (try simp (disch := omega) only [ta_lt, ta_le, ta_eq, tb_lt, tb_le, tb_eq, tw, tnI, tsub1, tsv, tn32 4 (by decide), tnj 4 (by decide), tn32 1 (by decide), tnj 1 (by decide), tl32 0 (by decide), tl64 0 (by decide), tl32 1 (by decide), tl64 1 (by decide), tl32 2 (by decide), tl64 2 (by decide), tl32 10 (by decide), tl64 10 (by decide), tl32 12 (by decide), tl64 12 (by decide), tl32 48 (by decide), tl64 48 (by decide), tl32 80 (by decide), tl64 80 (by decide)] at c29); (try simp only [lg_cmp_lt, lg_cmp_le, lg_cmp_gt, lg_cmp_ge, lg_cmp_eq] at f32_0); (try simp (disch := omega) only [ta_lt, ta_le, ta_eq, tb_lt, tb_le, tb_eq, tw, tnI, tsub1, tsv, tn32 4 (by decide), tnj 4 (by decide), tn32 1 (by decide), tnj 1 (by decide), tl32 0 (by decide), tl64 0 (by decide), tl32 1 (by decide), tl64 1 (by decide), tl32 2 (by decide), tl64 2 (by decide), tl32 10 (by decide), tl64 10 (by decide), tl32 12 (by decide), tl64 12 (by decide), tl32 48 (by decide), tl64 48 (by decide), tl32 80 (by decide), tl64 80 (by decide)] at f32_0); (try simp only [lg_cmp_lt, lg_cmp_le, lg_cmp_gt, lg_cmp_ge, lg_cmp_eq] at f35_0); (try simp (disch := omega) only [ta_lt, ta_le, ta_eq, tb_lt, tb_le, tb_eq, tw, tnI, tsub1, tsv, tn32 4 (by decide), tnj 4 (by decide), tn32 1 (by decide), tnj 1 (by decide), tl32 0 (by decide), tl64 0 (by decide), tl32 1 (by decide), tl64 1 (by decide), tl32 2 (by decide), tl64 2 (by decide), tl32 10 (by decide), tl64 10 (by decide), tl32 12 (by decide), tl64 12 (by decide), tl32 48 (by decide), tl64 48 (by decide), tl32 80 (by decide), tl64 80 (by decide)] at f35_0); (try simp only [lg_cmp_lt, lg_cmp_le, lg_cmp_gt, lg_cmp_ge, lg_cmp_eq] at f38_0); (try simp (disch := omega) only [ta_lt, ta_le, ta_eq, tb_lt, tb_le, tb_eq, tw, tnI, tsub1, tsv, tn32 4 (by decide), tnj 4 (by decide), tn32 1 (by decide), tnj 1 (by decide), tl32 0 (by decide), tl64 0 (by decide), tl32 1 (by decide), tl64 1 (by decide), tl32 2 (by decide), tl64 2 (by decide), tl32 10 (by decide), tl64 10 (by decide), tl32 12 (by decide), tl64 12 (by decide), tl32 48 (by decide), tl64 48 (by decide), tl32 80 (by decide), tl64 80 (by decide)] at f38_0); (try simp (disch := omega) only [ta_lt, ta_le, ta_eq, tb_lt, tb_le, tb_eq, tw, tnI, tsub1, tsv, tn32 4 (by decide), tnj 4 (by decide), tn32 1 (by decide), tnj 1 (by decide), tl32 0 (by decide), tl64 0 (by decide), tl32 1 (by decide), tl64 1 (by decide), tl32 2 (by decide), tl64 2 (by decide), tl32 10 (by decide), tl64 10 (by decide), tl32 12 (by decide), tl64 12 (by decide), tl32 48 (by decide), tl64 48 (by decide), tl32 80 (by decide), tl64 80 (by decide)]); omega) hT38 hF38 hw (lv_sub hl [0, 1, 2, 3] rfl)
              exact lp28 _ 0 τ7 _ _ _ (Nat.lt_succ_self _) (by (try simp only [lg_cmp_lt, lg_cmp_le, lg_cmp_gt, lg_cmp_ge, lg_cmp_eq] at hc1); (try simp (disch := omega) only [ta_lt, ta_le, ta_eq, tb_lt, tb_le, tb_eq, tw, tnI, tsub1, tsv, tn32 4 (by decide), tnj 4 (by decide), tn32 1 (by decide), tnj 1 (by decide), tl32 0 (by decide), tl64 0 (by decide), tl32 1 (by decide), tl64 1 (by decide), tl32 2 (by decide), tl64 2 (by decide), tl32 10 (by decide), tl64 10 (by decide), tl32 12 (by decide), tl64 12 (by decide), tl32 48 (by decide), tl64 48 (by decide), tl32 80 (by decide), tl64 80 (by decide)] at hc1); (try simp only [lg_cmp_lt, lg_cmp_le, lg_cmp_gt, lg_cmp_ge, lg_cmp_eq] at c4); (try simp (disch := omega) only [ta_lt, ta_le, ta_eq, tb_lt, tb_le, tb_eq, tw, tnI, tsub1, tsv, tn32 4 (by decide), tnj 4 (by decide), tn32 1 (by decide), tnj 1 (by decide), tl32 0 (by decide), tl64 0 (by decide), tl32 1 (by decide), tl64 1 (by decide), tl32 2 (by decide), tl64 2 (by decide), tl32 10 (by decide), tl64 10 (by decide), tl32 12 (by decide), tl64 12 (by decide), tl32 48 (by decide), tl64 48 (by decide), tl32 80 (by decide), tl64 80 (by decide)] at c4); (try simp only [lg_cmp_lt, lg_cmp_le, lg_cmp_gt, lg_cmp_ge, lg_cmp_eq] at hc9); (try simp (disch := omega) only [ta_lt, ta_le, ta_eq, tb_lt, tb_le, tb_eq, tw, tnI, tsub1, tsv, tn32 4 (by decide), tnj 4 (by decide), tn32 1 (by decide), tnj 1 (by decide), tl32 0 (by decide), tl64 0 (by decide), tl32 1 (by decide), tl64 1 (by decide), tl32 2 (by decide), tl64 2 (by decide), tl32 10 (by decide), tl64 10 (by decide), tl32 12 (by decide), tl64 12 (by decide), tl32 48 (by decide), tl64 48 (by decide), tl32 80 (by decide), tl64 80 (by decide)] at hc9); (try simp only [lg_cmp_lt, lg_cmp_le, lg_cmp_gt, lg_cmp_ge, lg_cmp_eq] at hc26); (try simp (disch := omega) only [ta_lt, ta_le, ta_eq, tb_lt, tb_le, tb_eq, tw, tnI, tsub1, tsv, tn32 4 (by decide), tnj 4 (by decide), tn32 1 (by decide), tnj 1 (by decide), tl32 0 (by decide), tl64 0 (by decide), tl32 1 (by decide), tl64 1 (by decide), tl32 2 (by decide), tl64 2 (by decide), tl32 10 (by decide), tl64 10 (by decide), tl32 12 (by decide), tl64 12 (by decide), tl32 48 (by decide), tl64 48 (by decide), tl32 80 (by decide), tl64 80 (by decide)] at hc26); (try simp (disch := omega) only [ta_lt, ta_le, ta_eq, tb_lt, tb_le, tb_eq, tw, tnI, tsub1, tsv, tn32 4 (by decide), tnj 4 (by decide), tn32 1 (by decide), tnj 1 (by decide), tl32 0 (by decide), tl64 0 (by decide), tl32 1 (by decide), tl64 1 (by decide), tl32 2 (by decide), tl64 2 (by decide), tl32 10 (by decide), tl64 10 (by decide), tl32 12 (by decide), tl64 12 (by decide), tl32 48 (by decide), tl64 48 (by decide), tl32 80 (by decide), tl64 80 (by decide)]); omega) hT_τ7 hF_τ7 hw (lv_sub hl [0, 1, 2, 3] rfl)
            · skip
              refine lv_if_ne (tgt := 65) hx hb (dkS dF_154 DX12_renew (i := 30) rfl rfl rfl) (by decide) (fun h => absurd h (by decide)) (fun _ => ?_)
              refine lv_bipush (v := (-4)) hx hb (dks dF_16 DX12_renew (i := 31) rfl rfl rfl) (by decide) ?_
              exact z_iret C0 hr hlk hw (⟨hT_τ7, hF_τ7⟩) (dkP dF_172 DX12_renew (i := 32) rfl rfl)
      exact lp8 _ 0 (sI s5 0 19 0) _ _ _ (Nat.lt_succ_self _) (by (try simp only [lg_cmp_lt, lg_cmp_le, lg_cmp_gt, lg_cmp_ge, lg_cmp_eq] at hc1); (try simp (disch := omega) only [ta_lt, ta_le, ta_eq, tb_lt, tb_le, tb_eq, tw, tnI, tsub1, tsv, tn32 4 (by decide), tnj 4 (by decide), tn32 1 (by decide), tnj 1 (by decide), tl32 0 (by decide), tl64 0 (by decide), tl32 1 (by decide), tl64 1 (by decide), tl32 2 (by decide), tl64 2 (by decide), tl32 10 (by decide), tl64 10 (by decide), tl32 12 (by decide), tl64 12 (by decide), tl32 48 (by decide), tl64 48 (by decide), tl32 80 (by decide), tl64 80 (by decide)] at hc1); (try simp only [lg_cmp_lt, lg_cmp_le, lg_cmp_gt, lg_cmp_ge, lg_cmp_eq] at c4); (try simp (disch := omega) only [ta_lt, ta_le, ta_eq, tb_lt, tb_le, tb_eq, tw, tnI, tsub1, tsv, tn32 4 (by decide), tnj 4 (by decide), tn32 1 (by decide), tnj 1 (by decide), tl32 0 (by decide), tl64 0 (by decide), tl32 1 (by decide), tl64 1 (by decide), tl32 2 (by decide), tl64 2 (by decide), tl32 10 (by decide), tl64 10 (by decide), tl32 12 (by decide), tl64 12 (by decide), tl32 48 (by decide), tl64 48 (by decide), tl32 80 (by decide), tl64 80 (by decide)] at c4); (try simp (disch := omega) only [ta_lt, ta_le, ta_eq, tb_lt, tb_le, tb_eq, tw, tnI, tsub1, tsv, tn32 4 (by decide), tnj 4 (by decide), tn32 1 (by decide), tnj 1 (by decide), tl32 0 (by decide), tl64 0 (by decide), tl32 1 (by decide), tl64 1 (by decide), tl32 2 (by decide), tl64 2 (by decide), tl32 10 (by decide), tl64 10 (by decide), tl32 12 (by decide), tl64 12 (by decide), tl32 48 (by decide), tl64 48 (by decide), tl32 80 (by decide), tl64 80 (by decide)]); omega) (fun h => absurd h (by omega)) hT6 hF6 hw (lv_sub hl [0, 1, 2] rfl)
    · (try simp (disch := omega) only [ta_lt, ta_le, ta_eq, tnI, tl32 1 (by decide)] at c4)
      refine lv_bipush (v := (-2)) hx hb (dks dF_16 DX12_renew (i := 8) rfl rfl rfl) (by decide) ?_
      exact z_iret C0 hr hlk hw (⟨hT, fr.refl⟩) (dkP dF_172 DX12_renew (i := 9) rfl rfl)
  · skip
    (try simp (disch := omega) only [ta_lt, ta_le, ta_eq, tb_lt, tb_le, tb_eq, tw, tnI, tn32 4 (by decide), tnj 4 (by decide), tn32 2 (by decide), tnj 2 (by decide), tn32 1 (by decide), tnj 1 (by decide), tl32 0 (by decide), tl64 0 (by decide), tl32 1 (by decide), tl64 1 (by decide), tl32 2 (by decide), tl64 2 (by decide), tl32 10 (by decide), tl64 10 (by decide), tl32 12 (by decide), tl64 12 (by decide), tl32 48 (by decide), tl64 48 (by decide), tl32 80 (by decide), tl64 80 (by decide)] at hc1)
    refine lv_if_eq (tgt := 16) hx hb (dkS dF_153 DX12_renew (i := 2) rfl rfl rfl) (by decide) (fun _ => ?_) (fun h => absurd h (by decide))
    refine lv_bipush (v := (-2)) hx hb (dks dF_16 DX12_renew (i := 8) rfl rfl rfl) (by decide) ?_
    exact z_iret C0 hr hlk hw (⟨hT, fr.refl⟩) (dkP dF_172 DX12_renew (i := 9) rfl rfl)
