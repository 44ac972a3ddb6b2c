set_option maxRecDepth 100000 in
set_option maxHeartbeats 8000000 in
theorem c_X12_isWay (l : Launch) (G : va_G) (kc : KC) (ad : Nat → Nat) (σ : Sg) (w : Nat) (stp : Int32) (hw199 : w ≤ 199) (hT : TM σ) : MI l G kc yX12_isWay cX12_isWay 4 (some .boolean) 0 0 [.ref (ad 0), .int (nI w), .int stp] shM ad σ (fun r σ1 => ((r = 1 ∧ (True)) ∨ (r = 0 ∧ (True))) ∧ σ1 = σ) := by
  intro sz
  refine z_body (y := yX12_isWay) (n := 4) (av := [.ref (ad 0), .int (nI w), .int stp]) (Qc := fun A => va_Qi (fun r σ1 => ((r = 1 ∧ (True)) ∨ (r = 0 ∧ (True))) ∧ σ1 = σ) (PoC G kc shM ad A) A) (plainFor_of_name (by decide)) (Nat.le_of_ble_eq_true rfl) (fun pr e s m below meth c A C0 hr hlk hnm hw hRo ls hl => ?_) sz
  have hx := C0.1
  have hb := C0.2.1
  have hown := C0.2.2.2.1
  have hts := C0.2.2.2.2.1
  have hl : lv_has ls 4 [(0, .ref (ad 0)), (1, .int (nI w)), (2, .int stp)] := hl
  refine lv_aload_n hx hb (dkP dF_42 DX12_isWay (i := 0) rfl rfl) rfl (lv_at hl 0 rfl) ?_
  refine z_gr C0 hw 0 28 16 rfl fl_X12_75 (dk2 dF_180 DX12_isWay (i := 1) rfl rfl rfl) ?_
  refine lv_iload_n hx hb (dkP dF_27 DX12_isWay (i := 2) rfl rfl) rfl (lv_at hl 1 rfl) ?_
  refine z_ialdN (n := 201) C0 hw 16 w rfl (by omega) (by decide) (dkP dF_46 DX12_isWay (i := 3) rfl rfl) ?_
  obtain ⟨v1, ev1⟩ : ∃ y : Int32, σ.1 16 w = y := ⟨_, rfl⟩
  refine z_top (y := v1) ev1 ?_
  refine lv_iload_n hx hb (dkP dF_28 DX12_isWay (i := 4) rfl rfl) rfl (lv_at hl 2 rfl) ?_
  refine lv_icmp_ne (tgt := 23) hx hb (dkS dF_160 DX12_isWay (i := 5) rfl rfl rfl) (by decide) (fun c2 => ?_) (fun c2 => ?_)
  · (try simp (disch := omega) only [ta_lt, ta_le, ta_eq, tnI] at c2)
    refine lv_iconst (v := 0) hx hb (dkP dF_3 DX12_isWay (i := 13) rfl rfl) (by decide) ?_
    exact z_zret C0 hr hlk (by decide) hw (⟨(Or.inr ⟨rfl, trivial⟩), rfl⟩) (dkP dF_172 DX12_isWay (i := 14) rfl rfl)
  · (try simp (disch := omega) only [ta_lt, ta_le, ta_eq, tnI] at c2)
    refine lv_aload_n hx hb (dkP dF_42 DX12_isWay (i := 6) rfl rfl) rfl (lv_at hl 0 rfl) ?_
    refine z_gr C0 hw 0 29 17 rfl fl_X12_78 (dk2 dF_180 DX12_isWay (i := 7) rfl rfl rfl) ?_
    refine lv_iload_n hx hb (dkP dF_27 DX12_isWay (i := 8) rfl rfl) rfl (lv_at hl 1 rfl) ?_
    refine z_ialdN (n := 201) C0 hw 17 w rfl (by omega) (by decide) (dkP dF_46 DX12_isWay (i := 9) rfl rfl) ?_
    obtain ⟨n3, hn3, en3⟩ := rngN (x := σ.1 17 w) (h := 100) (show 0 ≤ _ ∧ _ ≤ 100 from hT 17 _)
    refine z_top (y := nI n3) en3 ?_
    refine lv_aload_n hx hb (dkP dF_42 DX12_isWay (i := 10) rfl rfl) rfl (lv_at hl 0 rfl) ?_
    refine z_gi C0 hw 0 23 rfl fl_X12_342 (dk2 dF_180 DX12_isWay (i := 11) rfl rfl rfl) ?_
    obtain ⟨n4, hn4, en4⟩ := rngN (x := σ.1 0 23) (h := 100) (show 0 ≤ _ ∧ _ ≤ 100 from hT 0 23)
    refine z_top (y := nI n4) en4 ?_
    refine lv_icmp_eq (tgt := 25) hx hb (dkS dF_159 DX12_isWay (i := 12) rfl rfl rfl) (by decide) (fun c5 => ?_) (fun c5 => ?_)
    · simp (disch := omega) only [ta_lt, ta_le, ta_eq, tnI] at c5
      refine lv_iconst (v := 0) hx hb (dkP dF_3 DX12_isWay (i := 15) rfl rfl) (by decide) ?_
      refine lv_istore_n (lv' := [(3, .int 0), (0, .ref (ad 0)), (1, .int (nI w)), (2, .int stp)]) hx hb (dkP dF_62 DX12_isWay (i := 16) rfl rfl) rfl hl (by decide) rfl (fun ls hl => ?_)
      have lp6 : ∀ (n : Nat) (q3_27 : Nat) (H : Heap) (locs : List Loc) (ls : Array Slot), 2147483647 - q3_27 < n → (q3_27 ≤ 2147483647) → St G kc A s.heap shM ad σ H locs → lv_has ls 4 [(3, .int (nI q3_27)), (0, .ref (ad 0)), (1, .int (nI w)), (2, .int stp)] → W pr l e { frames := 0, cells := 0, slots := 0, locals := 0 } s m ([.ref (ad 0), .int (nI w), .int stp] : List Value).toArray below meth c H locs 0 0 (MQ below (va_Qi (fun r σ1 => ((r = 1 ∧ (True)) ∨ (r = 0 ∧ (True))) ∧ σ1 = σ) (PoC G kc shM ad A) A) ([.ref (ad 0), .int (nI w), .int stp] : List Value).toArray s 0 0 A) (F0 m 27 ls []) := by
        intro n
        induction n with
        | zero => intro q3_27 H locs ls hmu; exact absurd hmu (Nat.not_lt_zero _)
        | succ n ih6 =>
          intro q3_27 H locs ls hmu hq3_27 hw hl
          refine lv_iload_n hx hb (dkP dF_29 DX12_isWay (i := 17) rfl rfl) rfl (lv_at hl 0 rfl) ?_
          refine lv_aload_n hx hb (dkP dF_42 DX12_isWay (i := 18) rfl rfl) rfl (lv_at hl 1 rfl) ?_
          refine z_gi C0 hw 0 23 rfl fl_X12_342 (dk2 dF_180 DX12_isWay (i := 19) rfl rfl rfl) ?_
          refine z_top (y := (nI n4)) en4 ?_
          refine lv_icmp_ge (tgt := 63) hx hb (dkS dF_162 DX12_isWay (i := 20) rfl rfl rfl) (by decide) (fun c7 => ?_) (fun c7 => ?_)
          · simp (disch := omega) only [ta_lt, ta_le, ta_eq, tnI] at c7
            refine lv_iconst (v := 1) hx hb (dkP dF_4 DX12_isWay (i := 38) rfl rfl) (by decide) ?_
            exact z_zret C0 hr hlk (by decide) hw (⟨(Or.inl ⟨rfl, trivial⟩), rfl⟩) (dkP dF_172 DX12_isWay (i := 39) rfl rfl)
          · simp (disch := omega) only [ta_lt, ta_le, ta_eq, tnI] at c7
            refine lv_aload_n hx hb (dkP dF_42 DX12_isWay (i := 21) rfl rfl) rfl (lv_at hl 1 rfl) ?_
            refine z_gr C0 hw 0 30 18 rfl fl_X12_81 (dk2 dF_180 DX12_isWay (i := 22) rfl rfl rfl) ?_
            refine lv_bipush (v := 100) hx hb (dks dF_16 DX12_isWay (i := 23) rfl rfl rfl) (by decide) ?_
            refine lv_iload_n hx hb (dkP dF_27 DX12_isWay (i := 24) rfl rfl) rfl (lv_at hl 2 rfl) ?_
            refine lv_imul hx hb (dkP dF_104 DX12_isWay (i := 25) rfl rfl) ?_
            refine z_top (y := nI (100 * w)) (by simp only [fa_lit, nI_add, pk_mul]) ?_
            refine lv_iload_n hx hb (dkP dF_29 DX12_isWay (i := 26) rfl rfl) rfl (lv_at hl 0 rfl) ?_
            refine lv_iadd hx hb (dkP dF_96 DX12_isWay (i := 27) rfl rfl) ?_
            refine z_top (y := nI ((100 * w) + q3_27)) (by simp only [fa_lit, nI_add, pk_mul]) ?_
            refine z_ialdN (n := 20100) C0 hw 18 ((100 * w) + q3_27) rfl (by omega) (by decide) (dkP dF_46 DX12_isWay (i := 28) rfl rfl) ?_
            obtain ⟨n8, hn8, en8⟩ := rngN (x := σ.1 18 ((100 * w) + q3_27)) (h := 23) (show 0 ≤ _ ∧ _ ≤ 23 from hT 18 _)
            refine z_top (y := nI n8) en8 ?_
            refine lv_aload_n hx hb (dkP dF_42 DX12_isWay (i := 29) rfl rfl) rfl (lv_at hl 1 rfl) ?_
            refine z_gr C0 hw 0 22 13 rfl fl_X12_63 (dk2 dF_180 DX12_isWay (i := 30) rfl rfl rfl) ?_
            refine lv_iload_n hx hb (dkP dF_29 DX12_isWay (i := 31) rfl rfl) rfl (lv_at hl 0 rfl) ?_
            refine z_ialdN (n := 100) C0 hw 13 q3_27 rfl (by omega) (by decide) (dkP dF_46 DX12_isWay (i := 32) rfl rfl) ?_
            obtain ⟨n9, hn9, en9⟩ := rngN (x := σ.1 13 q3_27) (h := 23) (show 0 ≤ _ ∧ _ ≤ 23 from hT 13 _)
            refine z_top (y := nI n9) en9 ?_
            refine lv_icmp_eq (tgt := 57) hx hb (dkS dF_159 DX12_isWay (i := 33) rfl rfl rfl) (by decide) (fun c10 => ?_) (fun c10 => ?_)
            · simp (disch := omega) only [ta_lt, ta_le, ta_eq, tnI] at c10
              refine lv_iinc (v := nI (q3_27 + 1)) (lv' := [(3, .int (nI (q3_27 + 1))), (0, .ref (ad 0)), (1, .int (nI w)), (2, .int stp)]) hx hb (dkI DX12_isWay (i := 36) rfl rfl rfl rfl) hl (k := 0) rfl (nI_1 _) (by decide) rfl (fun ls hl => ?_)
              refine lv_goto (tgt := 27) hx hb (dkS dF_167 DX12_isWay (i := 37) rfl rfl rfl) (by decide) ?_
              exact ih6 (q3_27 + 1) _ _ _ (by omega) (by (try simp only [lg_cmp_lt, lg_cmp_le, lg_cmp_gt, lg_cmp_ge, lg_cmp_eq] at c2); (try simp (disch := omega) only [ta_lt, ta_le, ta_eq, tb_lt, tb_le, tb_eq, tw, tnI, tsub1, tsv, tn32 1 (by decide), tnj 1 (by decide), tl32 0 (by decide), tl64 0 (by decide), tl32 1 (by decide), tl64 1 (by decide), tl32 100 (by decide), tl64 100 (by decide)] at c2); (try simp only [lg_cmp_lt, lg_cmp_le, lg_cmp_gt, lg_cmp_ge, lg_cmp_eq] at c5); (try simp (disch := omega) only [ta_lt, ta_le, ta_eq, tb_lt, tb_le, tb_eq, tw, tnI, tsub1, tsv, tn32 1 (by decide), tnj 1 (by decide), tl32 0 (by decide), tl64 0 (by decide), tl32 1 (by decide), tl64 1 (by decide), tl32 100 (by decide), tl64 100 (by decide)] at c5); (try simp only [lg_cmp_lt, lg_cmp_le, lg_cmp_gt, lg_cmp_ge, lg_cmp_eq] at c7); (try simp (disch := omega) only [ta_lt, ta_le, ta_eq, tb_lt, tb_le, tb_eq, tw, tnI, tsub1, tsv, tn32 1 (by decide), tnj 1 (by decide), tl32 0 (by decide), tl64 0 (by decide), tl32 1 (by decide), tl64 1 (by decide), tl32 100 (by decide), tl64 100 (by decide)] at c7); (try simp only [lg_cmp_lt, lg_cmp_le, lg_cmp_gt, lg_cmp_ge, lg_cmp_eq] at c10); (try simp (disch := omega) only [ta_lt, ta_le, ta_eq, tb_lt, tb_le, tb_eq, tw, tnI, tsub1, tsv, tn32 1 (by decide), tnj 1 (by decide), tl32 0 (by decide), tl64 0 (by decide), tl32 1 (by decide), tl64 1 (by decide), tl32 100 (by decide), tl64 100 (by decide)] at c10); (try simp (disch := omega) only [ta_lt, ta_le, ta_eq, tb_lt, tb_le, tb_eq, tw, tnI, tsub1, tsv, tn32 1 (by decide), tnj 1 (by decide), tl32 0 (by decide), tl64 0 (by decide), tl32 1 (by decide), tl64 1 (by decide), tl32 100 (by decide), tl64 100 (by decide)]); omega) hw (lv_sub hl [0, 1, 2, 3] rfl)
            · simp (disch := omega) only [ta_lt, ta_le, ta_eq, tnI] at c10
              refine lv_iconst (v := 0) hx hb (dkP dF_3 DX12_isWay (i := 34) rfl rfl) (by decide) ?_
              exact z_zret C0 hr hlk (by decide) hw (⟨(Or.inr ⟨rfl, trivial⟩), rfl⟩) (dkP dF_172 DX12_isWay (i := 35) rfl rfl)
      exact lp6 _ 0 _ _ _ (Nat.lt_succ_self _) (by (try simp only [lg_cmp_lt, lg_cmp_le, lg_cmp_gt, lg_cmp_ge, lg_cmp_eq] at c2); (try simp (disch := omega) only [ta_lt, ta_le, ta_eq, tb_lt, tb_le, tb_eq, tw, tnI, tsub1, tsv, tn32 1 (by decide), tnj 1 (by decide), tl32 0 (by decide), tl64 0 (by decide), tl32 1 (by decide), tl64 1 (by decide), tl32 100 (by decide), tl64 100 (by decide)] at c2); (try simp only [lg_cmp_lt, lg_cmp_le, lg_cmp_gt, lg_cmp_ge, lg_cmp_eq] at c5); (try simp (disch := omega) only [ta_lt, ta_le, ta_eq, tb_lt, tb_le, tb_eq, tw, tnI, tsub1, tsv, tn32 1 (by decide), tnj 1 (by decide), tl32 0 (by decide), tl64 0 (by decide), tl32 1 (by decide), tl64 1 (by decide), tl32 100 (by decide), tl64 100 (by decide)] at c5); (try simp (disch := omega) only [ta_lt, ta_le, ta_eq, tb_lt, tb_le, tb_eq, tw, tnI, tsub1, tsv, tn32 1 (by decide), tnj 1 (by decide), tl32 0 (by decide), tl64 0 (by decide), tl32 1 (by decide), tl64 1 (by decide), tl32 100 (by decide), tl64 100 (by decide)]); omega) hw (lv_sub hl [0, 1, 2, 3] rfl)
    · simp (disch := omega) only [ta_lt, ta_le, ta_eq, tnI] at c5
      refine lv_iconst (v := 0) hx hb (dkP dF_3 DX12_isWay (i := 13) rfl rfl) (by decide) ?_
      exact z_zret C0 hr hlk (by decide) hw (⟨(Or.inr ⟨rfl, trivial⟩), rfl⟩) (dkP dF_172 DX12_isWay (i := 14) rfl rfl)
set_option maxRecDepth 100000 in
set_option maxHeartbeats 8000000 in
theorem c_X12_findWays (l : Launch) (G : va_G) (kc : KC) (ad : Nat → Nat) (σ : Sg) (pg : Nat) (hp8 : pg < 8) (hT : TM σ) : MI l G kc yX12_findWays cX12_findWays 6 (some .boolean) 4 89 [.ref (ad 0), .int (nI pg)] shM ad σ (fun r σ1 => ((r = 1 ∧ (True)) ∨ (r = 0 ∧ (True))) ∧ TM σ1 ∧ fr [11, 12, 13, 16, 17, 18, 19, 20] [23, 33] σ σ1) := by
  intro sz
  refine z_body (y := yX12_findWays) (n := 6) (av := [.ref (ad 0), .int (nI pg)]) (Qc := fun A => va_Qi (fun r σ1 => ((r = 1 ∧ (True)) ∨ (r = 0 ∧ (True))) ∧ TM σ1 ∧ fr [11, 12, 13, 16, 17, 18, 19, 20] [23, 33] σ σ1) (PoC G kc shM ad A) A) (plainFor_of_name (by decide)) (Nat.le_of_ble_eq_true rfl) (fun pr e s m below meth c A C0 hr hlk hnm hw hRo ls hl => ?_) sz
  have hx := C0.1
  have hb := C0.2.1
  have hown := C0.2.2.2.1
  have hts := C0.2.2.2.2.1
  have hl : lv_has ls 6 [(0, .ref (ad 0)), (1, .int (nI pg))] := hl
  refine lv_aload_n hx hb (dkP dF_42 DX12_findWays (i := 0) rfl rfl) rfl (lv_at hl 0 rfl) ?_
  refine lv_iconst (v := 0) hx hb (dkP dF_3 DX12_findWays (i := 1) rfl rfl) (by decide) ?_
  refine z_pi C0 hw 0 33 rfl fp_X12_384 (dk2 dF_181 DX12_findWays (i := 2) rfl rfl rfl) (fun H locs hw => ?_)
  have hT1 : TM (sI σ 0 33 0) := TM.w hT (show 0 ≤ _ ∧ _ ≤ 200 from by (try simp (disch := omega) only [ta_lt, ta_le, ta_eq, tb_lt, tb_le, tb_eq, tw, tnI, tsub1, tsv, tn32 1 (by decide), tnj 1 (by decide), tl32 0 (by decide), tl64 0 (by decide)]); omega)
  have hF1 : fr [11, 12, 13, 16, 17, 18, 19, 20] [23, 33] σ (sI σ 0 33 0) := fr.w fr.refl (by decide)
  refine lv_aload_n hx hb (dkP dF_42 DX12_findWays (i := 3) rfl rfl) rfl (lv_at hl 0 rfl) ?_
  refine lv_iload_n hx hb (dkP dF_27 DX12_findWays (i := 4) rfl rfl) rfl (lv_at hl 1 rfl) ?_
  refine zk_I hw (zr_V (As := [.int (nI pg)]) (rest := []) C0 (c_X12_inputsOf l G kc ad (sI σ 0 33 0) pg (by first | omega | assumption | decide | rfl) hT1 _) cv_X12_inputsOf lk_X12_339 (zp_V C0 hRo hw 0 rfl rfl rfl) rfl hl.1 rfl ⟨by decide, by decide⟩ (Nat.le_of_ble_eq_true rfl) (dk2 dF_182 DX12_findWays (i := 5) rfl rfl rfl) ⟨Nat.le_refl _, Nat.le_refl _⟩) (fun r2 s2 H locs hp hw => ?_)
  obtain ⟨hs2⟩ := hp
  (rw [hs2] at hw)
  refine lv_istore_n (lv' := [(2, .int r2), (0, .ref (ad 0)), (1, .int (nI pg))]) hx hb (dkP dF_61 DX12_findWays (i := 6) rfl rfl) rfl hl (by decide) rfl (fun ls hl => ?_)
  refine lv_iconst (v := 0) hx hb (dkP dF_3 DX12_findWays (i := 7) rfl rfl) (by decide) ?_
  refine lv_istore_n (lv' := [(3, .int 0), (2, .int r2), (0, .ref (ad 0)), (1, .int (nI pg))]) hx hb (dkP dF_62 DX12_findWays (i := 8) rfl rfl) rfl hl (by decide) rfl (fun ls hl => ?_)
  have lp4 : ∀ (n : Nat) (q3_13 : Nat) (τ3 : Sg) (H : Heap) (locs : List Loc) (ls : Array Slot), 2147483647 - q3_13 < n → (q3_13 ≤ 2147483647) → (TM τ3) → (fr [11, 12, 13, 16, 17, 18, 19, 20] [23, 33] σ τ3) → St G kc A s.heap shM ad τ3 H locs → lv_has ls 6 [(3, .int (nI q3_13)), (2, .int r2), (0, .ref (ad 0)), (1, .int (nI pg))] → W pr l e { frames := 4, cells := 0, slots := 0, locals := 89 } s m ([.ref (ad 0), .int (nI pg)] : List Value).toArray below meth c H locs 0 0 (MQ below (va_Qi (fun r σ1 => ((r = 1 ∧ (True)) ∨ (r = 0 ∧ (True))) ∧ TM σ1 ∧ fr [11, 12, 13, 16, 17, 18, 19, 20] [23, 33] σ σ1) (PoC G kc shM ad A) A) ([.ref (ad 0), .int (nI pg)] : List Value).toArray s 0 0 A) (F0 m 13 ls []) := by
    intro n
    induction n with
    | zero => intro q3_13 τ3 H locs ls hmu; exact absurd hmu (Nat.not_lt_zero _)
    | succ n ih4 =>
      intro q3_13 τ3 H locs ls hmu hq3_13 hT_τ3 hF_τ3 hw hl
      refine lv_iload_n hx hb (dkP dF_29 DX12_findWays (i := 9) rfl rfl) rfl (lv_at hl 0 rfl) ?_
      refine lv_iload_n hx hb (dkP dF_28 DX12_findWays (i := 10) rfl rfl) rfl (lv_at hl 1 rfl) ?_
      refine lv_icmp_ge (tgt := 163) hx hb (dkS dF_162 DX12_findWays (i := 11) rfl rfl rfl) (by decide) (fun c5 => ?_) (fun c5 => ?_)
      · (try simp (disch := omega) only [ta_lt, ta_le, ta_eq, tnI] at c5); have hz5 := i32b r2
        refine lv_iconst (v := 1) hx hb (dkP dF_4 DX12_findWays (i := 90) rfl rfl) (by decide) ?_
        exact z_zret C0 hr hlk (by decide) hw (⟨(Or.inl ⟨rfl, trivial⟩), hT_τ3, hF_τ3⟩) (dkP dF_172 DX12_findWays (i := 91) rfl rfl)
      · (try simp (disch := omega) only [ta_lt, ta_le, ta_eq, tnI] at c5); have hz5 := i32b r2
        refine lv_aload_n hx hb (dkP dF_42 DX12_findWays (i := 12) rfl rfl) rfl (lv_at hl 2 rfl) ?_
        refine lv_iload_n hx hb (dkP dF_27 DX12_findWays (i := 13) rfl rfl) rfl (lv_at hl 3 rfl) ?_
        refine lv_iload_n hx hb (dkP dF_29 DX12_findWays (i := 14) rfl rfl) rfl (lv_at hl 0 rfl) ?_
        refine zk_V hw (zr_V (As := [.int (nI pg), .int (nI q3_13)]) (rest := []) C0 (c_X12_beginsWith l G kc ad τ3 pg (nI q3_13) (by first | omega | assumption | decide | rfl) hT_τ3 _) cv_X12_beginsWith lk_X12_372 (zp_V C0 hRo hw 0 rfl rfl rfl) rfl hl.1 rfl ⟨by decide, by decide⟩ (Nat.le_of_ble_eq_true rfl) (dk2 dF_182 DX12_findWays (i := 15) rfl rfl rfl) ⟨Nat.le_refl _, Nat.le_refl _⟩) (fun s6 H locs hp hw => ?_)
        obtain ⟨hT6, hG6⟩ := hp
        have hF6 : fr [11, 12, 13, 16, 17, 18, 19, 20] [23, 33] σ s6 := fr.t hF_τ3 hG6 (by decide) (by decide)
        refine lv_aload_n hx hb (dkP dF_42 DX12_findWays (i := 16) rfl rfl) rfl (lv_at hl 2 rfl) ?_
        refine lv_iload_n hx hb (dkP dF_27 DX12_findWays (i := 17) rfl rfl) rfl (lv_at hl 3 rfl) ?_
        refine zk_I hw (zr_V (As := [.int (nI pg)]) (rest := []) C0 (c_X12_runs l G kc ad s6 pg (by first | omega | assumption | decide | rfl) hT6 _) cv_X12_runs lk_X12_375 (zp_V C0 hRo hw 0 rfl rfl rfl) rfl hl.1 rfl ⟨by decide, by decide⟩ (Nat.le_of_ble_eq_true rfl) (dk2 dF_182 DX12_findWays (i := 18) rfl rfl rfl) ⟨Nat.le_refl _, Nat.le_refl _⟩) (fun r7 s7 H locs hp hw => ?_)
        obtain ⟨f7_0, hT7, hG7⟩ := hp
        have hF7 : fr [11, 12, 13, 16, 17, 18, 19, 20] [23, 33] σ s7 := fr.t hF6 hG7 (by decide) (by decide)
        obtain ⟨n7, hn7, rfl⟩ := rngN (h := 4) f7_0
        refine lv_istore (lv' := [(4, .int (nI n7)), (3, .int (nI q3_13)), (2, .int r2), (0, .ref (ad 0)), (1, .int (nI pg))]) hx hb (dk1 dF_54 DX12_findWays (i := 19) rfl rfl rfl) hl (by decide) rfl (fun ls hl => ?_)
        refine lv_iconst (v := 0) hx hb (dkP dF_3 DX12_findWays (i := 20) rfl rfl) (by decide) ?_
        refine lv_istore (lv' := [(5, .int 0), (4, .int (nI n7)), (3, .int (nI q3_13)), (2, .int r2), (0, .ref (ad 0)), (1, .int (nI pg))]) hx hb (dk1 dF_54 DX12_findWays (i := 21) rfl rfl rfl) hl (by decide) rfl (fun ls hl => ?_)
        have lp8 : ∀ (n : Nat) (q5_34 : Nat) (H : Heap) (locs : List Loc) (ls : Array Slot), 200 - q5_34 < n → (q5_34 ≤ 200) → St G kc A s.heap shM ad s7 H locs → lv_has ls 6 [(5, .int (nI q5_34)), (4, .int (nI n7)), (3, .int (nI q3_13)), (2, .int r2), (0, .ref (ad 0)), (1, .int (nI pg))] → W pr l e { frames := 4, cells := 0, slots := 0, locals := 89 } s m ([.ref (ad 0), .int (nI pg)] : List Value).toArray below meth c H locs 0 0 (MQ below (va_Qi (fun r σ1 => ((r = 1 ∧ (True)) ∨ (r = 0 ∧ (True))) ∧ TM σ1 ∧ fr [11, 12, 13, 16, 17, 18, 19, 20] [23, 33] σ σ1) (PoC G kc shM ad A) A) ([.ref (ad 0), .int (nI pg)] : List Value).toArray s 0 0 A) (F0 m 34 ls []) := by
          intro n
          induction n with
          | zero => intro q5_34 H locs ls hmu; exact absurd hmu (Nat.not_lt_zero _)
          | succ n ih8 =>
            intro q5_34 H locs ls hmu hq5_34 hw hl
            refine lv_iload hx hb (dk1 dF_21 DX12_findWays (i := 22) rfl rfl rfl) (lv_at hl 0 rfl) ?_
            refine lv_aload_n hx hb (dkP dF_42 DX12_findWays (i := 23) rfl rfl) rfl (lv_at hl 4 rfl) ?_
            refine z_gi C0 hw 0 33 rfl fl_X12_384 (dk2 dF_180 DX12_findWays (i := 24) rfl rfl rfl) ?_
            obtain ⟨n9, hn9, en9⟩ := rngN (x := s7.1 0 33) (h := 200) (show 0 ≤ _ ∧ _ ≤ 200 from hT7 0 33)
            refine z_top (y := nI n9) en9 ?_
            refine lv_icmp_ge (tgt := 60) hx hb (dkS dF_162 DX12_findWays (i := 25) rfl rfl rfl) (by decide) (fun c10 => ?_) (fun c10 => ?_)
            · simp (disch := omega) only [ta_lt, ta_le, ta_eq, tnI] at c10
              refine lv_iload hx hb (dk1 dF_21 DX12_findWays (i := 33) rfl rfl rfl) (lv_at hl 0 rfl) ?_
              refine lv_sipush (v := 200) hx hb (dkS dF_17 DX12_findWays (i := 34) rfl rfl rfl) (by decide) ?_
              refine lv_icmp_ne (tgt := 70) hx hb (dkS dF_160 DX12_findWays (i := 35) rfl rfl rfl) (by decide) (fun c11 => ?_) (fun c11 => ?_)
              · simp (disch := omega) only [ta_lt, ta_le, ta_eq, tnI, tl32 200 (by decide)] at c11
                refine lv_iload hx hb (dk1 dF_21 DX12_findWays (i := 38) rfl rfl rfl) (lv_at hl 0 rfl) ?_
                refine lv_aload_n hx hb (dkP dF_42 DX12_findWays (i := 39) rfl rfl) rfl (lv_at hl 4 rfl) ?_
                refine z_gi C0 hw 0 33 rfl fl_X12_384 (dk2 dF_180 DX12_findWays (i := 40) rfl rfl rfl) ?_
                refine z_top (y := (nI n9)) en9 ?_
                refine lv_icmp_ne (tgt := 146) hx hb (dkS dF_160 DX12_findWays (i := 41) rfl rfl rfl) (by decide) (fun c12 => ?_) (fun c12 => ?_)
                · simp (disch := omega) only [ta_lt, ta_le, ta_eq, tnI] at c12
                  refine lv_aload_n hx hb (dkP dF_42 DX12_findWays (i := 80) rfl rfl) rfl (lv_at hl 4 rfl) ?_
                  refine z_gr C0 hw 0 31 19 rfl fl_X12_84 (dk2 dF_180 DX12_findWays (i := 81) rfl rfl rfl) ?_
                  refine lv_iload hx hb (dk1 dF_21 DX12_findWays (i := 82) rfl rfl rfl) (lv_at hl 0 rfl) ?_
                  refine lv_dup2_11 hx hb (dkP dF_92 DX12_findWays (i := 83) rfl rfl) rfl rfl ?_
                  refine z_ialdN (n := 201) C0 hw 19 q5_34 rfl (by omega) (by decide) (dkP dF_46 DX12_findWays (i := 84) rfl rfl) ?_
                  obtain ⟨v13, ev13⟩ : ∃ y : Int32, s7.1 19 q5_34 = y := ⟨_, rfl⟩
                  refine z_top (y := v13) ev13 ?_
                  refine lv_iconst (v := 1) hx hb (dkP dF_4 DX12_findWays (i := 85) rfl rfl) (by decide) ?_
                  refine lv_iadd hx hb (dkP dF_96 DX12_findWays (i := 86) rfl rfl) ?_
                  refine z_iastN (n := 201) C0 hw 19 q5_34 rfl (by omega) (by decide) (dkP dF_79 DX12_findWays (i := 87) rfl rfl) (fun H locs hw => ?_)
                  have hT14 : TM (sI s7 19 q5_34 (v13 + 1)) := TM.w hT7 (show True from trivial)
                  have hF14 : fr [11, 12, 13, 16, 17, 18, 19, 20] [23, 33] σ (sI s7 19 q5_34 (v13 + 1)) := fr.w hF7 (by decide)
                  refine lv_iinc (v := nI (q3_13 + 1)) (lv' := [(3, .int (nI (q3_13 + 1))), (5, .int (nI q5_34)), (4, .int (nI n7)), (2, .int r2), (0, .ref (ad 0)), (1, .int (nI pg))]) hx hb (dkI DX12_findWays (i := 88) rfl rfl rfl rfl) hl (k := 2) rfl (nI_1 _) (by decide) rfl (fun ls hl => ?_)
                  refine lv_goto (tgt := 13) hx hb (dkS dF_167 DX12_findWays (i := 89) rfl rfl rfl) (by decide) ?_
                  exact ih4 (q3_13 + 1) (sI s7 19 q5_34 (v13 + 1)) _ _ _ (by omega) (by (try simp only [lg_cmp_lt, lg_cmp_le, lg_cmp_gt, lg_cmp_ge, lg_cmp_eq] at c5); (try simp (disch := omega) only [ta_lt, ta_le, ta_eq, tb_lt, tb_le, tb_eq, tw, tnI, tsub1, tsv, tn32 1 (by decide), tnj 1 (by decide), tl32 0 (by decide), tl64 0 (by decide), tl32 1 (by decide), tl64 1 (by decide), tl32 200 (by decide), tl64 200 (by decide)] at c5); (try simp only [lg_cmp_lt, lg_cmp_le, lg_cmp_gt, lg_cmp_ge, lg_cmp_eq] at f7_0); (try simp (disch := omega) only [ta_lt, ta_le, ta_eq, tb_lt, tb_le, tb_eq, tw, tnI, tsub1, tsv, tn32 1 (by decide), tnj 1 (by decide), tl32 0 (by decide), tl64 0 (by decide), tl32 1 (by decide), tl64 1 (by decide), tl32 200 (by decide), tl64 200 (by decide)] at f7_0); (try simp only [lg_cmp_lt, lg_cmp_le, lg_cmp_gt, lg_cmp_ge, lg_cmp_eq] at c10); (try simp (disch := omega) only [ta_lt, ta_le, ta_eq, tb_lt, tb_le, tb_eq, tw, tnI, tsub1, tsv, tn32 1 (by decide), tnj 1 (by decide), tl32 0 (by decide), tl64 0 (by decide), tl32 1 (by decide), tl64 1 (by decide), tl32 200 (by decide), tl64 200 (by decide)] at c10); (try simp only [lg_cmp_lt, lg_cmp_le, lg_cmp_gt, lg_cmp_ge, lg_cmp_eq] at c11); (try simp (disch := omega) only [ta_lt, ta_le, ta_eq, tb_lt, tb_le, tb_eq, tw, tnI, tsub1, tsv, tn32 1 (by decide), tnj 1 (by decide), tl32 0 (by decide), tl64 0 (by decide), tl32 1 (by decide), tl64 1 (by decide), tl32 200 (by decide), tl64 200 (by decide)] at c11); (try simp only [lg_cmp_lt, lg_cmp_le, lg_cmp_gt, lg_cmp_ge, lg_cmp_eq] at c12); (try simp (disch := omega) only [ta_lt, ta_le, ta_eq, tb_lt, tb_le, tb_eq, tw, tnI, tsub1, tsv, tn32 1 (by decide), tnj 1 (by decide), tl32 0 (by decide), tl64 0 (by decide), tl32 1 (by decide), tl64 1 (by decide), tl32 200 (by decide), tl64 200 (by decide)] at c12); (try simp (disch := omega) only [ta_lt, ta_le, ta_eq, tb_lt, tb_le, tb_eq, tw, tnI, tsub1, tsv, tn32 1 (by decide), tnj 1 (by decide), tl32 0 (by decide), tl64 0 (by decide), tl32 1 (by decide), tl64 1 (by decide), tl32 200 (by decide), tl64 200 (by decide)]); omega) hT14 hF14 hw (lv_sub hl [0, 3, 4, 5] rfl)
                · simp (disch := omega) only [ta_lt, ta_le, ta_eq, tnI] at c12
                  refine lv_aload_n hx hb (dkP dF_42 DX12_findWays (i := 42) rfl rfl) rfl (lv_at hl 4 rfl) ?_
                  refine z_gr C0 hw 0 28 16 rfl fl_X12_75 (dk2 dF_180 DX12_findWays (i := 43) rfl rfl rfl) ?_
                  refine lv_iload hx hb (dk1 dF_21 DX12_findWays (i := 44) rfl rfl rfl) (lv_at hl 0 rfl) ?_
                  refine lv_iload hx hb (dk1 dF_21 DX12_findWays (i := 45) rfl rfl rfl) (lv_at hl 1 rfl) ?_
                  refine z_iastN (n := 201) C0 hw 16 q5_34 rfl (by omega) (by decide) (dkP dF_79 DX12_findWays (i := 46) rfl rfl) (fun H locs hw => ?_)
                  have hT15 : TM (sI s7 16 q5_34 (nI n7)) := TM.w hT7 (show True from trivial)
                  have hF15 : fr [11, 12, 13, 16, 17, 18, 19, 20] [23, 33] σ (sI s7 16 q5_34 (nI n7)) := fr.w hF7 (by decide)
                  refine lv_aload_n hx hb (dkP dF_42 DX12_findWays (i := 47) rfl rfl) rfl (lv_at hl 4 rfl) ?_
                  refine z_gr C0 hw 0 29 17 rfl fl_X12_78 (dk2 dF_180 DX12_findWays (i := 48) rfl rfl rfl) ?_
                  refine lv_iload hx hb (dk1 dF_21 DX12_findWays (i := 49) rfl rfl rfl) (lv_at hl 0 rfl) ?_
                  refine lv_aload_n hx hb (dkP dF_42 DX12_findWays (i := 50) rfl rfl) rfl (lv_at hl 4 rfl) ?_
                  refine z_gi C0 hw 0 23 rfl fl_X12_342 (dk2 dF_180 DX12_findWays (i := 51) rfl rfl rfl) ?_
                  obtain ⟨n16, hn16, en16⟩ := rngN (x := (sI s7 16 q5_34 (nI n7)).1 0 23) (h := 100) (show 0 ≤ _ ∧ _ ≤ 100 from hT15 0 23)
                  refine z_top (y := nI n16) en16 ?_
                  refine z_iastN (n := 201) C0 hw 17 q5_34 rfl (by omega) (by decide) (dkP dF_79 DX12_findWays (i := 52) rfl rfl) (fun H locs hw => ?_)
                  have hT17 : TM (sI (sI s7 16 q5_34 (nI n7)) 17 q5_34 (nI n16)) := TM.w hT15 (show 0 ≤ _ ∧ _ ≤ 100 from by (try simp only [lg_cmp_lt, lg_cmp_le, lg_cmp_gt, lg_cmp_ge, lg_cmp_eq] at c5); (try simp (disch := omega) only [ta_lt, ta_le, ta_eq, tb_lt, tb_le, tb_eq, tw, tnI, tsub1, tsv, tn32 1 (by decide), tnj 1 (by decide), tl32 0 (by decide), tl64 0 (by decide), tl32 1 (by decide), tl64 1 (by decide), tl32 200 (by decide), tl64 200 (by decide)] at c5); (try simp only [lg_cmp_lt, lg_cmp_le, lg_cmp_gt, lg_cmp_ge, lg_cmp_eq] at f7_0); (try simp (disch := omega) only [ta_lt, ta_le, ta_eq, tb_lt, tb_le, tb_eq, tw, tnI, tsub1, tsv, tn32 1 (by decide), tnj 1 (by decide), tl32 0 (by decide), tl64 0 (by decide), tl32 1 (by decide), tl64 1 (by decide), tl32 200 (by decide), tl64 200 (by decide)] at f7_0); (try simp only [lg_cmp_lt, lg_cmp_le, lg_cmp_gt, lg_cmp_ge, lg_cmp_eq] at c10); (try simp (disch := omega) only [ta_lt, ta_le, ta_eq, tb_lt, tb_le, tb_eq, tw, tnI, tsub1, tsv, tn32 1 (by decide), tnj 1 (by decide), tl32 0 (by decide), tl64 0 (by decide), tl32 1 (by decide), tl64 1 (by decide), tl32 200 (by decide), tl64 200 (by decide)] at c10); (try simp only [lg_cmp_lt, lg_cmp_le, lg_cmp_gt, lg_cmp_ge, lg_cmp_eq] at c11); (try simp (disch := omega) only [ta_lt, ta_le, ta_eq, tb_lt, tb_le, tb_eq, tw, tnI, tsub1, tsv, tn32 1 (by decide), tnj 1 (by decide), tl32 0 (by decide), tl64 0 (by decide), tl32 1 (by decide), tl64 1 (by decide), tl32 200 (by decide), tl64 200 (by decide)] at c11); (try simp only [lg_cmp_lt, lg_cmp_le, lg_cmp_gt, lg_cmp_ge, lg_cmp_eq] at c12); (try simp (disch := omega) only [ta_lt, ta_le, ta_eq, tb_lt, tb_le, tb_eq, tw, tnI, tsub1, tsv, tn32 1 (by decide), tnj 1 (by decide), tl32 0 (by decide), tl64 0 (by decide), tl32 1 (by decide), tl64 1 (by decide), tl32 200 (by decide), tl64 200 (by decide)] at c12); (try simp (disch := omega) only [ta_lt, ta_le, ta_eq, tb_lt, tb_le, tb_eq, tw, tnI, tsub1, tsv, tn32 1 (by decide), tnj 1 (by decide), tl32 0 (by decide), tl64 0 (by decide), tl32 1 (by decide), tl64 1 (by decide), tl32 200 (by decide), tl64 200 (by decide)]); omega)
                  have hF17 : fr [11, 12, 13, 16, 17, 18, 19, 20] [23, 33] σ (sI (sI s7 16 q5_34 (nI n7)) 17 q5_34 (nI n16)) := fr.w hF15 (by decide)
                  refine lv_aload_n hx hb (dkP dF_42 DX12_findWays (i := 53) rfl rfl) rfl (lv_at hl 4 rfl) ?_
                  refine z_gr C0 hw 0 22 13 rfl fl_X12_63 (dk2 dF_180 DX12_findWays (i := 54) rfl rfl rfl) ?_
                  refine lv_iconst (v := 0) hx hb (dkP dF_3 DX12_findWays (i := 55) rfl rfl) (by decide) ?_
                  refine lv_aload_n hx hb (dkP dF_42 DX12_findWays (i := 56) rfl rfl) rfl (lv_at hl 4 rfl) ?_
                  refine z_gr C0 hw 0 30 18 rfl fl_X12_81 (dk2 dF_180 DX12_findWays (i := 57) rfl rfl rfl) ?_
                  refine lv_bipush (v := 100) hx hb (dks dF_16 DX12_findWays (i := 58) rfl rfl rfl) (by decide) ?_
                  refine lv_iload hx hb (dk1 dF_21 DX12_findWays (i := 59) rfl rfl rfl) (lv_at hl 0 rfl) ?_
                  refine lv_imul hx hb (dkP dF_104 DX12_findWays (i := 60) rfl rfl) ?_
                  refine z_top (y := nI (100 * q5_34)) (by simp only [fa_lit, nI_add, pk_mul]) ?_
                  refine lv_aload_n hx hb (dkP dF_42 DX12_findWays (i := 61) rfl rfl) rfl (lv_at hl 4 rfl) ?_
                  refine z_gi C0 hw 0 23 rfl fl_X12_342 (dk2 dF_180 DX12_findWays (i := 62) rfl rfl rfl) ?_
                  refine z_top (y := (nI n16)) ((rd_n (by omega)).trans en16) ?_
                  refine zk_V hw (zr_S (As := [.ref (ad 13), .int 0, .ref (ad 18), .int (nI (100 * q5_34)), .int (nI n16)]) (rest := []) C0 (c_X12_lays_13_18 l G kc ad (sI (sI s7 16 q5_34 (nI n7)) 17 q5_34 (nI n16)) 0 (100 * q5_34) n16 (by omega) (by omega) (fun i hi v h => h) hT17 _) cs_X12_lays lk_X12_255 (zp_S C0 hRo hw) rfl hl.1 rfl ⟨by decide, by decide⟩ (Nat.le_of_ble_eq_true rfl) (dk2 dF_184 DX12_findWays (i := 63) rfl rfl rfl) ⟨Nat.le_refl _, Nat.le_refl _⟩) (fun s18 H locs hp hw => ?_)
                  obtain ⟨f18_0, hT18, hG18⟩ := hp
                  have hF18 : fr [11, 12, 13, 16, 17, 18, 19, 20] [23, 33] σ s18 := fr.t hF17 hG18 (by decide) (by decide)
                  refine lv_aload_n hx hb (dkP dF_42 DX12_findWays (i := 64) rfl rfl) rfl (lv_at hl 4 rfl) ?_
                  refine z_gr C0 hw 0 31 19 rfl fl_X12_84 (dk2 dF_180 DX12_findWays (i := 65) rfl rfl rfl) ?_
                  refine lv_iload hx hb (dk1 dF_21 DX12_findWays (i := 66) rfl rfl rfl) (lv_at hl 0 rfl) ?_
                  refine lv_iconst (v := 0) hx hb (dkP dF_3 DX12_findWays (i := 67) rfl rfl) (by decide) ?_
                  refine z_iastN (n := 201) C0 hw 19 q5_34 rfl (by omega) (by decide) (dkP dF_79 DX12_findWays (i := 68) rfl rfl) (fun H locs hw => ?_)
                  have hT19 : TM (sI s18 19 q5_34 0) := TM.w hT18 (show True from trivial)
                  have hF19 : fr [11, 12, 13, 16, 17, 18, 19, 20] [23, 33] σ (sI s18 19 q5_34 0) := fr.w hF18 (by decide)
                  refine lv_aload_n hx hb (dkP dF_42 DX12_findWays (i := 69) rfl rfl) rfl (lv_at hl 4 rfl) ?_
                  refine z_gr C0 hw 0 32 20 rfl fl_X12_87 (dk2 dF_180 DX12_findWays (i := 70) rfl rfl rfl) ?_
                  refine lv_iload hx hb (dk1 dF_21 DX12_findWays (i := 71) rfl rfl rfl) (lv_at hl 0 rfl) ?_
                  refine lv_iload_n hx hb (dkP dF_29 DX12_findWays (i := 72) rfl rfl) rfl (lv_at hl 2 rfl) ?_
                  refine z_iastN (n := 201) C0 hw 20 q5_34 rfl (by omega) (by decide) (dkP dF_79 DX12_findWays (i := 73) rfl rfl) (fun H locs hw => ?_)
                  have hT20 : TM (sI (sI s18 19 q5_34 0) 20 q5_34 (nI q3_13)) := TM.w hT19 (show True from trivial)
                  have hF20 : fr [11, 12, 13, 16, 17, 18, 19, 20] [23, 33] σ (sI (sI s18 19 q5_34 0) 20 q5_34 (nI q3_13)) := fr.w hF19 (by decide)
                  refine lv_aload_n hx hb (dkP dF_42 DX12_findWays (i := 74) rfl rfl) rfl (lv_at hl 4 rfl) ?_
                  refine lv_dup hx hb (dkP dF_89 DX12_findWays (i := 75) rfl rfl) rfl ?_
                  refine z_gi C0 hw 0 33 rfl fl_X12_384 (dk2 dF_180 DX12_findWays (i := 76) rfl rfl rfl) ?_
                  refine z_top (y := (nI n9)) ((rd_n (by omega)).trans ((rd_n (by omega)).trans ((hG18.2.1 33 (by decide)).trans ((rd_n (by omega)).trans ((rd_n (by omega)).trans en9))))) ?_
                  refine lv_iconst (v := 1) hx hb (dkP dF_4 DX12_findWays (i := 77) rfl rfl) (by decide) ?_
                  refine lv_iadd hx hb (dkP dF_96 DX12_findWays (i := 78) rfl rfl) ?_
                  refine z_top (y := nI (n9 + 1)) (by simp only [fa_lit, nI_add, pk_mul]) ?_
                  refine z_pi C0 hw 0 33 rfl fp_X12_384 (dk2 dF_181 DX12_findWays (i := 79) rfl rfl rfl) (fun H locs hw => ?_)
                  have hT21 : TM (sI (sI (sI s18 19 q5_34 0) 20 q5_34 (nI q3_13)) 0 33 (nI (n9 + 1))) := TM.w hT20 (show 0 ≤ _ ∧ _ ≤ 200 from by (try simp only [lg_cmp_lt, lg_cmp_le, lg_cmp_gt, lg_cmp_ge, lg_cmp_eq] at c5); (try simp (disch := omega) only [ta_lt, ta_le, ta_eq, tb_lt, tb_le, tb_eq, tw, tnI, tsub1, tsv, tn32 1 (by decide), tnj 1 (by decide), tl32 0 (by decide), tl64 0 (by decide), tl32 1 (by decide), tl64 1 (by decide), tl32 100 (by decide), tl64 100 (by decide), tl32 200 (by decide), tl64 200 (by decide)] at c5); (try simp only [lg_cmp_lt, lg_cmp_le, lg_cmp_gt, lg_cmp_ge, lg_cmp_eq] at f7_0); (try simp (disch := omega) only [ta_lt, ta_le, ta_eq, tb_lt, tb_le, tb_eq, tw, tnI, tsub1, tsv, tn32 1 (by decide), tnj 1 (by decide), tl32 0 (by decide), tl64 0 (by decide), tl32 1 (by decide), tl64 1 (by decide), tl32 100 (by decide), tl64 100 (by decide), tl32 200 (by decide), tl64 200 (by decide)] at f7_0); (try simp only [lg_cmp_lt, lg_cmp_le, lg_cmp_gt, lg_cmp_ge, lg_cmp_eq] at c10); (try simp (disch := omega) only [ta_lt, ta_le, ta_eq, tb_lt, tb_le, tb_eq, tw, tnI, tsub1, tsv, tn32 1 (by decide), tnj 1 (by decide), tl32 0 (by decide), tl64 0 (by decide), tl32 1 (by decide), tl64 1 (by decide), tl32 100 (by decide), tl64 100 (by decide), tl32 200 (by decide), tl64 200 (by decide)] at c10); (try simp only [lg_cmp_lt, lg_cmp_le, lg_cmp_gt, lg_cmp_ge, lg_cmp_eq] at c11); (try simp (disch := omega) only [ta_lt, ta_le, ta_eq, tb_lt, tb_le, tb_eq, tw, tnI, tsub1, tsv, tn32 1 (by decide), tnj 1 (by decide), tl32 0 (by decide), tl64 0 (by decide), tl32 1 (by decide), tl64 1 (by decide), tl32 100 (by decide), tl64 100 (by decide), tl32 200 (by decide), tl64 200 (by decide)] at c11); (try simp only [lg_cmp_lt, lg_cmp_le, lg_cmp_gt, lg_cmp_ge, lg_cmp_eq] at c12); (try simp (disch := omega) only [ta_lt, ta_le, ta_eq, tb_lt, tb_le, tb_eq, tw, tnI, tsub1, tsv, tn32 1 (by decide), tnj 1 (by decide), tl32 0 (by decide), tl64 0 (by decide), tl32 1 (by decide), tl64 1 (by decide), tl32 100 (by decide), tl64 100 (by decide), tl32 200 (by decide), tl64 200 (by decide)] at c12); (try simp only [lg_cmp_lt, lg_cmp_le, lg_cmp_gt, lg_cmp_ge, lg_cmp_eq] at f18_0); (try simp (disch := omega) only [ta_lt, ta_le, ta_eq, tb_lt, tb_le, tb_eq, tw, tnI, tsub1, tsv, tn32 1 (by decide), tnj 1 (by decide), tl32 0 (by decide), tl64 0 (by decide), tl32 1 (by decide), tl64 1 (by decide), tl32 100 (by decide), tl64 100 (by decide), tl32 200 (by decide), tl64 200 (by decide)] at f18_0); (try simp (disch := omega) only [ta_lt, ta_le, ta_eq, tb_lt, tb_le, tb_eq, tw, tnI, tsub1, tsv, tn32 1 (by decide), tnj 1 (by decide), tl32 0 (by decide), tl64 0 (by decide), tl32 1 (by decide), tl64 1 (by decide), tl32 100 (by decide), tl64 100 (by decide), tl32 200 (by decide), tl64 200 (by decide)]); omega)
                  have hF21 : fr [11, 12, 13, 16, 17, 18, 19, 20] [23, 33] σ (sI (sI (sI s18 19 q5_34 0) 20 q5_34 (nI q3_13)) 0 33 (nI (n9 + 1))) := fr.w hF20 (by decide)
                  refine lv_aload_n hx hb (dkP dF_42 DX12_findWays (i := 80) rfl rfl) rfl (lv_at hl 4 rfl) ?_
                  refine z_gr C0 hw 0 31 19 rfl fl_X12_84 (dk2 dF_180 DX12_findWays (i := 81) rfl rfl rfl) ?_
                  refine lv_iload hx hb (dk1 dF_21 DX12_findWays (i := 82) rfl rfl rfl) (lv_at hl 0 rfl) ?_
                  refine lv_dup2_11 hx hb (dkP dF_92 DX12_findWays (i := 83) rfl rfl) rfl rfl ?_
                  refine z_ialdN (n := 201) C0 hw 19 q5_34 rfl (by omega) (by decide) (dkP dF_46 DX12_findWays (i := 84) rfl rfl) ?_
                  refine z_top (y := 0) ((rd_n (by omega)).trans ((rd_n (by omega)).trans rd_s)) ?_
                  refine lv_iconst (v := 1) hx hb (dkP dF_4 DX12_findWays (i := 85) rfl rfl) (by decide) ?_
                  refine lv_iadd hx hb (dkP dF_96 DX12_findWays (i := 86) rfl rfl) ?_
                  refine z_top (y := 1) (by decide) ?_
                  refine z_iastN (n := 201) C0 hw 19 q5_34 rfl (by omega) (by decide) (dkP dF_79 DX12_findWays (i := 87) rfl rfl) (fun H locs hw => ?_)
                  have hT22 : TM (sI (sI (sI (sI s18 19 q5_34 0) 20 q5_34 (nI q3_13)) 0 33 (nI (n9 + 1))) 19 q5_34 1) := TM.w hT21 (show True from trivial)
                  have hF22 : fr [11, 12, 13, 16, 17, 18, 19, 20] [23, 33] σ (sI (sI (sI (sI s18 19 q5_34 0) 20 q5_34 (nI q3_13)) 0 33 (nI (n9 + 1))) 19 q5_34 1) := fr.w hF21 (by decide)
                  refine lv_iinc (v := nI (q3_13 + 1)) (lv' := [(3, .int (nI (q3_13 + 1))), (5, .int (nI q5_34)), (4, .int (nI n7)), (2, .int r2), (0, .ref (ad 0)), (1, .int (nI pg))]) hx hb (dkI DX12_findWays (i := 88) rfl rfl rfl rfl) hl (k := 2) rfl (nI_1 _) (by decide) rfl (fun ls hl => ?_)
                  refine lv_goto (tgt := 13) hx hb (dkS dF_167 DX12_findWays (i := 89) rfl rfl rfl) (by decide) ?_
                  exact ih4 (q3_13 + 1) (sI (sI (sI (sI s18 19 q5_34 0) 20 q5_34 (nI q3_13)) 0 33 (nI (n9 + 1))) 19 q5_34 1) _ _ _ (by omega) (by (try simp only [lg_cmp_lt, lg_cmp_le, lg_cmp_gt, lg_cmp_ge, lg_cmp_eq] at c5); (try simp (disch := omega) only [ta_lt, ta_le, ta_eq, tb_lt, tb_le, tb_eq, tw, tnI, tsub1, tsv, tn32 1 (by decide), tnj 1 (by decide), tl32 0 (by decide), tl64 0 (by decide), tl32 1 (by decide), tl64 1 (by decide), tl32 100 (by decide), tl64 100 (by decide), tl32 200 (by decide), tl64 200 (by decide)] at c5); (try simp only [lg_cmp_lt, lg_cmp_le, lg_cmp_gt, lg_cmp_ge, lg_cmp_eq] at f7_0); (try simp (disch := omega) only [ta_lt, ta_le, ta_eq, tb_lt, tb_le, tb_eq, tw, tnI, tsub1, tsv, tn32 1 (by decide), tnj 1 (by decide), tl32 0 (by decide), tl64 0 (by decide), tl32 1 (by decide), tl64 1 (by decide), tl32 100 (by decide), tl64 100 (by decide), tl32 200 (by decide), tl64 200 (by decide)] at f7_0); (try simp only [lg_cmp_lt, lg_cmp_le, lg_cmp_gt, lg_cmp_ge, lg_cmp_eq] at c10); (try simp (disch := omega) only [ta_lt, ta_le, ta_eq, tb_lt, tb_le, tb_eq, tw, tnI, tsub1, tsv, tn32 1 (by decide), tnj 1 (by decide), tl32 0 (by decide), tl64 0 (by decide), tl32 1 (by decide), tl64 1 (by decide), tl32 100 (by decide), tl64 100 (by decide), tl32 200 (by decide), tl64 200 (by decide)] at c10); (try simp only [lg_cmp_lt, lg_cmp_le, lg_cmp_gt, lg_cmp_ge, lg_cmp_eq] at c11); (try simp (disch := omega) only [ta_lt, ta_le, ta_eq, tb_lt, tb_le, tb_eq, tw, tnI, tsub1, tsv, tn32 1 (by decide), tnj 1 (by decide), tl32 0 (by decide), tl64 0 (by decide), tl32 1 (by decide), tl64 1 (by decide), tl32 100 (by decide), tl64 100 (by decide), tl32 200 (by decide), tl64 200 (by decide)] at c11); (try simp only [lg_cmp_lt, lg_cmp_le, lg_cmp_gt, lg_cmp_ge, lg_cmp_eq] at c12); (try simp (disch := omega) only [ta_lt, ta_le, ta_eq, tb_lt, tb_le, tb_eq, tw, tnI, tsub1, tsv, tn32 1 (by decide), tnj 1 (by decide), tl32 0 (by decide), tl64 0 (by decide), tl32 1 (by decide), tl64 1 (by decide), tl32 100 (by decide), tl64 100 (by decide), tl32 200 (by decide), tl64 200 (by decide)] at c12); (try simp only [lg_cmp_lt, lg_cmp_le, lg_cmp_gt, lg_cmp_ge, lg_cmp_eq] at f18_0); (try simp (disch := omega) only [ta_lt, ta_le, ta_eq, tb_lt, tb_le, tb_eq, tw, tnI, tsub1, tsv, tn32 1 (by decide), tnj 1 (by decide), tl32 0 (by decide), tl64 0 (by decide), tl32 1 (by decide), tl64 1 (by decide), tl32 100 (by decide), tl64 100 (by decide), tl32 200 (by decide), tl64 200 (by decide)] at f18_0); (try simp (disch := omega) only [ta_lt, ta_le, ta_eq, tb_lt, tb_le, tb_eq, tw, tnI, tsub1, tsv, tn32 1 (by decide), tnj 1 (by decide), tl32 0 (by decide), tl64 0 (by decide), tl32 1 (by decide), tl64 1 (by decide), tl32 100 (by decide), tl64 100 (by decide), tl32 200 (by decide), tl64 200 (by decide)]); omega) hT22 hF22 hw (lv_sub hl [0, 3, 4, 5] rfl)
              · simp (disch := omega) only [ta_lt, ta_le, ta_eq, tnI, tl32 200 (by decide)] at c11
                refine lv_iconst (v := 0) hx hb (dkP dF_3 DX12_findWays (i := 36) rfl rfl) (by decide) ?_
                exact z_zret C0 hr hlk (by decide) hw (⟨(Or.inr ⟨rfl, trivial⟩), hT7, hF7⟩) (dkP dF_172 DX12_findWays (i := 37) rfl rfl)
            · simp (disch := omega) only [ta_lt, ta_le, ta_eq, tnI] at c10
              refine lv_aload_n hx hb (dkP dF_42 DX12_findWays (i := 26) rfl rfl) rfl (lv_at hl 4 rfl) ?_
              refine lv_iload hx hb (dk1 dF_21 DX12_findWays (i := 27) rfl rfl rfl) (lv_at hl 0 rfl) ?_
              refine lv_iload hx hb (dk1 dF_21 DX12_findWays (i := 28) rfl rfl rfl) (lv_at hl 1 rfl) ?_
              refine zk_I hw (zr_V (As := [.int (nI q5_34), .int (nI n7)]) (rest := []) C0 (c_X12_isWay l G kc ad s7 q5_34 (nI n7) (by first | omega | assumption | decide | rfl) hT7 _) cv_X12_isWay lk_X12_387 (zp_V C0 hRo hw 0 rfl rfl rfl) rfl hl.1 rfl ⟨by decide, by decide⟩ (Nat.le_of_ble_eq_true rfl) (dk2 dF_182 DX12_findWays (i := 29) rfl rfl rfl) ⟨Nat.le_refl _, Nat.le_refl _⟩) (fun r23 s23 H locs hp hw => ?_)
              obtain ⟨f23_0, hs23⟩ := hp
              (rw [hs23] at hw)
              rcases f23_0 with ⟨rfl, hc23⟩ | ⟨rfl, hc23⟩
              · skip
                refine lv_if_ne (tgt := 60) hx hb (dkS dF_154 DX12_findWays (i := 30) rfl rfl rfl) (by decide) (fun _ => ?_) (fun h => absurd h (by decide))
                refine lv_iload hx hb (dk1 dF_21 DX12_findWays (i := 33) rfl rfl rfl) (lv_at hl 0 rfl) ?_
                refine lv_sipush (v := 200) hx hb (dkS dF_17 DX12_findWays (i := 34) rfl rfl rfl) (by decide) ?_
                refine lv_icmp_ne (tgt := 70) hx hb (dkS dF_160 DX12_findWays (i := 35) rfl rfl rfl) (by decide) (fun c24 => ?_) (fun c24 => ?_)
                · simp (disch := omega) only [ta_lt, ta_le, ta_eq, tnI, tl32 200 (by decide)] at c24
                  refine lv_iload hx hb (dk1 dF_21 DX12_findWays (i := 38) rfl rfl rfl) (lv_at hl 0 rfl) ?_
                  refine lv_aload_n hx hb (dkP dF_42 DX12_findWays (i := 39) rfl rfl) rfl (lv_at hl 4 rfl) ?_
                  refine z_gi C0 hw 0 33 rfl fl_X12_384 (dk2 dF_180 DX12_findWays (i := 40) rfl rfl rfl) ?_
                  refine z_top (y := (nI n9)) en9 ?_
                  refine lv_icmp_ne (tgt := 146) hx hb (dkS dF_160 DX12_findWays (i := 41) rfl rfl rfl) (by decide) (fun c25 => ?_) (fun c25 => ?_)
                  · simp (disch := omega) only [ta_lt, ta_le, ta_eq, tnI] at c25
                    refine lv_aload_n hx hb (dkP dF_42 DX12_findWays (i := 80) rfl rfl) rfl (lv_at hl 4 rfl) ?_
                    refine z_gr C0 hw 0 31 19 rfl fl_X12_84 (dk2 dF_180 DX12_findWays (i := 81) rfl rfl rfl) ?_
                    refine lv_iload hx hb (dk1 dF_21 DX12_findWays (i := 82) rfl rfl rfl) (lv_at hl 0 rfl) ?_
                    refine lv_dup2_11 hx hb (dkP dF_92 DX12_findWays (i := 83) rfl rfl) rfl rfl ?_
                    refine z_ialdN (n := 201) C0 hw 19 q5_34 rfl (by omega) (by decide) (dkP dF_46 DX12_findWays (i := 84) rfl rfl) ?_
                    obtain ⟨v26, ev26⟩ : ∃ y : Int32, s7.1 19 q5_34 = y := ⟨_, rfl⟩
                    refine z_top (y := v26) ev26 ?_
                    refine lv_iconst (v := 1) hx hb (dkP dF_4 DX12_findWays (i := 85) rfl rfl) (by decide) ?_
                    refine lv_iadd hx hb (dkP dF_96 DX12_findWays (i := 86) rfl rfl) ?_
                    refine z_iastN (n := 201) C0 hw 19 q5_34 rfl (by omega) (by decide) (dkP dF_79 DX12_findWays (i := 87) rfl rfl) (fun H locs hw => ?_)
                    have hT27 : TM (sI s7 19 q5_34 (v26 + 1)) := TM.w hT7 (show True from trivial)
                    have hF27 : fr [11, 12, 13, 16, 17, 18, 19, 20] [23, 33] σ (sI s7 19 q5_34 (v26 + 1)) := fr.w hF7 (by decide)
                    refine lv_iinc (v := nI (q3_13 + 1)) (lv' := [(3, .int (nI (q3_13 + 1))), (5, .int (nI q5_34)), (4, .int (nI n7)), (2, .int r2), (0, .ref (ad 0)), (1, .int (nI pg))]) hx hb (dkI DX12_findWays (i := 88) rfl rfl rfl rfl) hl (k := 2) rfl (nI_1 _) (by decide) rfl (fun ls hl => ?_)
                    refine lv_goto (tgt := 13) hx hb (dkS dF_167 DX12_findWays (i := 89) rfl rfl rfl) (by decide) ?_
                    exact ih4 (q3_13 + 1) (sI s7 19 q5_34 (v26 + 1)) _ _ _ (by omega) (by (try simp only [lg_cmp_lt, lg_cmp_le, lg_cmp_gt, lg_cmp_ge, lg_cmp_eq] at c5); (try simp (disch := omega) only [ta_lt, ta_le, ta_eq, tb_lt, tb_le, tb_eq, tw, tnI, tsub1, tsv, tn32 1 (by decide), tnj 1 (by decide), tl32 0 (by decide), tl64 0 (by decide), tl32 1 (by decide), tl64 1 (by decide), tl32 100 (by decide), tl64 100 (by decide), tl32 200 (by decide), tl64 200 (by decide)] at c5); (try simp only [lg_cmp_lt, lg_cmp_le, lg_cmp_gt, lg_cmp_ge, lg_cmp_eq] at f7_0); (try simp (disch := omega) only [ta_lt, ta_le, ta_eq, tb_lt, tb_le, tb_eq, tw, tnI, tsub1, tsv, tn32 1 (by decide), tnj 1 (by decide), tl32 0 (by decide), tl64 0 (by decide), tl32 1 (by decide), tl64 1 (by decide), tl32 100 (by decide), tl64 100 (by decide), tl32 200 (by decide), tl64 200 (by decide)] at f7_0); (try simp only [lg_cmp_lt, lg_cmp_le, lg_cmp_gt, lg_cmp_ge, lg_cmp_eq] at c10); (try simp (disch := omega) only [ta_lt, ta_le, ta_eq, tb_lt, tb_le, tb_eq, tw, tnI, tsub1, tsv, tn32 1 (by decide), tnj 1 (by decide), tl32 0 (by decide), tl64 0 (by decide), tl32 1 (by decide), tl64 1 (by decide), tl32 100 (by decide), tl64 100 (by decide), tl32 200 (by decide), tl64 200 (by decide)] at c10); (try simp only [lg_cmp_lt, lg_cmp_le, lg_cmp_gt, lg_cmp_ge, lg_cmp_eq] at f23_0); (try simp (disch := omega) only [ta_lt, ta_le, ta_eq, tb_lt, tb_le, tb_eq, tw, tnI, tsub1, tsv, tn32 1 (by decide), tnj 1 (by decide), tl32 0 (by decide), tl64 0 (by decide), tl32 1 (by decide), tl64 1 (by decide), tl32 100 (by decide), tl64 100 (by decide), tl32 200 (by decide), tl64 200 (by decide)] at f23_0); (try simp only [lg_cmp_lt, lg_cmp_le, lg_cmp_gt, lg_cmp_ge, lg_cmp_eq] at hc23); (try simp (disch := omega) only [ta_lt, ta_le, ta_eq, tb_lt, tb_le, tb_eq, tw, tnI, tsub1, tsv, tn32 1 (by decide), tnj 1 (by decide), tl32 0 (by decide), tl64 0 (by decide), tl32 1 (by decide), tl64 1 (by decide), tl32 100 (by decide), tl64 100 (by decide), tl32 200 (by decide), tl64 200 (by decide)] at hc23); (try simp only [lg_cmp_lt, lg_cmp_le, lg_cmp_gt, lg_cmp_ge, lg_cmp_eq] at c24); (try simp (disch := omega) only [ta_lt, ta_le, ta_eq, tb_lt, tb_le, tb_eq, tw, tnI, tsub1, tsv, tn32 1 (by decide), tnj 1 (by decide), tl32 0 (by decide), tl64 0 (by decide), tl32 1 (by decide), tl64 1 (by decide), tl32 100 (by decide), tl64 100 (by decide), tl32 200 (by decide), tl64 200 (by decide)] at c24); (try simp only [lg_cmp_lt, lg_cmp_le, lg_cmp_gt, lg_cmp_ge, lg_cmp_eq] at c25); (try simp (disch := omega) only [ta_lt, ta_le, ta_eq, tb_lt, tb_le, tb_eq, tw, tnI, tsub1, tsv, tn32 1 (by decide), tnj 1 (by decide), tl32 0 (by decide), tl64 0 (by decide), tl32 1 (by decide), tl64 1 (by decide), tl32 100 (by decide), tl64 100 (by decide), tl32 200 (by decide), tl64 200 (by decide)] at c25); (try simp (disch := omega) only [ta_lt, ta_le, ta_eq, tb_lt, tb_le, tb_eq, tw, tnI, tsub1, tsv, tn32 1 (by decide), tnj 1 (by decide), tl32 0 (by decide), tl64 0 (by decide), tl32 1 (by decide), tl64 1 (by decide), tl32 100 (by decide), tl64 100 (by decide), tl32 200 (by decide), tl64 200 (by decide)]); omega) hT27 hF27 hw (lv_sub hl [0, 3, 4, 5] rfl)
                  · simp (disch := omega) only [ta_lt, ta_le, ta_eq, tnI] at c25
                    refine lv_aload_n hx hb (dkP dF_42 DX12_findWays (i := 42) rfl rfl) rfl (lv_at hl 4 rfl) ?_
                    refine z_gr C0 hw 0 28 16 rfl fl_X12_75 (dk2 dF_180 DX12_findWays (i := 43) rfl rfl rfl) ?_
                    refine lv_iload hx hb (dk1 dF_21 DX12_findWays (i := 44) rfl rfl rfl) (lv_at hl 0 rfl) ?_
                    refine lv_iload hx hb (dk1 dF_21 DX12_findWays (i := 45) rfl rfl rfl) (lv_at hl 1 rfl) ?_
                    refine z_iastN (n := 201) C0 hw 16 q5_34 rfl (by omega) (by decide) (dkP dF_79 DX12_findWays (i := 46) rfl rfl) (fun H locs hw => ?_)
                    have hT28 : TM (sI s7 16 q5_34 (nI n7)) := TM.w hT7 (show True from trivial)
                    have hF28 : fr [11, 12, 13, 16, 17, 18, 19, 20] [23, 33] σ (sI s7 16 q5_34 (nI n7)) := fr.w hF7 (by decide)
                    refine lv_aload_n hx hb (dkP dF_42 DX12_findWays (i := 47) rfl rfl) rfl (lv_at hl 4 rfl) ?_
                    refine z_gr C0 hw 0 29 17 rfl fl_X12_78 (dk2 dF_180 DX12_findWays (i := 48) rfl rfl rfl) ?_
                    refine lv_iload hx hb (dk1 dF_21 DX12_findWays (i := 49) rfl rfl rfl) (lv_at hl 0 rfl) ?_
                    refine lv_aload_n hx hb (dkP dF_42 DX12_findWays (i := 50) rfl rfl) rfl (lv_at hl 4 rfl) ?_
                    refine z_gi C0 hw 0 23 rfl fl_X12_342 (dk2 dF_180 DX12_findWays (i := 51) rfl rfl rfl) ?_
                    obtain ⟨n29, hn29, en29⟩ := rngN (x := (sI s7 16 q5_34 (nI n7)).1 0 23) (h := 100) (show 0 ≤ _ ∧ _ ≤ 100 from hT28 0 23)
                    refine z_top (y := nI n29) en29 ?_
                    refine z_iastN (n := 201) C0 hw 17 q5_34 rfl (by omega) (by decide) (dkP dF_79 DX12_findWays (i := 52) rfl rfl) (fun H locs hw => ?_)
                    have hT30 : TM (sI (sI s7 16 q5_34 (nI n7)) 17 q5_34 (nI n29)) := TM.w hT28 (show 0 ≤ _ ∧ _ ≤ 100 from by (try simp only [lg_cmp_lt, lg_cmp_le, lg_cmp_gt, lg_cmp_ge, lg_cmp_eq] at c5); (try simp (disch := omega) only [ta_lt, ta_le, ta_eq, tb_lt, tb_le, tb_eq, tw, tnI, tsub1, tsv, tn32 1 (by decide), tnj 1 (by decide), tl32 0 (by decide), tl64 0 (by decide), tl32 1 (by decide), tl64 1 (by decide), tl32 100 (by decide), tl64 100 (by decide), tl32 200 (by decide), tl64 200 (by decide)] at c5); (try simp only [lg_cmp_lt, lg_cmp_le, lg_cmp_gt, lg_cmp_ge, lg_cmp_eq] at f7_0); (try simp (disch := omega) only [ta_lt, ta_le, ta_eq, tb_lt, tb_le, tb_eq, tw, tnI, tsub1, tsv, tn32 1 (by decide), tnj 1 (by decide), tl32 0 (by decide), tl64 0 (by decide), tl32 1 (by decide), tl64 1 (by decide), tl32 100 (by decide), tl64 100 (by decide), tl32 200 (by decide), tl64 200 (by decide)] at f7_0); (try simp only [lg_cmp_lt, lg_cmp_le, lg_cmp_gt, lg_cmp_ge, lg_cmp_eq] at c10); (try simp (disch := omega) only [ta_lt, ta_le, ta_eq, tb_lt, tb_le, tb_eq, tw, tnI, tsub1, tsv, tn32 1 (by decide), tnj 1 (by decide), tl32 0 (by decide), tl64 0 (by decide), tl32 1 (by decide), tl64 1 (by decide), tl32 100 (by decide), tl64 100 (by decide), tl32 200 (by decide), tl64 200 (by decide)] at c10); (try simp only [lg_cmp_lt, lg_cmp_le, lg_cmp_gt, lg_cmp_ge, lg_cmp_eq] at f23_0); (try simp (disch := omega) only [ta_lt, ta_le, ta_eq, tb_lt, tb_le, tb_eq, tw, tnI, tsub1, tsv, tn32 1 (by decide), tnj 1 (by decide), tl32 0 (by decide), tl64 0 (by decide), tl32 1 (by decide), tl64 1 (by decide), tl32 100 (by decide), tl64 100 (by decide), tl32 200 (by decide), tl64 200 (by decide)] at f23_0); (try simp only [lg_cmp_lt, lg_cmp_le, lg_cmp_gt, lg_cmp_ge, lg_cmp_eq] at hc23); (try simp (disch := omega) only [ta_lt, ta_le, ta_eq, tb_lt, tb_le, tb_eq, tw, tnI, tsub1, tsv, tn32 1 (by decide), tnj 1 (by decide), tl32 0 (by decide), tl64 0 (by decide), tl32 1 (by decide), tl64 1 (by decide), tl32 100 (by decide), tl64 100 (by decide), tl32 200 (by decide), tl64 200 (by decide)] at hc23); (try simp only [lg_cmp_lt, lg_cmp_le, lg_cmp_gt, lg_cmp_ge, lg_cmp_eq] at c24); (try simp (disch := omega) only [ta_lt, ta_le, ta_eq, tb_lt, tb_le, tb_eq, tw, tnI, tsub1, tsv, tn32 1 (by decide), tnj 1 (by decide), tl32 0 (by decide), tl64 0 (by decide), tl32 1 (by decide), tl64 1 (by decide), tl32 100 (by decide), tl64 100 (by decide), tl32 200 (by decide), tl64 200 (by decide)] at c24); (try simp only [lg_cmp_lt, lg_cmp_le, lg_cmp_gt, lg_cmp_ge, lg_cmp_eq] at c25); (try simp (disch := omega) only [ta_lt, ta_le, ta_eq, tb_lt, tb_le, tb_eq, tw, tnI, tsub1, tsv, tn32 1 (by decide), tnj 1 (by decide), tl32 0 (by decide), tl64 0 (by decide), tl32 1 (by decide), tl64 1 (by decide), tl32 100 (by decide), tl64 100 (by decide), tl32 200 (by decide), tl64 200 (by decide)] at c25); (try simp (disch := omega) only [ta_lt, ta_le, ta_eq, tb_lt, tb_le, tb_eq, tw, tnI, tsub1, tsv, tn32 1 (by decide), tnj 1 (by decide), tl32 0 (by decide), tl64 0 (by decide), tl32 1 (by decide), tl64 1 (by decide), tl32 100 (by decide), tl64 100 (by decide), tl32 200 (by decide), tl64 200 (by decide)]); omega)
                    have hF30 : fr [11, 12, 13, 16, 17, 18, 19, 20] [23, 33] σ (sI (sI s7 16 q5_34 (nI n7)) 17 q5_34 (nI n29)) := fr.w hF28 (by decide)
                    refine lv_aload_n hx hb (dkP dF_42 DX12_findWays (i := 53) rfl rfl) rfl (lv_at hl 4 rfl) ?_
                    refine z_gr C0 hw 0 22 13 rfl fl_X12_63 (dk2 dF_180 DX12_findWays (i := 54) rfl rfl rfl) ?_
                    refine lv_iconst (v := 0) hx hb (dkP dF_3 DX12_findWays (i := 55) rfl rfl) (by decide) ?_
                    refine lv_aload_n hx hb (dkP dF_42 DX12_findWays (i := 56) rfl rfl) rfl (lv_at hl 4 rfl) ?_
                    refine z_gr C0 hw 0 30 18 rfl fl_X12_81 (dk2 dF_180 DX12_findWays (i := 57) rfl rfl rfl) ?_
                    refine lv_bipush (v := 100) hx hb (dks dF_16 DX12_findWays (i := 58) rfl rfl rfl) (by decide) ?_
                    refine lv_iload hx hb (dk1 dF_21 DX12_findWays (i := 59) rfl rfl rfl) (lv_at hl 0 rfl) ?_
                    refine lv_imul hx hb (dkP dF_104 DX12_findWays (i := 60) rfl rfl) ?_
                    refine z_top (y := nI (100 * q5_34)) (by simp only [fa_lit, nI_add, pk_mul]) ?_
                    refine lv_aload_n hx hb (dkP dF_42 DX12_findWays (i := 61) rfl rfl) rfl (lv_at hl 4 rfl) ?_
                    refine z_gi C0 hw 0 23 rfl fl_X12_342 (dk2 dF_180 DX12_findWays (i := 62) rfl rfl rfl) ?_
                    refine z_top (y := (nI n29)) ((rd_n (by omega)).trans en29) ?_
                    refine zk_V hw (zr_S (As := [.ref (ad 13), .int 0, .ref (ad 18), .int (nI (100 * q5_34)), .int (nI n29)]) (rest := []) C0 (c_X12_lays_13_18 l G kc ad (sI (sI s7 16 q5_34 (nI n7)) 17 q5_34 (nI n29)) 0 (100 * q5_34) n29 (by omega) (by omega) (fun i hi v h => h) hT30 _) cs_X12_lays lk_X12_255 (zp_S C0 hRo hw) rfl hl.1 rfl ⟨by decide, by decide⟩ (Nat.le_of_ble_eq_true rfl) (dk2 dF_184 DX12_findWays (i := 63) rfl rfl rfl) ⟨Nat.le_refl _, Nat.le_refl _⟩) (fun s31 H locs hp hw => ?_)
                    obtain ⟨f31_0, hT31, hG31⟩ := hp
                    have hF31 : fr [11, 12, 13, 16, 17, 18, 19, 20] [23, 33] σ s31 := fr.t hF30 hG31 (by decide) (by decide)
                    refine lv_aload_n hx hb (dkP dF_42 DX12_findWays (i := 64) rfl rfl) rfl (lv_at hl 4 rfl) ?_
                    refine z_gr C0 hw 0 31 19 rfl fl_X12_84 (dk2 dF_180 DX12_findWays (i := 65) rfl rfl rfl) ?_
                    refine lv_iload hx hb (dk1 dF_21 DX12_findWays (i := 66) rfl rfl rfl) (lv_at hl 0 rfl) ?_
                    refine lv_iconst (v := 0) hx hb (dkP dF_3 DX12_findWays (i := 67) rfl rfl) (by decide) ?_
                    refine z_iastN (n := 201) C0 hw 19 q5_34 rfl (by omega) (by decide) (dkP dF_79 DX12_findWays (i := 68) rfl rfl) (fun H locs hw => ?_)
                    have hT32 : TM (sI s31 19 q5_34 0) := TM.w hT31 (show True from trivial)
                    have hF32 : fr [11, 12, 13, 16, 17, 18, 19, 20] [23, 33] σ (sI s31 19 q5_34 0) := fr.w hF31 (by decide)
                    refine lv_aload_n hx hb (dkP dF_42 DX12_findWays (i := 69) rfl rfl) rfl (lv_at hl 4 rfl) ?_
                    refine z_gr C0 hw 0 32 20 rfl fl_X12_87 (dk2 dF_180 DX12_findWays (i := 70) rfl rfl rfl) ?_
                    refine lv_iload hx hb (dk1 dF_21 DX12_findWays (i := 71) rfl rfl rfl) (lv_at hl 0 rfl) ?_
                    refine lv_iload_n hx hb (dkP dF_29 DX12_findWays (i := 72) rfl rfl) rfl (lv_at hl 2 rfl) ?_
                    refine z_iastN (n := 201) C0 hw 20 q5_34 rfl (by omega) (by decide) (dkP dF_79 DX12_findWays (i := 73) rfl rfl) (fun H locs hw => ?_)
                    have hT33 : TM (sI (sI s31 19 q5_34 0) 20 q5_34 (nI q3_13)) := TM.w hT32 (show True from trivial)
                    have hF33 : fr [11, 12, 13, 16, 17, 18, 19, 20] [23, 33] σ (sI (sI s31 19 q5_34 0) 20 q5_34 (nI q3_13)) := fr.w hF32 (by decide)
                    refine lv_aload_n hx hb (dkP dF_42 DX12_findWays (i := 74) rfl rfl) rfl (lv_at hl 4 rfl) ?_
                    refine lv_dup hx hb (dkP dF_89 DX12_findWays (i := 75) rfl rfl) rfl ?_
                    refine z_gi C0 hw 0 33 rfl fl_X12_384 (dk2 dF_180 DX12_findWays (i := 76) rfl rfl rfl) ?_
                    refine z_top (y := (nI n9)) ((rd_n (by omega)).trans ((rd_n (by omega)).trans ((hG31.2.1 33 (by decide)).trans ((rd_n (by omega)).trans ((rd_n (by omega)).trans en9))))) ?_
                    refine lv_iconst (v := 1) hx hb (dkP dF_4 DX12_findWays (i := 77) rfl rfl) (by decide) ?_
                    refine lv_iadd hx hb (dkP dF_96 DX12_findWays (i := 78) rfl rfl) ?_
                    refine z_top (y := nI (n9 + 1)) (by simp only [fa_lit, nI_add, pk_mul]) ?_
                    refine z_pi C0 hw 0 33 rfl fp_X12_384 (dk2 dF_181 DX12_findWays (i := 79) rfl rfl rfl) (fun H locs hw => ?_)
                    have hT34 : TM (sI (sI (sI s31 19 q5_34 0) 20 q5_34 (nI q3_13)) 0 33 (nI (n9 + 1))) := TM.w hT33 (show 0 ≤ _ ∧ _ ≤ 200 from by (try simp only [lg_cmp_lt, lg_cmp_le, lg_cmp_gt, lg_cmp_ge, lg_cmp_eq] at c5); (try simp (disch := omega) only [ta_lt, ta_le, ta_eq, tb_lt, tb_le, tb_eq, tw, tnI, tsub1, tsv, tn32 1 (by decide), tnj 1 (by decide), tl32 0 (by decide), tl64 0 (by decide), tl32 1 (by decide), tl64 1 (by decide), tl32 100 (by decide), tl64 100 (by decide), tl32 200 (by decide), tl64 200 (by decide)] at c5); (try simp only [lg_cmp_lt, lg_cmp_le, lg_cmp_gt, lg_cmp_ge, lg_cmp_eq] at f7_0); (try simp (disch := omega) only [ta_lt, ta_le, ta_eq, tb_lt, tb_le, tb_eq, tw, tnI, tsub1, tsv, tn32 1 (by decide), tnj 1 (by decide), tl32 0 (by decide), tl64 0 (by decide), tl32 1 (by decide), tl64 1 (by decide), tl32 100 (by decide), tl64 100 (by decide), tl32 200 (by decide), tl64 200 (by decide)] at f7_0); (try simp only [lg_cmp_lt, lg_cmp_le, lg_cmp_gt, lg_cmp_ge, lg_cmp_eq] at c10); (try simp (disch := omega) only [ta_lt, ta_le, ta_eq, tb_lt, tb_le, tb_eq, tw, tnI, tsub1, tsv, tn32 1 (by decide), tnj 1 (by decide), tl32 0 (by decide), tl64 0 (by decide), tl32 1 (by decide), tl64 1 (by decide), tl32 100 (by decide), tl64 100 (by decide), tl32 200 (by decide), tl64 200 (by decide)] at c10); (try simp only [lg_cmp_lt, lg_cmp_le, lg_cmp_gt, lg_cmp_ge, lg_cmp_eq] at f23_0); (try simp (disch := omega) only [ta_lt, ta_le, ta_eq, tb_lt, tb_le, tb_eq, tw, tnI, tsub1, tsv, tn32 1 (by decide), tnj 1 (by decide), tl32 0 (by decide), tl64 0 (by decide), tl32 1 (by decide), tl64 1 (by decide), tl32 100 (by decide), tl64 100 (by decide), tl32 200 (by decide), tl64 200 (by decide)] at f23_0); (try simp only [lg_cmp_lt, lg_cmp_le, lg_cmp_gt, lg_cmp_ge, lg_cmp_eq] at hc23); (try simp (disch := omega) only [ta_lt, ta_le, ta_eq, tb_lt, tb_le, tb_eq, tw, tnI, tsub1, tsv, tn32 1 (by decide), tnj 1 (by decide), tl32 0 (by decide), tl64 0 (by decide), tl32 1 (by decide), tl64 1 (by decide), tl32 100 (by decide), tl64 100 (by decide), tl32 200 (by decide), tl64 200 (by decide)] at hc23); (try simp only [lg_cmp_lt, lg_cmp_le, lg_cmp_gt, lg_cmp_ge, lg_cmp_eq] at c24); (try simp (disch := omega) only [ta_lt, ta_le, ta_eq, tb_lt, tb_le, tb_eq, tw, tnI, tsub1, tsv, tn32 1 (by decide), tnj 1 (by decide), tl32 0 (by decide), tl64 0 (by decide), tl32 1 (by decide), tl64 1 (by decide), tl32 100 (by decide), tl64 100 (by decide), tl32 200 (by decide), tl64 200 (by decide)] at c24); (try simp only [lg_cmp_lt, lg_cmp_le, lg_cmp_gt, lg_cmp_ge, lg_cmp_eq] at c25); (try simp (disch := omega) only [ta_lt, ta_le, ta_eq, tb_lt, tb_le, tb_eq, tw, tnI, tsub1, tsv, tn32 1 (by decide), tnj 1 (by decide), tl32 0 (by decide), tl64 0 (by decide), tl32 1 (by decide), tl64 1 (by decide), tl32 100 (by decide), tl64 100 (by decide), tl32 200 (by decide), tl64 200 (by decide)] at c25); (try simp only [lg_cmp_lt, lg_cmp_le, lg_cmp_gt, lg_cmp_ge, lg_cmp_eq] at f31_0); (try simp (disch := omega) only [ta_lt, ta_le, ta_eq, tb_lt, tb_le, tb_eq, tw, tnI, tsub1, tsv, tn32 1 (by decide), tnj 1 (by decide), tl32 0 (by decide), tl64 0 (by decide), tl32 1 (by decide), tl64 1 (by decide), tl32 100 (by decide), tl64 100 (by decide), tl32 200 (by decide), tl64 200 (by decide)] at f31_0); (try simp (disch := omega) only [ta_lt, ta_le, ta_eq, tb_lt, tb_le, tb_eq, tw, tnI, tsub1, tsv, tn32 1 (by decide), tnj 1 (by decide), tl32 0 (by decide), tl64 0 (by decide), tl32 1 (by decide), tl64 1 (by decide), tl32 100 (by decide), tl64 100 (by decide), tl32 200 (by decide), tl64 200 (by decide)]); omega)
                    have hF34 : fr [11, 12, 13, 16, 17, 18, 19, 20] [23, 33] σ (sI (sI (sI s31 19 q5_34 0) 20 q5_34 (nI q3_13)) 0 33 (nI (n9 + 1))) := fr.w hF33 (by decide)
                    refine lv_aload_n hx hb (dkP dF_42 DX12_findWays (i := 80) rfl rfl) rfl (lv_at hl 4 rfl) ?_
                    refine z_gr C0 hw 0 31 19 rfl fl_X12_84 (dk2 dF_180 DX12_findWays (i := 81) rfl rfl rfl) ?_
                    refine lv_iload hx hb (dk1 dF_21 DX12_findWays (i := 82) rfl rfl rfl) (lv_at hl 0 rfl) ?_
                    refine lv_dup2_11 hx hb (dkP dF_92 DX12_findWays (i := 83) rfl rfl) rfl rfl ?_
                    refine z_ialdN (n := 201) C0 hw 19 q5_34 rfl (by omega) (by decide) (dkP dF_46 DX12_findWays (i := 84) rfl rfl) ?_
                    refine z_top (y := 0) ((rd_n (by omega)).trans ((rd_n (by omega)).trans rd_s)) ?_
                    refine lv_iconst (v := 1) hx hb (dkP dF_4 DX12_findWays (i := 85) rfl rfl) (by decide) ?_
                    refine lv_iadd hx hb (dkP dF_96 DX12_findWays (i := 86) rfl rfl) ?_
                    refine z_top (y := 1) (by decide) ?_
                    refine z_iastN (n := 201) C0 hw 19 q5_34 rfl (by omega) (by decide) (dkP dF_79 DX12_findWays (i := 87) rfl rfl) (fun H locs hw => ?_)
                    have hT35 : TM (sI (sI (sI (sI s31 19 q5_34 0) 20 q5_34 (nI q3_13)) 0 33 (nI (n9 + 1))) 19 q5_34 1) := TM.w hT34 (show True from trivial)
                    have hF35 : fr [11, 12, 13, 16, 17, 18, 19, 20] [23, 33] σ (sI (sI (sI (sI s31 19 q5_34 0) 20 q5_34 (nI q3_13)) 0 33 (nI (n9 + 1))) 19 q5_34 1) := fr.w hF34 (by decide)
                    refine lv_iinc (v := nI (q3_13 + 1)) (lv' := [(3, .int (nI (q3_13 + 1))), (5, .int (nI q5_34)), (4, .int (nI n7)), (2, .int r2), (0, .ref (ad 0)), (1, .int (nI pg))]) hx hb (dkI DX12_findWays (i := 88) rfl rfl rfl rfl) hl (k := 2) rfl (nI_1 _) (by decide) rfl (fun ls hl => ?_)
                    refine lv_goto (tgt := 13) hx hb (dkS dF_167 DX12_findWays (i := 89) rfl rfl rfl) (by decide) ?_
                    exact ih4 (q3_13 + 1) (sI (sI (sI (sI s31 19 q5_34 0) 20 q5_34 (nI q3_13)) 0 33 (nI (n9 + 1))) 19 q5_34 1) _ _ _ (by omega) (by (try simp only [lg_cmp_lt, lg_cmp_le, lg_cmp_gt, lg_cmp_ge, lg_cmp_eq] at c5); (try simp (disch := omega) only [ta_lt, ta_le, ta_eq, tb_lt, tb_le, tb_eq, tw, tnI, tsub1, tsv, tn32 1 (by decide), tnj 1 (by decide), tl32 0 (by decide), tl64 0 (by decide), tl32 1 (by decide), tl64 1 (by decide), tl32 100 (by decide), tl64 100 (by decide), tl32 200 (by decide), tl64 200 (by decide)] at c5); (try simp only [lg_cmp_lt, lg_cmp_le, lg_cmp_gt, lg_cmp_ge, lg_cmp_eq] at f7_0); (try simp (disch := omega) only [ta_lt, ta_le, ta_eq, tb_lt, tb_le, tb_eq, tw, tnI, tsub1, tsv, tn32 1 (by decide), tnj 1 (by decide), tl32 0 (by decide), tl64 0 (by decide), tl32 1 (by decide), tl64 1 (by decide), tl32 100 (by decide), tl64 100 (by decide), tl32 200 (by decide), tl64 200 (by decide)] at f7_0); (try simp only [lg_cmp_lt, lg_cmp_le, lg_cmp_gt, lg_cmp_ge, lg_cmp_eq] at c10); (try simp (disch := omega) only [ta_lt, ta_le, ta_eq, tb_lt, tb_le, tb_eq, tw, tnI, tsub1, tsv, tn32 1 (by decide), tnj 1 (by decide), tl32 0 (by decide), tl64 0 (by decide), tl32 1 (by decide), tl64 1 (by decide), tl32 100 (by decide), tl64 100 (by decide), tl32 200 (by decide), tl64 200 (by decide)] at c10); (try simp only [lg_cmp_lt, lg_cmp_le, lg_cmp_gt, lg_cmp_ge, lg_cmp_eq] at f23_0); (try simp (disch := omega) only [ta_lt, ta_le, ta_eq, tb_lt, tb_le, tb_eq, tw, tnI, tsub1, tsv, tn32 1 (by decide), tnj 1 (by decide), tl32 0 (by decide), tl64 0 (by decide), tl32 1 (by decide), tl64 1 (by decide), tl32 100 (by decide), tl64 100 (by decide), tl32 200 (by decide), tl64 200 (by decide)] at f23_0); (try simp only [lg_cmp_lt, lg_cmp_le, lg_cmp_gt, lg_cmp_ge, lg_cmp_eq] at hc23); (try simp (disch := omega) only [ta_lt, ta_le, ta_eq, tb_lt, tb_le, tb_eq, tw, tnI, tsub1, tsv, tn32 1 (by decide), tnj 1 (by decide), tl32 0 (by decide), tl64 0 (by decide), tl32 1 (by decide), tl64 1 (by decide), tl32 100 (by decide), tl64 100 (by decide), tl32 200 (by decide), tl64 200 (by decide)] at hc23); (try simp only [lg_cmp_lt, lg_cmp_le, lg_cmp_gt, lg_cmp_ge, lg_cmp_eq] at c24); (try simp (disch := omega) only [ta_lt, ta_le, ta_eq, tb_lt, tb_le, tb_eq, tw, tnI, tsub1, tsv, tn32 1 (by decide), tnj 1 (by decide), tl32 0 (by decide), tl64 0 (by decide), tl32 1 (by decide), tl64 1 (by decide), tl32 100 (by decide), tl64 100 (by decide), tl32 200 (by decide), tl64 200 (by decide)] at c24); (try simp only [lg_cmp_lt, lg_cmp_le, lg_cmp_gt, lg_cmp_ge, lg_cmp_eq] at c25); (try simp (disch := omega) only [ta_lt, ta_le, ta_eq, tb_lt, tb_le, tb_eq, tw, tnI, tsub1, tsv, tn32 1 (by decide), tnj 1 (by decide), tl32 0 (by decide), tl64 0 (by decide), tl32 1 (by decide), tl64 1 (by decide), tl32 100 (by decide), tl64 100 (by decide), tl32 200 (by decide), tl64 200 (by decide)] at c25); (try simp only [lg_cmp_lt, lg_cmp_le, lg_cmp_gt, lg_cmp_ge, lg_cmp_eq] at f31_0); (try simp (disch := omega) only [ta_lt, ta_le, ta_eq, tb_lt, tb_le, tb_eq, tw, tnI, tsub1, tsv, tn32 1 (by decide), tnj 1 (by decide), tl32 0 (by decide), tl64 0 (by decide), tl32 1 (by decide), tl64 1 (by decide), tl32 100 (by decide), tl64 100 (by decide), tl32 200 (by decide), tl64 200 (by decide)] at f31_0); (try simp (disch := omega) only [ta_lt, ta_le, ta_eq, tb_lt, tb_le, tb_eq, tw, tnI, tsub1, tsv, tn32 1 (by decide), tnj 1 (by decide), tl32 0 (by decide), tl64 0 (by decide), tl32 1 (by decide), tl64 1 (by decide), tl32 100 (by decide), tl64 100 (by decide), tl32 200 (by decide), tl64 200 (by decide)]); omega) hT35 hF35 hw (lv_sub hl [0, 3, 4, 5] rfl)
                · simp (disch := omega) only [ta_lt, ta_le, ta_eq, tnI, tl32 200 (by decide)] at c24
                  refine lv_iconst (v := 0) hx hb (dkP dF_3 DX12_findWays (i := 36) rfl rfl) (by decide) ?_
                  exact z_zret C0 hr hlk (by decide) hw (⟨(Or.inr ⟨rfl, trivial⟩), hT7, hF7⟩) (dkP dF_172 DX12_findWays (i := 37) rfl rfl)
              · skip
                refine lv_if_ne (tgt := 60) hx hb (dkS dF_154 DX12_findWays (i := 30) rfl rfl rfl) (by decide) (fun h => absurd h (by decide)) (fun _ => ?_)
                refine lv_iinc (v := nI (q5_34 + 1)) (lv' := [(5, .int (nI (q5_34 + 1))), (4, .int (nI n7)), (3, .int (nI q3_13)), (2, .int r2), (0, .ref (ad 0)), (1, .int (nI pg))]) hx hb (dkI DX12_findWays (i := 31) rfl rfl rfl rfl) hl (k := 0) rfl (nI_1 _) (by decide) rfl (fun ls hl => ?_)
                refine lv_goto (tgt := 34) hx hb (dkS dF_167 DX12_findWays (i := 32) rfl rfl rfl) (by decide) ?_
                exact ih8 (q5_34 + 1) _ _ _ (by omega) (by (try simp only [lg_cmp_lt, lg_cmp_le, lg_cmp_gt, lg_cmp_ge, lg_cmp_eq] at c5); (try simp (disch := omega) only [ta_lt, ta_le, ta_eq, tb_lt, tb_le, tb_eq, tw, tnI, tsub1, tsv, tn32 1 (by decide), tnj 1 (by decide), tl32 0 (by decide), tl64 0 (by decide), tl32 1 (by decide), tl64 1 (by decide), tl32 100 (by decide), tl64 100 (by decide), tl32 200 (by decide), tl64 200 (by decide)] at c5); (try simp only [lg_cmp_lt, lg_cmp_le, lg_cmp_gt, lg_cmp_ge, lg_cmp_eq] at f7_0); (try simp (disch := omega) only [ta_lt, ta_le, ta_eq, tb_lt, tb_le, tb_eq, tw, tnI, tsub1, tsv, tn32 1 (by decide), tnj 1 (by decide), tl32 0 (by decide), tl64 0 (by decide), tl32 1 (by decide), tl64 1 (by decide), tl32 100 (by decide), tl64 100 (by decide), tl32 200 (by decide), tl64 200 (by decide)] at f7_0); (try simp only [lg_cmp_lt, lg_cmp_le, lg_cmp_gt, lg_cmp_ge, lg_cmp_eq] at c10); (try simp (disch := omega) only [ta_lt, ta_le, ta_eq, tb_lt, tb_le, tb_eq, tw, tnI, tsub1, tsv, tn32 1 (by decide), tnj 1 (by decide), tl32 0 (by decide), tl64 0 (by decide), tl32 1 (by decide), tl64 1 (by decide), tl32 100 (by decide), tl64 100 (by decide), tl32 200 (by decide), tl64 200 (by decide)] at c10); (try simp only [lg_cmp_lt, lg_cmp_le, lg_cmp_gt, lg_cmp_ge, lg_cmp_eq] at f23_0); (try simp (disch := omega) only [ta_lt, ta_le, ta_eq, tb_lt, tb_le, tb_eq, tw, tnI, tsub1, tsv, tn32 1 (by decide), tnj 1 (by decide), tl32 0 (by decide), tl64 0 (by decide), tl32 1 (by decide), tl64 1 (by decide), tl32 100 (by decide), tl64 100 (by decide), tl32 200 (by decide), tl64 200 (by decide)] at f23_0); (try simp only [lg_cmp_lt, lg_cmp_le, lg_cmp_gt, lg_cmp_ge, lg_cmp_eq] at hc23); (try simp (disch := omega) only [ta_lt, ta_le, ta_eq, tb_lt, tb_le, tb_eq, tw, tnI, tsub1, tsv, tn32 1 (by decide), tnj 1 (by decide), tl32 0 (by decide), tl64 0 (by decide), tl32 1 (by decide), tl64 1 (by decide), tl32 100 (by decide), tl64 100 (by decide), tl32 200 (by decide), tl64 200 (by decide)] at hc23); (try simp (disch := omega) only [ta_lt, ta_le, ta_eq, tb_lt, tb_le, tb_eq, tw, tnI, tsub1, tsv, tn32 1 (by decide), tnj 1 (by decide), tl32 0 (by decide), tl64 0 (by decide), tl32 1 (by decide), tl64 1 (by decide), tl32 100 (by decide), tl64 100 (by decide), tl32 200 (by decide), tl64 200 (by decide)]); omega) hw (lv_sub hl [0, 1, 2, 3, 4, 5] rfl)
        exact lp8 _ 0 _ _ _ (Nat.lt_succ_self _) (by (try simp only [lg_cmp_lt, lg_cmp_le, lg_cmp_gt, lg_cmp_ge, lg_cmp_eq] at c5); (try simp (disch := omega) only [ta_lt, ta_le, ta_eq, tb_lt, tb_le, tb_eq, tw, tnI, tsub1, tsv, tn32 1 (by decide), tnj 1 (by decide), tl32 0 (by decide), tl64 0 (by decide), tl32 1 (by decide), tl64 1 (by decide), tl32 100 (by decide), tl64 100 (by decide), tl32 200 (by decide), tl64 200 (by decide)] at c5); (try simp only [lg_cmp_lt, lg_cmp_le, lg_cmp_gt, lg_cmp_ge, lg_cmp_eq] at f7_0); (try simp (disch := omega) only [ta_lt, ta_le, ta_eq, tb_lt, tb_le, tb_eq, tw, tnI, tsub1, tsv, tn32 1 (by decide), tnj 1 (by decide), tl32 0 (by decide), tl64 0 (by decide), tl32 1 (by decide), tl64 1 (by decide), tl32 100 (by decide), tl64 100 (by decide), tl32 200 (by decide), tl64 200 (by decide)] at f7_0); (try simp (disch := omega) only [ta_lt, ta_le, ta_eq, tb_lt, tb_le, tb_eq, tw, tnI, tsub1, tsv, tn32 1 (by decide), tnj 1 (by decide), tl32 0 (by decide), tl64 0 (by decide), tl32 1 (by decide), tl64 1 (by decide), tl32 100 (by decide), tl64 100 (by decide), tl32 200 (by decide), tl64 200 (by decide)]); omega) hw (lv_sub hl [0, 1, 2, 3, 4, 5] rfl)
  exact lp4 _ 0 (sI σ 0 33 0) _ _ _ (Nat.lt_succ_self _) (by (try simp (disch := omega) only [ta_lt, ta_le, ta_eq, tb_lt, tb_le, tb_eq, tw, tnI, tsub1, tsv, tn32 1 (by decide), tnj 1 (by decide), tl32 0 (by decide), tl64 0 (by decide), tl32 1 (by decide), tl64 1 (by decide), tl32 100 (by decide), tl64 100 (by decide), tl32 200 (by decide), tl64 200 (by decide)]); omega) hT1 hF1 hw (lv_sub hl [0, 1, 2, 3] rfl)
set_option maxRecDepth 100000 in
set_option maxHeartbeats 8000000 in
theorem c_X12_madeAtFirst (l : Launch) (G : va_G) (kc : KC) (ad : Nat → Nat) (σ : Sg) (pg : Nat) (hp8 : pg < 8) (hT : TM σ) : MV l G kc yX12_madeAtFirst cX12_madeAtFirst 3 3 64 [.ref (ad 0), .int (nI pg)] shM ad σ (fun σ1 => TM σ1 ∧ fr [28] [] σ σ1) := by
  intro sz
  refine z_body (y := yX12_madeAtFirst) (n := 3) (av := [.ref (ad 0), .int (nI pg)]) (Qc := fun A => va_Qv (fun σ1 => TM σ1 ∧ fr [28] [] σ σ1) (PoC G kc shM ad A) A) (plainFor_of_name (by decide)) (Nat.le_of_ble_eq_true rfl) (fun pr e s m below meth c A C0 hr hlk hnm hw hRo ls hl => ?_) sz
  have hx := C0.1
  have hb := C0.2.1
  have hown := C0.2.2.2.1
  have hts := C0.2.2.2.2.1
  have hl : lv_has ls 3 [(0, .ref (ad 0)), (1, .int (nI pg))] := hl
  refine lv_iconst (v := 0) hx hb (dkP dF_3 DX12_madeAtFirst (i := 0) rfl rfl) (by decide) ?_
  refine lv_istore_n (lv' := [(2, .int 0), (0, .ref (ad 0)), (1, .int (nI pg))]) hx hb (dkP dF_61 DX12_madeAtFirst (i := 1) rfl rfl) rfl hl (by decide) rfl (fun ls hl => ?_)
  have lp2 : ∀ (n : Nat) (q2_2 : Nat) (τ1 : Sg) (H : Heap) (locs : List Loc) (ls : Array Slot), 72 - q2_2 < n → (q2_2 ≤ 72) → (TM τ1) → (fr [28] [] σ τ1) → St G kc A s.heap shM ad τ1 H locs → lv_has ls 3 [(2, .int (nI q2_2)), (0, .ref (ad 0)), (1, .int (nI pg))] → W pr l e { frames := 3, cells := 0, slots := 0, locals := 64 } s m ([.ref (ad 0), .int (nI pg)] : List Value).toArray below meth c H locs 0 0 (MQ below (va_Qv (fun σ1 => TM σ1 ∧ fr [28] [] σ σ1) (PoC G kc shM ad A) A) ([.ref (ad 0), .int (nI pg)] : List Value).toArray s 0 0 A) (F0 m 2 ls []) := by
    intro n
    induction n with
    | zero => intro q2_2 τ1 H locs ls hmu; exact absurd hmu (Nat.not_lt_zero _)
    | succ n ih2 =>
      intro q2_2 τ1 H locs ls hmu hq2_2 hT_τ1 hF_τ1 hw hl
      refine lv_iload_n hx hb (dkP dF_28 DX12_madeAtFirst (i := 2) rfl rfl) rfl (lv_at hl 0 rfl) ?_
      refine lv_bipush (v := 72) hx hb (dks dF_16 DX12_madeAtFirst (i := 3) rfl rfl rfl) (by decide) ?_
      refine lv_icmp_ge (tgt := 21) hx hb (dkS dF_162 DX12_madeAtFirst (i := 4) rfl rfl rfl) (by decide) (fun c3 => ?_) (fun c3 => ?_)
      · simp (disch := omega) only [ta_lt, ta_le, ta_eq, tnI, tl32 72 (by decide)] at c3
        refine lv_iconst (v := 0) hx hb (dkP dF_3 DX12_madeAtFirst (i := 12) rfl rfl) (by decide) ?_
        refine lv_istore_n (lv' := [(2, .int 0), (0, .ref (ad 0)), (1, .int (nI pg))]) hx hb (dkP dF_61 DX12_madeAtFirst (i := 13) rfl rfl) rfl hl (by decide) rfl (fun ls hl => ?_)
        have lp5 : ∀ (n : Nat) (q2_23 : Nat) (τ4 : Sg) (H : Heap) (locs : List Loc) (ls : Array Slot), 8 - q2_23 < n → (q2_23 ≤ 8) → (TM τ4) → (fr [28] [] σ τ4) → St G kc A s.heap shM ad τ4 H locs → lv_has ls 3 [(2, .int (nI q2_23)), (0, .ref (ad 0)), (1, .int (nI pg))] → W pr l e { frames := 3, cells := 0, slots := 0, locals := 64 } s m ([.ref (ad 0), .int (nI pg)] : List Value).toArray below meth c H locs 0 0 (MQ below (va_Qv (fun σ1 => TM σ1 ∧ fr [28] [] σ σ1) (PoC G kc shM ad A) A) ([.ref (ad 0), .int (nI pg)] : List Value).toArray s 0 0 A) (F0 m 23 ls []) := by
          intro n
          induction n with
          | zero => intro q2_23 τ4 H locs ls hmu; exact absurd hmu (Nat.not_lt_zero _)
          | succ n ih5 =>
            intro q2_23 τ4 H locs ls hmu hq2_23 hT_τ4 hF_τ4 hw hl
            refine lv_iload_n hx hb (dkP dF_28 DX12_madeAtFirst (i := 14) rfl rfl) rfl (lv_at hl 0 rfl) ?_
            refine lv_bipush (v := 8) hx hb (dks dF_16 DX12_madeAtFirst (i := 15) rfl rfl rfl) (by decide) ?_
            refine lv_icmp_ge (tgt := 60) hx hb (dkS dF_162 DX12_madeAtFirst (i := 16) rfl rfl rfl) (by decide) (fun c6 => ?_) (fun c6 => ?_)
            · simp (disch := omega) only [ta_lt, ta_le, ta_eq, tnI, tl32 8 (by decide)] at c6
              exact z_vret C0 hr hlk hw (⟨hT_τ4, hF_τ4⟩) (dkP dF_177 DX12_madeAtFirst (i := 35) rfl rfl)
            · simp (disch := omega) only [ta_lt, ta_le, ta_eq, tnI, tl32 8 (by decide)] at c6
              refine lv_aload_n hx hb (dkP dF_42 DX12_madeAtFirst (i := 17) rfl rfl) rfl (lv_at hl 1 rfl) ?_
              refine z_gr C0 hw 0 44 28 rfl fl_X12_111 (dk2 dF_180 DX12_madeAtFirst (i := 18) rfl rfl rfl) ?_
              refine lv_bipush (v := 9) hx hb (dks dF_16 DX12_madeAtFirst (i := 19) rfl rfl rfl) (by decide) ?_
              refine lv_iload_n hx hb (dkP dF_28 DX12_madeAtFirst (i := 20) rfl rfl) rfl (lv_at hl 0 rfl) ?_
              refine lv_imul hx hb (dkP dF_104 DX12_madeAtFirst (i := 21) rfl rfl) ?_
              refine z_top (y := nI (9 * q2_23)) (by simp only [fa_lit, nI_add, pk_mul]) ?_
              refine lv_iload_n hx hb (dkP dF_28 DX12_madeAtFirst (i := 22) rfl rfl) rfl (lv_at hl 0 rfl) ?_
              refine lv_iadd hx hb (dkP dF_96 DX12_madeAtFirst (i := 23) rfl rfl) ?_
              refine z_top (y := nI ((9 * q2_23) + q2_23)) (by simp only [fa_lit, nI_add, pk_mul]) ?_
              refine lv_aload_n hx hb (dkP dF_42 DX12_madeAtFirst (i := 24) rfl rfl) rfl (lv_at hl 1 rfl) ?_
              refine lv_iload_n hx hb (dkP dF_27 DX12_madeAtFirst (i := 25) rfl rfl) rfl (lv_at hl 2 rfl) ?_
              refine lv_iload_n hx hb (dkP dF_28 DX12_madeAtFirst (i := 26) rfl rfl) rfl (lv_at hl 0 rfl) ?_
              refine zk_I hw (zr_V (As := [.int (nI pg), .int (nI q2_23)]) (rest := [.int (nI ((9 * q2_23) + q2_23)), .ref (ad 28)]) C0 (c_X12_spanMany l G kc ad τ4 pg q2_23 (by first | omega | assumption | decide | rfl) (by first | omega | assumption | decide | rfl) hT_τ4 _) cv_X12_spanMany lk_X12_329 (zp_V C0 hRo hw 0 rfl rfl rfl) rfl hl.1 rfl ⟨by decide, by decide⟩ (Nat.le_of_ble_eq_true rfl) (dk2 dF_182 DX12_madeAtFirst (i := 27) rfl rfl rfl) ⟨Nat.le_refl _, Nat.le_refl _⟩) (fun r7 s7 H locs hp hw => ?_)
              obtain ⟨f7_0, hs7⟩ := hp
              (rw [hs7] at hw)
              obtain ⟨n7, hn7, rfl⟩ := rngN (h := 2147483647) f7_0
              refine lv_if_le (tgt := 52) hx hb (dkS dF_158 DX12_madeAtFirst (i := 28) rfl rfl rfl) (by decide) (fun c8 => ?_) (fun c8 => ?_)
              · simp (disch := omega) only [ta_lt, ta_le, ta_eq, tnI, tl32 0 (by decide)] at c8
                refine lv_iconst (v := 0) hx hb (dkP dF_3 DX12_madeAtFirst (i := 31) rfl rfl) (by decide) ?_
                refine z_iastN (n := 72) C0 hw 28 ((9 * q2_23) + q2_23) rfl (by omega) (by decide) (dkP dF_79 DX12_madeAtFirst (i := 32) rfl rfl) (fun H locs hw => ?_)
                have hT9 : TM (sI τ4 28 ((9 * q2_23) + q2_23) 0) := TM.w hT_τ4 (show True from trivial)
                have hF9 : fr [28] [] σ (sI τ4 28 ((9 * q2_23) + q2_23) 0) := fr.w hF_τ4 (by decide)
                refine lv_iinc (v := nI (q2_23 + 1)) (lv' := [(2, .int (nI (q2_23 + 1))), (0, .ref (ad 0)), (1, .int (nI pg))]) hx hb (dkI DX12_madeAtFirst (i := 33) rfl rfl rfl rfl) hl (k := 0) rfl (nI_1 _) (by decide) rfl (fun ls hl => ?_)
                refine lv_goto (tgt := 23) hx hb (dkS dF_167 DX12_madeAtFirst (i := 34) rfl rfl rfl) (by decide) ?_
                exact ih5 (q2_23 + 1) (sI τ4 28 ((9 * q2_23) + q2_23) 0) _ _ _ (by omega) (by (try simp only [lg_cmp_lt, lg_cmp_le, lg_cmp_gt, lg_cmp_ge, lg_cmp_eq] at c3); (try simp (disch := omega) only [ta_lt, ta_le, ta_eq, tb_lt, tb_le, tb_eq, tw, tnI, tsub1, tsv, tn32 1 (by decide), tnj 1 (by decide), tl32 0 (by decide), tl64 0 (by decide), tl32 8 (by decide), tl64 8 (by decide), tl32 9 (by decide), tl64 9 (by decide), tl32 72 (by decide), tl64 72 (by decide)] at c3); (try simp only [lg_cmp_lt, lg_cmp_le, lg_cmp_gt, lg_cmp_ge, lg_cmp_eq] at c6); (try simp (disch := omega) only [ta_lt, ta_le, ta_eq, tb_lt, tb_le, tb_eq, tw, tnI, tsub1, tsv, tn32 1 (by decide), tnj 1 (by decide), tl32 0 (by decide), tl64 0 (by decide), tl32 8 (by decide), tl64 8 (by decide), tl32 9 (by decide), tl64 9 (by decide), tl32 72 (by decide), tl64 72 (by decide)] at c6); (try simp only [lg_cmp_lt, lg_cmp_le, lg_cmp_gt, lg_cmp_ge, lg_cmp_eq] at f7_0); (try simp (disch := omega) only [ta_lt, ta_le, ta_eq, tb_lt, tb_le, tb_eq, tw, tnI, tsub1, tsv, tn32 1 (by decide), tnj 1 (by decide), tl32 0 (by decide), tl64 0 (by decide), tl32 8 (by decide), tl64 8 (by decide), tl32 9 (by decide), tl64 9 (by decide), tl32 72 (by decide), tl64 72 (by decide)] at f7_0); (try simp only [lg_cmp_lt, lg_cmp_le, lg_cmp_gt, lg_cmp_ge, lg_cmp_eq] at c8); (try simp (disch := omega) only [ta_lt, ta_le, ta_eq, tb_lt, tb_le, tb_eq, tw, tnI, tsub1, tsv, tn32 1 (by decide), tnj 1 (by decide), tl32 0 (by decide), tl64 0 (by decide), tl32 8 (by decide), tl64 8 (by decide), tl32 9 (by decide), tl64 9 (by decide), tl32 72 (by decide), tl64 72 (by decide)] at c8); (try simp (disch := omega) only [ta_lt, ta_le, ta_eq, tb_lt, tb_le, tb_eq, tw, tnI, tsub1, tsv, tn32 1 (by decide), tnj 1 (by decide), tl32 0 (by decide), tl64 0 (by decide), tl32 8 (by decide), tl64 8 (by decide), tl32 9 (by decide), tl64 9 (by decide), tl32 72 (by decide), tl64 72 (by decide)]); omega) hT9 hF9 hw (lv_sub hl [0, 1, 2] rfl)
              · simp (disch := omega) only [ta_lt, ta_le, ta_eq, tnI, tl32 0 (by decide)] at c8
                refine lv_iconst (v := 1) hx hb (dkP dF_4 DX12_madeAtFirst (i := 29) rfl rfl) (by decide) ?_
                refine lv_goto (tgt := 53) hx hb (dkS dF_167 DX12_madeAtFirst (i := 30) rfl rfl rfl) (by decide) ?_
                refine z_iastN (n := 72) C0 hw 28 ((9 * q2_23) + q2_23) rfl (by omega) (by decide) (dkP dF_79 DX12_madeAtFirst (i := 32) rfl rfl) (fun H locs hw => ?_)
                have hT10 : TM (sI τ4 28 ((9 * q2_23) + q2_23) 1) := TM.w hT_τ4 (show True from trivial)
                have hF10 : fr [28] [] σ (sI τ4 28 ((9 * q2_23) + q2_23) 1) := fr.w hF_τ4 (by decide)
                refine lv_iinc (v := nI (q2_23 + 1)) (lv' := [(2, .int (nI (q2_23 + 1))), (0, .ref (ad 0)), (1, .int (nI pg))]) hx hb (dkI DX12_madeAtFirst (i := 33) rfl rfl rfl rfl) hl (k := 0) rfl (nI_1 _) (by decide) rfl (fun ls hl => ?_)
                refine lv_goto (tgt := 23) hx hb (dkS dF_167 DX12_madeAtFirst (i := 34) rfl rfl rfl) (by decide) ?_
                exact ih5 (q2_23 + 1) (sI τ4 28 ((9 * q2_23) + q2_23) 1) _ _ _ (by omega) (by (try simp only [lg_cmp_lt, lg_cmp_le, lg_cmp_gt, lg_cmp_ge, lg_cmp_eq] at c3); (try simp (disch := omega) only [ta_lt, ta_le, ta_eq, tb_lt, tb_le, tb_eq, tw, tnI, tsub1, tsv, tn32 1 (by decide), tnj 1 (by decide), tl32 0 (by decide), tl64 0 (by decide), tl32 1 (by decide), tl64 1 (by decide), tl32 8 (by decide), tl64 8 (by decide), tl32 9 (by decide), tl64 9 (by decide), tl32 72 (by decide), tl64 72 (by decide)] at c3); (try simp only [lg_cmp_lt, lg_cmp_le, lg_cmp_gt, lg_cmp_ge, lg_cmp_eq] at c6); (try simp (disch := omega) only [ta_lt, ta_le, ta_eq, tb_lt, tb_le, tb_eq, tw, tnI, tsub1, tsv, tn32 1 (by decide), tnj 1 (by decide), tl32 0 (by decide), tl64 0 (by decide), tl32 1 (by decide), tl64 1 (by decide), tl32 8 (by decide), tl64 8 (by decide), tl32 9 (by decide), tl64 9 (by decide), tl32 72 (by decide), tl64 72 (by decide)] at c6); (try simp only [lg_cmp_lt, lg_cmp_le, lg_cmp_gt, lg_cmp_ge, lg_cmp_eq] at f7_0); (try simp (disch := omega) only [ta_lt, ta_le, ta_eq, tb_lt, tb_le, tb_eq, tw, tnI, tsub1, tsv, tn32 1 (by decide), tnj 1 (by decide), tl32 0 (by decide), tl64 0 (by decide), tl32 1 (by decide), tl64 1 (by decide), tl32 8 (by decide), tl64 8 (by decide), tl32 9 (by decide), tl64 9 (by decide), tl32 72 (by decide), tl64 72 (by decide)] at f7_0); (try simp only [lg_cmp_lt, lg_cmp_le, lg_cmp_gt, lg_cmp_ge, lg_cmp_eq] at c8); (try simp (disch := omega) only [ta_lt, ta_le, ta_eq, tb_lt, tb_le, tb_eq, tw, tnI, tsub1, tsv, tn32 1 (by decide), tnj 1 (by decide), tl32 0 (by decide), tl64 0 (by decide), tl32 1 (by decide), tl64 1 (by decide), tl32 8 (by decide), tl64 8 (by decide), tl32 9 (by decide), tl64 9 (by decide), tl32 72 (by decide), tl64 72 (by decide)] at c8); (try simp (disch := omega) only [ta_lt, ta_le, ta_eq, tb_lt, tb_le, tb_eq, tw, tnI, tsub1, tsv, tn32 1 (by decide), tnj 1 (by decide), tl32 0 (by decide), tl64 0 (by decide), tl32 1 (by decide), tl64 1 (by decide), tl32 8 (by decide), tl64 8 (by decide), tl32 9 (by decide), tl64 9 (by decide), tl32 72 (by decide), tl64 72 (by decide)]); omega) hT10 hF10 hw (lv_sub hl [0, 1, 2] rfl)
        exact lp5 _ 0 τ1 _ _ _ (Nat.lt_succ_self _) (by (try simp only [lg_cmp_lt, lg_cmp_le, lg_cmp_gt, lg_cmp_ge, lg_cmp_eq] at c3); (try simp (disch := omega) only [ta_lt, ta_le, ta_eq, tb_lt, tb_le, tb_eq, tw, tnI, tsub1, tsv, tn32 1 (by decide), tnj 1 (by decide), tl32 0 (by decide), tl64 0 (by decide), tl32 1 (by decide), tl64 1 (by decide), tl32 8 (by decide), tl64 8 (by decide), tl32 9 (by decide), tl64 9 (by decide), tl32 72 (by decide), tl64 72 (by decide)] at c3); (try simp (disch := omega) only [ta_lt, ta_le, ta_eq, tb_lt, tb_le, tb_eq, tw, tnI, tsub1, tsv, tn32 1 (by decide), tnj 1 (by decide), tl32 0 (by decide), tl64 0 (by decide), tl32 1 (by decide), tl64 1 (by decide), tl32 8 (by decide), tl64 8 (by decide), tl32 9 (by decide), tl64 9 (by decide), tl32 72 (by decide), tl64 72 (by decide)]); omega) hT_τ1 hF_τ1 hw (lv_sub hl [0, 1, 2] rfl)
      · simp (disch := omega) only [ta_lt, ta_le, ta_eq, tnI, tl32 72 (by decide)] at c3
        refine lv_aload_n hx hb (dkP dF_42 DX12_madeAtFirst (i := 5) rfl rfl) rfl (lv_at hl 1 rfl) ?_
        refine z_gr C0 hw 0 44 28 rfl fl_X12_111 (dk2 dF_180 DX12_madeAtFirst (i := 6) rfl rfl rfl) ?_
        refine lv_iload_n hx hb (dkP dF_28 DX12_madeAtFirst (i := 7) rfl rfl) rfl (lv_at hl 0 rfl) ?_
        refine lv_iconst (v := 0) hx hb (dkP dF_3 DX12_madeAtFirst (i := 8) rfl rfl) (by decide) ?_
        refine z_iastN (n := 72) C0 hw 28 q2_2 rfl (by omega) (by decide) (dkP dF_79 DX12_madeAtFirst (i := 9) rfl rfl) (fun H locs hw => ?_)
        have hT11 : TM (sI τ1 28 q2_2 0) := TM.w hT_τ1 (show True from trivial)
        have hF11 : fr [28] [] σ (sI τ1 28 q2_2 0) := fr.w hF_τ1 (by decide)
        refine lv_iinc (v := nI (q2_2 + 1)) (lv' := [(2, .int (nI (q2_2 + 1))), (0, .ref (ad 0)), (1, .int (nI pg))]) hx hb (dkI DX12_madeAtFirst (i := 10) rfl rfl rfl rfl) hl (k := 0) rfl (nI_1 _) (by decide) rfl (fun ls hl => ?_)
        refine lv_goto (tgt := 2) hx hb (dkS dF_167 DX12_madeAtFirst (i := 11) rfl rfl rfl) (by decide) ?_
        exact ih2 (q2_2 + 1) (sI τ1 28 q2_2 0) _ _ _ (by omega) (by (try simp only [lg_cmp_lt, lg_cmp_le, lg_cmp_gt, lg_cmp_ge, lg_cmp_eq] at c3); (try simp (disch := omega) only [ta_lt, ta_le, ta_eq, tb_lt, tb_le, tb_eq, tw, tnI, tsub1, tsv, tn32 1 (by decide), tnj 1 (by decide), tl32 0 (by decide), tl64 0 (by decide), tl32 1 (by decide), tl64 1 (by decide), tl32 8 (by decide), tl64 8 (by decide), tl32 9 (by decide), tl64 9 (by decide), tl32 72 (by decide), tl64 72 (by decide)] at c3); (try simp (disch := omega) only [ta_lt, ta_le, ta_eq, tb_lt, tb_le, tb_eq, tw, tnI, tsub1, tsv, tn32 1 (by decide), tnj 1 (by decide), tl32 0 (by decide), tl64 0 (by decide), tl32 1 (by decide), tl64 1 (by decide), tl32 8 (by decide), tl64 8 (by decide), tl32 9 (by decide), tl64 9 (by decide), tl32 72 (by decide), tl64 72 (by decide)]); omega) hT11 hF11 hw (lv_sub hl [0, 1, 2] rfl)
  exact lp2 _ 0 σ _ _ _ (Nat.lt_succ_self _) (by (try simp (disch := omega) only [ta_lt, ta_le, ta_eq, tb_lt, tb_le, tb_eq, tw, tnI, tsub1, tsv, tn32 1 (by decide), tnj 1 (by decide), tl32 0 (by decide), tl64 0 (by decide), tl32 1 (by decide), tl64 1 (by decide), tl32 8 (by decide), tl64 8 (by decide), tl32 9 (by decide), tl64 9 (by decide), tl32 72 (by decide), tl64 72 (by decide)]); omega) hT fr.refl hw (lv_sub hl [0, 1, 2] rfl)
set_option maxRecDepth 100000 in
set_option maxHeartbeats 8000000 in
theorem c_X12_makes (l : Launch) (G : va_G) (kc : KC) (ad : Nat → Nat) (σ : Sg) (k : Nat) {fd : Nat} (hk : k + 16 ≤ 414128) (hfd : fd ≤ 7) (hk2 : σ.1 1 (k + 2) = nI fd) (hT : TM σ) : MV l G kc yX12_makes cX12_makes 4 1 25 [.ref (ad 0), .int (nI k)] shM ad σ (fun σ1 => TM σ1 ∧ fr [28, 29] [] σ σ1) := by
  intro sz
  refine z_body (y := yX12_makes) (n := 4) (av := [.ref (ad 0), .int (nI k)]) (Qc := fun A => va_Qv (fun σ1 => TM σ1 ∧ fr [28, 29] [] σ σ1) (PoC G kc shM ad A) A) (plainFor_of_name (by decide)) (Nat.le_of_ble_eq_true rfl) (fun pr e s m below meth c A C0 hr hlk hnm hw hRo ls hl => ?_) sz
  have hx := C0.1
  have hb := C0.2.1
  have hown := C0.2.2.2.1
  have hts := C0.2.2.2.2.1
  have hl : lv_has ls 4 [(0, .ref (ad 0)), (1, .int (nI k))] := hl
  refine lv_iconst (v := 0) hx hb (dkP dF_3 DX12_makes (i := 0) rfl rfl) (by decide) ?_
  refine lv_istore_n (lv' := [(2, .int 0), (0, .ref (ad 0)), (1, .int (nI k))]) hx hb (dkP dF_61 DX12_makes (i := 1) rfl rfl) rfl hl (by decide) rfl (fun ls hl => ?_)
  have lp2 : ∀ (n : Nat) (q2_2 : Nat) (τ1 : Sg) (H : Heap) (locs : List Loc) (ls : Array Slot), 9 - q2_2 < n → (q2_2 ≤ 9) → (TM τ1) → (fr [28, 29] [] σ τ1) → St G kc A s.heap shM ad τ1 H locs → lv_has ls 4 [(2, .int (nI q2_2)), (0, .ref (ad 0)), (1, .int (nI k))] → W pr l e { frames := 1, cells := 0, slots := 0, locals := 25 } s m ([.ref (ad 0), .int (nI k)] : List Value).toArray below meth c H locs 0 0 (MQ below (va_Qv (fun σ1 => TM σ1 ∧ fr [28, 29] [] σ σ1) (PoC G kc shM ad A) A) ([.ref (ad 0), .int (nI k)] : List Value).toArray s 0 0 A) (F0 m 2 ls []) := by
    intro n
    induction n with
    | zero => intro q2_2 τ1 H locs ls hmu; exact absurd hmu (Nat.not_lt_zero _)
    | succ n ih2 =>
      intro q2_2 τ1 H locs ls hmu hq2_2 hT_τ1 hF_τ1 hw hl
      refine lv_iload_n hx hb (dkP dF_28 DX12_makes (i := 2) rfl rfl) rfl (lv_at hl 0 rfl) ?_
      refine lv_bipush (v := 9) hx hb (dks dF_16 DX12_makes (i := 3) rfl rfl rfl) (by decide) ?_
      refine lv_icmp_ge (tgt := 42) hx hb (dkS dF_162 DX12_makes (i := 4) rfl rfl rfl) (by decide) (fun c3 => ?_) (fun c3 => ?_)
      · simp (disch := omega) only [ta_lt, ta_le, ta_eq, tnI, tl32 9 (by decide)] at c3
        refine lv_iconst (v := 0) hx hb (dkP dF_3 DX12_makes (i := 24) rfl rfl) (by decide) ?_
        refine lv_istore_n (lv' := [(2, .int 0), (0, .ref (ad 0)), (1, .int (nI k))]) hx hb (dkP dF_61 DX12_makes (i := 25) rfl rfl) rfl hl (by decide) rfl (fun ls hl => ?_)
        have lp5 : ∀ (n : Nat) (q2_44 : Nat) (τ4 : Sg) (H : Heap) (locs : List Loc) (ls : Array Slot), 8 - q2_44 < n → (q2_44 ≤ 8) → (TM τ4) → (fr [28, 29] [] σ τ4) → St G kc A s.heap shM ad τ4 H locs → lv_has ls 4 [(2, .int (nI q2_44)), (0, .ref (ad 0)), (1, .int (nI k))] → W pr l e { frames := 1, cells := 0, slots := 0, locals := 25 } s m ([.ref (ad 0), .int (nI k)] : List Value).toArray below meth c H locs 0 0 (MQ below (va_Qv (fun σ1 => TM σ1 ∧ fr [28, 29] [] σ σ1) (PoC G kc shM ad A) A) ([.ref (ad 0), .int (nI k)] : List Value).toArray s 0 0 A) (F0 m 44 ls []) := by
          intro n
          induction n with
          | zero => intro q2_44 τ4 H locs ls hmu; exact absurd hmu (Nat.not_lt_zero _)
          | succ n ih5 =>
            intro q2_44 τ4 H locs ls hmu hq2_44 hT_τ4 hF_τ4 hw hl
            refine lv_iload_n hx hb (dkP dF_28 DX12_makes (i := 26) rfl rfl) rfl (lv_at hl 0 rfl) ?_
            refine lv_bipush (v := 8) hx hb (dks dF_16 DX12_makes (i := 27) rfl rfl rfl) (by decide) ?_
            refine lv_icmp_ge (tgt := 102) hx hb (dkS dF_162 DX12_makes (i := 28) rfl rfl rfl) (by decide) (fun c6 => ?_) (fun c6 => ?_)
            · simp (disch := omega) only [ta_lt, ta_le, ta_eq, tnI, tl32 8 (by decide)] at c6
              refine lv_aload_n hx hb (dkP dF_42 DX12_makes (i := 62) rfl rfl) rfl (lv_at hl 1 rfl) ?_
              refine z_gr C0 hw 0 45 29 rfl fl_X12_114 (dk2 dF_180 DX12_makes (i := 63) rfl rfl rfl) ?_
              refine lv_iconst (v := 0) hx hb (dkP dF_3 DX12_makes (i := 64) rfl rfl) (by decide) ?_
              refine lv_aload_n hx hb (dkP dF_42 DX12_makes (i := 65) rfl rfl) rfl (lv_at hl 1 rfl) ?_
              refine z_gr C0 hw 0 44 28 rfl fl_X12_111 (dk2 dF_180 DX12_makes (i := 66) rfl rfl rfl) ?_
              refine lv_bipush (v := 9) hx hb (dks dF_16 DX12_makes (i := 67) rfl rfl rfl) (by decide) ?_
              refine lv_aload_n hx hb (dkP dF_42 DX12_makes (i := 68) rfl rfl) rfl (lv_at hl 1 rfl) ?_
              refine z_gr C0 hw 0 1 1 rfl fl_X12_20 (dk2 dF_180 DX12_makes (i := 69) rfl rfl rfl) ?_
              refine lv_iload_n hx hb (dkP dF_27 DX12_makes (i := 70) rfl rfl) rfl (lv_at hl 2 rfl) ?_
              refine lv_iconst (v := 2) hx hb (dkP dF_5 DX12_makes (i := 71) rfl rfl) (by decide) ?_
              refine lv_iadd hx hb (dkP dF_96 DX12_makes (i := 72) rfl rfl) ?_
              refine z_top (y := nI (k + 2)) (by simp only [fa_lit, nI_add, pk_mul]) ?_
              refine z_ialdN (n := 414128) C0 hw 1 (k + 2) rfl (by omega) (by decide) (dkP dF_46 DX12_makes (i := 73) rfl rfl) ?_
              refine z_top (y := (nI fd)) ((congrFun (hF_τ4.1 1 (by decide) (by decide)) _).trans hk2) ?_
              refine lv_imul hx hb (dkP dF_104 DX12_makes (i := 74) rfl rfl) ?_
              refine z_top (y := nI (9 * fd)) (by simp only [fa_lit, nI_add, pk_mul]) ?_
              refine lv_bipush (v := 9) hx hb (dks dF_16 DX12_makes (i := 75) rfl rfl rfl) (by decide) ?_
              refine zk_V hw (zr_S (As := [.ref (ad 29), .int 0, .ref (ad 28), .int (nI (9 * fd)), .int 9]) (rest := []) C0 (c_X12_lays_29_28 l G kc ad τ4 0 (9 * fd) 9 (by omega) (by omega) (fun i hi v h => trivial) hT_τ4 _) cs_X12_lays lk_X12_255 (zp_S C0 hRo hw) rfl hl.1 rfl ⟨by decide, by decide⟩ (Nat.le_of_ble_eq_true rfl) (dk2 dF_184 DX12_makes (i := 76) rfl rfl rfl) ⟨Nat.le_refl _, Nat.le_refl _⟩) (fun s7 H locs hp hw => ?_)
              obtain ⟨f7_0, hT7, hG7⟩ := hp
              have hF7 : fr [28, 29] [] σ s7 := fr.t hF_τ4 hG7 (by decide) (by decide)
              exact z_vret C0 hr hlk hw (⟨hT7, hF7⟩) (dkP dF_177 DX12_makes (i := 77) rfl rfl)
            · simp (disch := omega) only [ta_lt, ta_le, ta_eq, tnI, tl32 8 (by decide)] at c6
              refine lv_iconst (v := 0) hx hb (dkP dF_3 DX12_makes (i := 29) rfl rfl) (by decide) ?_
              refine lv_istore_n (lv' := [(3, .int 0), (2, .int (nI q2_44)), (0, .ref (ad 0)), (1, .int (nI k))]) hx hb (dkP dF_62 DX12_makes (i := 30) rfl rfl) rfl hl (by decide) rfl (fun ls hl => ?_)
              have lp9 : ∀ (n : Nat) (q3_52 : Nat) (τ8 : Sg) (H : Heap) (locs : List Loc) (ls : Array Slot), 9 - q3_52 < n → (q3_52 ≤ 9) → (TM τ8) → (fr [28, 29] [] σ τ8) → St G kc A s.heap shM ad τ8 H locs → lv_has ls 4 [(3, .int (nI q3_52)), (2, .int (nI q2_44)), (0, .ref (ad 0)), (1, .int (nI k))] → W pr l e { frames := 1, cells := 0, slots := 0, locals := 25 } s m ([.ref (ad 0), .int (nI k)] : List Value).toArray below meth c H locs 0 0 (MQ below (va_Qv (fun σ1 => TM σ1 ∧ fr [28, 29] [] σ σ1) (PoC G kc shM ad A) A) ([.ref (ad 0), .int (nI k)] : List Value).toArray s 0 0 A) (F0 m 52 ls []) := by
                intro n
                induction n with
                | zero => intro q3_52 τ8 H locs ls hmu; exact absurd hmu (Nat.not_lt_zero _)
                | succ n ih9 =>
                  intro q3_52 τ8 H locs ls hmu hq3_52 hT_τ8 hF_τ8 hw hl
                  refine lv_iload_n hx hb (dkP dF_29 DX12_makes (i := 31) rfl rfl) rfl (lv_at hl 0 rfl) ?_
                  refine lv_bipush (v := 9) hx hb (dks dF_16 DX12_makes (i := 32) rfl rfl rfl) (by decide) ?_
                  refine lv_icmp_ge (tgt := 96) hx hb (dkS dF_162 DX12_makes (i := 33) rfl rfl rfl) (by decide) (fun c10 => ?_) (fun c10 => ?_)
                  · simp (disch := omega) only [ta_lt, ta_le, ta_eq, tnI, tl32 9 (by decide)] at c10
                    refine lv_iinc (v := nI (q2_44 + 1)) (lv' := [(2, .int (nI (q2_44 + 1))), (3, .int (nI q3_52)), (0, .ref (ad 0)), (1, .int (nI k))]) hx hb (dkI DX12_makes (i := 60) rfl rfl rfl rfl) hl (k := 1) rfl (nI_1 _) (by decide) rfl (fun ls hl => ?_)
                    refine lv_goto (tgt := 44) hx hb (dkS dF_167 DX12_makes (i := 61) rfl rfl rfl) (by decide) ?_
                    exact ih5 (q2_44 + 1) τ8 _ _ _ (by omega) (by (try simp only [lg_cmp_lt, lg_cmp_le, lg_cmp_gt, lg_cmp_ge, lg_cmp_eq] at c3); (try simp (disch := omega) only [ta_lt, ta_le, ta_eq, tb_lt, tb_le, tb_eq, tw, tnI, tsub1, tsv, tn32 1 (by decide), tnj 1 (by decide), tl32 0 (by decide), tl64 0 (by decide), tl32 2 (by decide), tl64 2 (by decide), tl32 8 (by decide), tl64 8 (by decide), tl32 9 (by decide), tl64 9 (by decide)] at c3); (try simp only [lg_cmp_lt, lg_cmp_le, lg_cmp_gt, lg_cmp_ge, lg_cmp_eq] at c6); (try simp (disch := omega) only [ta_lt, ta_le, ta_eq, tb_lt, tb_le, tb_eq, tw, tnI, tsub1, tsv, tn32 1 (by decide), tnj 1 (by decide), tl32 0 (by decide), tl64 0 (by decide), tl32 2 (by decide), tl64 2 (by decide), tl32 8 (by decide), tl64 8 (by decide), tl32 9 (by decide), tl64 9 (by decide)] at c6); (try simp only [lg_cmp_lt, lg_cmp_le, lg_cmp_gt, lg_cmp_ge, lg_cmp_eq] at c10); (try simp (disch := omega) only [ta_lt, ta_le, ta_eq, tb_lt, tb_le, tb_eq, tw, tnI, tsub1, tsv, tn32 1 (by decide), tnj 1 (by decide), tl32 0 (by decide), tl64 0 (by decide), tl32 2 (by decide), tl64 2 (by decide), tl32 8 (by decide), tl64 8 (by decide), tl32 9 (by decide), tl64 9 (by decide)] at c10); (try simp (disch := omega) only [ta_lt, ta_le, ta_eq, tb_lt, tb_le, tb_eq, tw, tnI, tsub1, tsv, tn32 1 (by decide), tnj 1 (by decide), tl32 0 (by decide), tl64 0 (by decide), tl32 2 (by decide), tl64 2 (by decide), tl32 8 (by decide), tl64 8 (by decide), tl32 9 (by decide), tl64 9 (by decide)]); omega) hT_τ8 hF_τ8 hw (lv_sub hl [0, 2, 3] rfl)
                  · simp (disch := omega) only [ta_lt, ta_le, ta_eq, tnI, tl32 9 (by decide)] at c10
                    refine lv_aload_n hx hb (dkP dF_42 DX12_makes (i := 34) rfl rfl) rfl (lv_at hl 2 rfl) ?_
                    refine z_gr C0 hw 0 45 29 rfl fl_X12_114 (dk2 dF_180 DX12_makes (i := 35) rfl rfl rfl) ?_
                    refine lv_iload_n hx hb (dkP dF_29 DX12_makes (i := 36) rfl rfl) rfl (lv_at hl 0 rfl) ?_
                    refine lv_dup2_11 hx hb (dkP dF_92 DX12_makes (i := 37) rfl rfl) rfl rfl ?_
                    refine z_ialdN (n := 9) C0 hw 29 q3_52 rfl (by omega) (by decide) (dkP dF_46 DX12_makes (i := 38) rfl rfl) ?_
                    obtain ⟨v11, ev11⟩ : ∃ y : Int32, τ8.1 29 q3_52 = y := ⟨_, rfl⟩
                    refine z_top (y := v11) ev11 ?_
                    refine lv_aload_n hx hb (dkP dF_42 DX12_makes (i := 39) rfl rfl) rfl (lv_at hl 2 rfl) ?_
                    refine z_gr C0 hw 0 1 1 rfl fl_X12_20 (dk2 dF_180 DX12_makes (i := 40) rfl rfl rfl) ?_
                    refine lv_iload_n hx hb (dkP dF_27 DX12_makes (i := 41) rfl rfl) rfl (lv_at hl 3 rfl) ?_
                    refine lv_bipush (v := 6) hx hb (dks dF_16 DX12_makes (i := 42) rfl rfl rfl) (by decide) ?_
                    refine lv_iadd hx hb (dkP dF_96 DX12_makes (i := 43) rfl rfl) ?_
                    refine z_top (y := nI (k + 6)) (by simp only [fa_lit, nI_add, pk_mul]) ?_
                    refine lv_iload_n hx hb (dkP dF_28 DX12_makes (i := 44) rfl rfl) rfl (lv_at hl 1 rfl) ?_
                    refine lv_iadd hx hb (dkP dF_96 DX12_makes (i := 45) rfl rfl) ?_
                    refine z_top (y := nI ((k + 6) + q2_44)) (by simp only [fa_lit, nI_add, pk_mul]) ?_
                    refine z_ialdN (n := 414128) C0 hw 1 ((k + 6) + q2_44) rfl (by omega) (by decide) (dkP dF_46 DX12_makes (i := 46) rfl rfl) ?_
                    obtain ⟨v12, ev12⟩ : ∃ y : Int32, τ8.1 1 ((k + 6) + q2_44) = y := ⟨_, rfl⟩
                    refine z_top (y := v12) ev12 ?_
                    refine lv_aload_n hx hb (dkP dF_42 DX12_makes (i := 47) rfl rfl) rfl (lv_at hl 2 rfl) ?_
                    refine z_gr C0 hw 0 44 28 rfl fl_X12_111 (dk2 dF_180 DX12_makes (i := 48) rfl rfl rfl) ?_
                    refine lv_bipush (v := 9) hx hb (dks dF_16 DX12_makes (i := 49) rfl rfl rfl) (by decide) ?_
                    refine lv_iload_n hx hb (dkP dF_28 DX12_makes (i := 50) rfl rfl) rfl (lv_at hl 1 rfl) ?_
                    refine lv_imul hx hb (dkP dF_104 DX12_makes (i := 51) rfl rfl) ?_
                    refine z_top (y := nI (9 * q2_44)) (by simp only [fa_lit, nI_add, pk_mul]) ?_
                    refine lv_iload_n hx hb (dkP dF_29 DX12_makes (i := 52) rfl rfl) rfl (lv_at hl 0 rfl) ?_
                    refine lv_iadd hx hb (dkP dF_96 DX12_makes (i := 53) rfl rfl) ?_
                    refine z_top (y := nI ((9 * q2_44) + q3_52)) (by simp only [fa_lit, nI_add, pk_mul]) ?_
                    refine z_ialdN (n := 72) C0 hw 28 ((9 * q2_44) + q3_52) rfl (by omega) (by decide) (dkP dF_46 DX12_makes (i := 54) rfl rfl) ?_
                    obtain ⟨v13, ev13⟩ : ∃ y : Int32, τ8.1 28 ((9 * q2_44) + q3_52) = y := ⟨_, rfl⟩
                    refine z_top (y := v13) ev13 ?_
                    refine lv_imul hx hb (dkP dF_104 DX12_makes (i := 55) rfl rfl) ?_
                    refine lv_iadd hx hb (dkP dF_96 DX12_makes (i := 56) rfl rfl) ?_
                    refine z_iastN (n := 9) C0 hw 29 q3_52 rfl (by omega) (by decide) (dkP dF_79 DX12_makes (i := 57) rfl rfl) (fun H locs hw => ?_)
                    have hT14 : TM (sI τ8 29 q3_52 (v11 + (v12 * v13))) := TM.w hT_τ8 (show True from trivial)
                    have hF14 : fr [28, 29] [] σ (sI τ8 29 q3_52 (v11 + (v12 * v13))) := fr.w hF_τ8 (by decide)
                    refine lv_iinc (v := nI (q3_52 + 1)) (lv' := [(3, .int (nI (q3_52 + 1))), (2, .int (nI q2_44)), (0, .ref (ad 0)), (1, .int (nI k))]) hx hb (dkI DX12_makes (i := 58) rfl rfl rfl rfl) hl (k := 0) rfl (nI_1 _) (by decide) rfl (fun ls hl => ?_)
                    refine lv_goto (tgt := 52) hx hb (dkS dF_167 DX12_makes (i := 59) rfl rfl rfl) (by decide) ?_
                    exact ih9 (q3_52 + 1) (sI τ8 29 q3_52 (v11 + (v12 * v13))) _ _ _ (by omega) (by (try simp only [lg_cmp_lt, lg_cmp_le, lg_cmp_gt, lg_cmp_ge, lg_cmp_eq] at c3); (try simp (disch := omega) only [ta_lt, ta_le, ta_eq, tb_lt, tb_le, tb_eq, tw, tnI, tsub1, tsv, tn32 1 (by decide), tnj 1 (by decide), tl32 0 (by decide), tl64 0 (by decide), tl32 2 (by decide), tl64 2 (by decide), tl32 6 (by decide), tl64 6 (by decide), tl32 8 (by decide), tl64 8 (by decide), tl32 9 (by decide), tl64 9 (by decide)] at c3); (try simp only [lg_cmp_lt, lg_cmp_le, lg_cmp_gt, lg_cmp_ge, lg_cmp_eq] at c6); (try simp (disch := omega) only [ta_lt, ta_le, ta_eq, tb_lt, tb_le, tb_eq, tw, tnI, tsub1, tsv, tn32 1 (by decide), tnj 1 (by decide), tl32 0 (by decide), tl64 0 (by decide), tl32 2 (by decide), tl64 2 (by decide), tl32 6 (by decide), tl64 6 (by decide), tl32 8 (by decide), tl64 8 (by decide), tl32 9 (by decide), tl64 9 (by decide)] at c6); (try simp only [lg_cmp_lt, lg_cmp_le, lg_cmp_gt, lg_cmp_ge, lg_cmp_eq] at c10); (try simp (disch := omega) only [ta_lt, ta_le, ta_eq, tb_lt, tb_le, tb_eq, tw, tnI, tsub1, tsv, tn32 1 (by decide), tnj 1 (by decide), tl32 0 (by decide), tl64 0 (by decide), tl32 2 (by decide), tl64 2 (by decide), tl32 6 (by decide), tl64 6 (by decide), tl32 8 (by decide), tl64 8 (by decide), tl32 9 (by decide), tl64 9 (by decide)] at c10); (try simp (disch := omega) only [ta_lt, ta_le, ta_eq, tb_lt, tb_le, tb_eq, tw, tnI, tsub1, tsv, tn32 1 (by decide), tnj 1 (by decide), tl32 0 (by decide), tl64 0 (by decide), tl32 2 (by decide), tl64 2 (by decide), tl32 6 (by decide), tl64 6 (by decide), tl32 8 (by decide), tl64 8 (by decide), tl32 9 (by decide), tl64 9 (by decide)]); omega) hT14 hF14 hw (lv_sub hl [0, 1, 2, 3] rfl)
              exact lp9 _ 0 τ4 _ _ _ (Nat.lt_succ_self _) (by (try simp only [lg_cmp_lt, lg_cmp_le, lg_cmp_gt, lg_cmp_ge, lg_cmp_eq] at c3); (try simp (disch := omega) only [ta_lt, ta_le, ta_eq, tb_lt, tb_le, tb_eq, tw, tnI, tsub1, tsv, tn32 1 (by decide), tnj 1 (by decide), tl32 0 (by decide), tl64 0 (by decide), tl32 2 (by decide), tl64 2 (by decide), tl32 6 (by decide), tl64 6 (by decide), tl32 8 (by decide), tl64 8 (by decide), tl32 9 (by decide), tl64 9 (by decide)] at c3); (try simp only [lg_cmp_lt, lg_cmp_le, lg_cmp_gt, lg_cmp_ge, lg_cmp_eq] at c6); (try simp (disch := omega) only [ta_lt, ta_le, ta_eq, tb_lt, tb_le, tb_eq, tw, tnI, tsub1, tsv, tn32 1 (by decide), tnj 1 (by decide), tl32 0 (by decide), tl64 0 (by decide), tl32 2 (by decide), tl64 2 (by decide), tl32 6 (by decide), tl64 6 (by decide), tl32 8 (by decide), tl64 8 (by decide), tl32 9 (by decide), tl64 9 (by decide)] at c6); (try simp (disch := omega) only [ta_lt, ta_le, ta_eq, tb_lt, tb_le, tb_eq, tw, tnI, tsub1, tsv, tn32 1 (by decide), tnj 1 (by decide), tl32 0 (by decide), tl64 0 (by decide), tl32 2 (by decide), tl64 2 (by decide), tl32 6 (by decide), tl64 6 (by decide), tl32 8 (by decide), tl64 8 (by decide), tl32 9 (by decide), tl64 9 (by decide)]); omega) hT_τ4 hF_τ4 hw (lv_sub hl [0, 1, 2, 3] rfl)
        exact lp5 _ 0 τ1 _ _ _ (Nat.lt_succ_self _) (by (try simp only [lg_cmp_lt, lg_cmp_le, lg_cmp_gt, lg_cmp_ge, lg_cmp_eq] at c3); (try simp (disch := omega) only [ta_lt, ta_le, ta_eq, tb_lt, tb_le, tb_eq, tw, tnI, tsub1, tsv, tn32 1 (by decide), tnj 1 (by decide), tl32 0 (by decide), tl64 0 (by decide), tl32 2 (by decide), tl64 2 (by decide), tl32 6 (by decide), tl64 6 (by decide), tl32 8 (by decide), tl64 8 (by decide), tl32 9 (by decide), tl64 9 (by decide)] at c3); (try simp (disch := omega) only [ta_lt, ta_le, ta_eq, tb_lt, tb_le, tb_eq, tw, tnI, tsub1, tsv, tn32 1 (by decide), tnj 1 (by decide), tl32 0 (by decide), tl64 0 (by decide), tl32 2 (by decide), tl64 2 (by decide), tl32 6 (by decide), tl64 6 (by decide), tl32 8 (by decide), tl64 8 (by decide), tl32 9 (by decide), tl64 9 (by decide)]); omega) hT_τ1 hF_τ1 hw (lv_sub hl [0, 1, 2] rfl)
      · simp (disch := omega) only [ta_lt, ta_le, ta_eq, tnI, tl32 9 (by decide)] at c3
        refine lv_aload_n hx hb (dkP dF_42 DX12_makes (i := 5) rfl rfl) rfl (lv_at hl 1 rfl) ?_
        refine z_gr C0 hw 0 45 29 rfl fl_X12_114 (dk2 dF_180 DX12_makes (i := 6) rfl rfl rfl) ?_
        refine lv_iload_n hx hb (dkP dF_28 DX12_makes (i := 7) rfl rfl) rfl (lv_at hl 0 rfl) ?_
        refine lv_iload_n hx hb (dkP dF_28 DX12_makes (i := 8) rfl rfl) rfl (lv_at hl 0 rfl) ?_
        refine lv_bipush (v := 8) hx hb (dks dF_16 DX12_makes (i := 9) rfl rfl rfl) (by decide) ?_
        refine lv_icmp_ne (tgt := 34) hx hb (dkS dF_160 DX12_makes (i := 10) rfl rfl rfl) (by decide) (fun c15 => ?_) (fun c15 => ?_)
        · simp (disch := omega) only [ta_lt, ta_le, ta_eq, tnI, tl32 8 (by decide)] at c15
          refine lv_iconst (v := 0) hx hb (dkP dF_3 DX12_makes (i := 20) rfl rfl) (by decide) ?_
          refine z_iastN (n := 9) C0 hw 29 q2_2 rfl (by omega) (by decide) (dkP dF_79 DX12_makes (i := 21) rfl rfl) (fun H locs hw => ?_)
          have hT16 : TM (sI τ1 29 q2_2 0) := TM.w hT_τ1 (show True from trivial)
          have hF16 : fr [28, 29] [] σ (sI τ1 29 q2_2 0) := fr.w hF_τ1 (by decide)
          refine lv_iinc (v := nI (q2_2 + 1)) (lv' := [(2, .int (nI (q2_2 + 1))), (0, .ref (ad 0)), (1, .int (nI k))]) hx hb (dkI DX12_makes (i := 22) rfl rfl rfl rfl) hl (k := 0) rfl (nI_1 _) (by decide) rfl (fun ls hl => ?_)
          refine lv_goto (tgt := 2) hx hb (dkS dF_167 DX12_makes (i := 23) rfl rfl rfl) (by decide) ?_
          exact ih2 (q2_2 + 1) (sI τ1 29 q2_2 0) _ _ _ (by omega) (by (try simp only [lg_cmp_lt, lg_cmp_le, lg_cmp_gt, lg_cmp_ge, lg_cmp_eq] at c3); (try simp (disch := omega) only [ta_lt, ta_le, ta_eq, tb_lt, tb_le, tb_eq, tw, tnI, tsub1, tsv, tn32 1 (by decide), tnj 1 (by decide), tl32 0 (by decide), tl64 0 (by decide), tl32 2 (by decide), tl64 2 (by decide), tl32 6 (by decide), tl64 6 (by decide), tl32 8 (by decide), tl64 8 (by decide), tl32 9 (by decide), tl64 9 (by decide)] at c3); (try simp only [lg_cmp_lt, lg_cmp_le, lg_cmp_gt, lg_cmp_ge, lg_cmp_eq] at c15); (try simp (disch := omega) only [ta_lt, ta_le, ta_eq, tb_lt, tb_le, tb_eq, tw, tnI, tsub1, tsv, tn32 1 (by decide), tnj 1 (by decide), tl32 0 (by decide), tl64 0 (by decide), tl32 2 (by decide), tl64 2 (by decide), tl32 6 (by decide), tl64 6 (by decide), tl32 8 (by decide), tl64 8 (by decide), tl32 9 (by decide), tl64 9 (by decide)] at c15); (try simp (disch := omega) only [ta_lt, ta_le, ta_eq, tb_lt, tb_le, tb_eq, tw, tnI, tsub1, tsv, tn32 1 (by decide), tnj 1 (by decide), tl32 0 (by decide), tl64 0 (by decide), tl32 2 (by decide), tl64 2 (by decide), tl32 6 (by decide), tl64 6 (by decide), tl32 8 (by decide), tl64 8 (by decide), tl32 9 (by decide), tl64 9 (by decide)]); omega) hT16 hF16 hw (lv_sub hl [0, 1, 2] rfl)
        · simp (disch := omega) only [ta_lt, ta_le, ta_eq, tnI, tl32 8 (by decide)] at c15
          refine lv_aload_n hx hb (dkP dF_42 DX12_makes (i := 11) rfl rfl) rfl (lv_at hl 1 rfl) ?_
          refine z_gr C0 hw 0 1 1 rfl fl_X12_20 (dk2 dF_180 DX12_makes (i := 12) rfl rfl rfl) ?_
          refine lv_iload_n hx hb (dkP dF_27 DX12_makes (i := 13) rfl rfl) rfl (lv_at hl 2 rfl) ?_
          refine lv_bipush (v := 6) hx hb (dks dF_16 DX12_makes (i := 14) rfl rfl rfl) (by decide) ?_
          refine lv_iadd hx hb (dkP dF_96 DX12_makes (i := 15) rfl rfl) ?_
          refine z_top (y := nI (k + 6)) (by simp only [fa_lit, nI_add, pk_mul]) ?_
          refine lv_bipush (v := 8) hx hb (dks dF_16 DX12_makes (i := 16) rfl rfl rfl) (by decide) ?_
          refine lv_iadd hx hb (dkP dF_96 DX12_makes (i := 17) rfl rfl) ?_
          refine z_top (y := nI ((k + 6) + 8)) (by simp only [fa_lit, nI_add, pk_mul]) ?_
          refine z_ialdN (n := 414128) C0 hw 1 ((k + 6) + 8) rfl (by omega) (by decide) (dkP dF_46 DX12_makes (i := 18) rfl rfl) ?_
          obtain ⟨v17, ev17⟩ : ∃ y : Int32, τ1.1 1 ((k + 6) + 8) = y := ⟨_, rfl⟩
          refine z_top (y := v17) ev17 ?_
          refine lv_goto (tgt := 35) hx hb (dkS dF_167 DX12_makes (i := 19) rfl rfl rfl) (by decide) ?_
          refine z_iastN (n := 9) C0 hw 29 q2_2 rfl (by omega) (by decide) (dkP dF_79 DX12_makes (i := 21) rfl rfl) (fun H locs hw => ?_)
          have hT18 : TM (sI τ1 29 q2_2 v17) := TM.w hT_τ1 (show True from trivial)
          have hF18 : fr [28, 29] [] σ (sI τ1 29 q2_2 v17) := fr.w hF_τ1 (by decide)
          refine lv_iinc (v := nI (q2_2 + 1)) (lv' := [(2, .int (nI (q2_2 + 1))), (0, .ref (ad 0)), (1, .int (nI k))]) hx hb (dkI DX12_makes (i := 22) rfl rfl rfl rfl) hl (k := 0) rfl (nI_1 _) (by decide) rfl (fun ls hl => ?_)
          refine lv_goto (tgt := 2) hx hb (dkS dF_167 DX12_makes (i := 23) rfl rfl rfl) (by decide) ?_
          exact ih2 (q2_2 + 1) (sI τ1 29 q2_2 v17) _ _ _ (by omega) (by (try simp only [lg_cmp_lt, lg_cmp_le, lg_cmp_gt, lg_cmp_ge, lg_cmp_eq] at c3); (try simp (disch := omega) only [ta_lt, ta_le, ta_eq, tb_lt, tb_le, tb_eq, tw, tnI, tsub1, tsv, tn32 1 (by decide), tnj 1 (by decide), tl32 0 (by decide), tl64 0 (by decide), tl32 2 (by decide), tl64 2 (by decide), tl32 6 (by decide), tl64 6 (by decide), tl32 8 (by decide), tl64 8 (by decide), tl32 9 (by decide), tl64 9 (by decide)] at c3); (try simp only [lg_cmp_lt, lg_cmp_le, lg_cmp_gt, lg_cmp_ge, lg_cmp_eq] at c15); (try simp (disch := omega) only [ta_lt, ta_le, ta_eq, tb_lt, tb_le, tb_eq, tw, tnI, tsub1, tsv, tn32 1 (by decide), tnj 1 (by decide), tl32 0 (by decide), tl64 0 (by decide), tl32 2 (by decide), tl64 2 (by decide), tl32 6 (by decide), tl64 6 (by decide), tl32 8 (by decide), tl64 8 (by decide), tl32 9 (by decide), tl64 9 (by decide)] at c15); (try simp (disch := omega) only [ta_lt, ta_le, ta_eq, tb_lt, tb_le, tb_eq, tw, tnI, tsub1, tsv, tn32 1 (by decide), tnj 1 (by decide), tl32 0 (by decide), tl64 0 (by decide), tl32 2 (by decide), tl64 2 (by decide), tl32 6 (by decide), tl64 6 (by decide), tl32 8 (by decide), tl64 8 (by decide), tl32 9 (by decide), tl64 9 (by decide)]); omega) hT18 hF18 hw (lv_sub hl [0, 1, 2] rfl)
  exact lp2 _ 0 σ _ _ _ (Nat.lt_succ_self _) (by (try simp (disch := omega) only [ta_lt, ta_le, ta_eq, tb_lt, tb_le, tb_eq, tw, tnI, tsub1, tsv, tn32 1 (by decide), tnj 1 (by decide), tl32 0 (by decide), tl64 0 (by decide), tl32 2 (by decide), tl64 2 (by decide), tl32 6 (by decide), tl64 6 (by decide), tl32 8 (by decide), tl64 8 (by decide), tl32 9 (by decide), tl64 9 (by decide)]); omega) hT fr.refl hw (lv_sub hl [0, 1, 2] rfl)
set_option maxRecDepth 100000 in
set_option maxHeartbeats 8000000 in
theorem c_X12_makesWay (l : Launch) (G : va_G) (kc : KC) (ad : Nat → Nat) (σ : Sg) (pg : Nat) (w : Nat) (hp8 : pg < 8) (hw199 : w ≤ 199) (hT : TM σ) : MV l G kc yX12_makesWay cX12_makesWay 5 4 86 [.ref (ad 0), .int (nI pg), .int (nI w)] shM ad σ (fun σ1 => TM σ1 ∧ fr [28, 29] [] σ σ1) := by
  intro sz
  refine z_body (y := yX12_makesWay) (n := 5) (av := [.ref (ad 0), .int (nI pg), .int (nI w)]) (Qc := fun A => va_Qv (fun σ1 => TM σ1 ∧ fr [28, 29] [] σ σ1) (PoC G kc shM ad A) A) (plainFor_of_name (by decide)) (Nat.le_of_ble_eq_true rfl) (fun pr e s m below meth c A C0 hr hlk hnm hw hRo ls hl => ?_) sz
  have hx := C0.1
  have hb := C0.2.1
  have hown := C0.2.2.2.1
  have hts := C0.2.2.2.2.1
  have hl : lv_has ls 5 [(0, .ref (ad 0)), (1, .int (nI pg)), (2, .int (nI w))] := hl
  refine lv_aload_n hx hb (dkP dF_42 DX12_makesWay (i := 0) rfl rfl) rfl (lv_at hl 0 rfl) ?_
  refine lv_iload_n hx hb (dkP dF_27 DX12_makesWay (i := 1) rfl rfl) rfl (lv_at hl 1 rfl) ?_
  refine zk_V hw (zr_V (As := [.int (nI pg)]) (rest := []) C0 (c_X12_madeAtFirst l G kc ad σ pg (by first | omega | assumption | decide | rfl) hT _) cv_X12_madeAtFirst lk_X12_390 (zp_V C0 hRo hw 0 rfl rfl rfl) rfl hl.1 rfl ⟨by decide, by decide⟩ (Nat.le_of_ble_eq_true rfl) (dk2 dF_182 DX12_makesWay (i := 2) rfl rfl rfl) ⟨Nat.le_refl _, Nat.le_refl _⟩) (fun s1 H locs hp hw => ?_)
  obtain ⟨hT1, hG1⟩ := hp
  have hF1 : fr [28, 29] [] σ s1 := fr.t fr.refl hG1 (by decide) (by decide)
  refine lv_iconst (v := 0) hx hb (dkP dF_3 DX12_makesWay (i := 3) rfl rfl) (by decide) ?_
  refine lv_istore_n (lv' := [(3, .int 0), (0, .ref (ad 0)), (1, .int (nI pg)), (2, .int (nI w))]) hx hb (dkP dF_62 DX12_makesWay (i := 4) rfl rfl) rfl hl (by decide) rfl (fun ls hl => ?_)
  have lp3 : ∀ (n : Nat) (q3_7 : Nat) (τ2 : Sg) (H : Heap) (locs : List Loc) (ls : Array Slot), 2147483647 - q3_7 < n → (q3_7 ≤ 2147483647) → (TM τ2) → (fr [28, 29] [] σ τ2) → St G kc A s.heap shM ad τ2 H locs → lv_has ls 5 [(3, .int (nI q3_7)), (0, .ref (ad 0)), (1, .int (nI pg)), (2, .int (nI w))] → W pr l e { frames := 4, cells := 0, slots := 0, locals := 86 } s m ([.ref (ad 0), .int (nI pg), .int (nI w)] : List Value).toArray below meth c H locs 0 0 (MQ below (va_Qv (fun σ1 => TM σ1 ∧ fr [28, 29] [] σ σ1) (PoC G kc shM ad A) A) ([.ref (ad 0), .int (nI pg), .int (nI w)] : List Value).toArray s 0 0 A) (F0 m 7 ls []) := by
    intro n
    induction n with
    | zero => intro q3_7 τ2 H locs ls hmu; exact absurd hmu (Nat.not_lt_zero _)
    | succ n ih3 =>
      intro q3_7 τ2 H locs ls hmu hq3_7 hT_τ2 hF_τ2 hw hl
      refine lv_iload_n hx hb (dkP dF_29 DX12_makesWay (i := 5) rfl rfl) rfl (lv_at hl 0 rfl) ?_
      refine lv_aload_n hx hb (dkP dF_42 DX12_makesWay (i := 6) rfl rfl) rfl (lv_at hl 1 rfl) ?_
      refine z_gr C0 hw 0 29 17 rfl fl_X12_78 (dk2 dF_180 DX12_makesWay (i := 7) rfl rfl rfl) ?_
      refine lv_iload_n hx hb (dkP dF_28 DX12_makesWay (i := 8) rfl rfl) rfl (lv_at hl 3 rfl) ?_
      refine z_ialdN (n := 201) C0 hw 17 w rfl (by omega) (by decide) (dkP dF_46 DX12_makesWay (i := 9) rfl rfl) ?_
      obtain ⟨n4, hn4, en4⟩ := rngN (x := τ2.1 17 w) (h := 100) (show 0 ≤ _ ∧ _ ≤ 100 from hT_τ2 17 _)
      refine z_top (y := nI n4) en4 ?_
      refine lv_icmp_ge (tgt := 80) hx hb (dkS dF_162 DX12_makesWay (i := 10) rfl rfl rfl) (by decide) (fun c5 => ?_) (fun c5 => ?_)
      · simp (disch := omega) only [ta_lt, ta_le, ta_eq, tnI] at c5
        exact z_vret C0 hr hlk hw (⟨hT_τ2, hF_τ2⟩) (dkP dF_177 DX12_makesWay (i := 48) rfl rfl)
      · simp (disch := omega) only [ta_lt, ta_le, ta_eq, tnI] at c5
        refine lv_iload_n hx hb (dkP dF_27 DX12_makesWay (i := 11) rfl rfl) rfl (lv_at hl 2 rfl) ?_
        refine lv_aload_n hx hb (dkP dF_42 DX12_makesWay (i := 12) rfl rfl) rfl (lv_at hl 1 rfl) ?_
        refine z_gr C0 hw 0 30 18 rfl fl_X12_81 (dk2 dF_180 DX12_makesWay (i := 13) rfl rfl rfl) ?_
        refine lv_bipush (v := 100) hx hb (dks dF_16 DX12_makesWay (i := 14) rfl rfl rfl) (by decide) ?_
        refine lv_iload_n hx hb (dkP dF_28 DX12_makesWay (i := 15) rfl rfl) rfl (lv_at hl 3 rfl) ?_
        refine lv_imul hx hb (dkP dF_104 DX12_makesWay (i := 16) rfl rfl) ?_
        refine z_top (y := nI (100 * w)) (by simp only [fa_lit, nI_add, pk_mul]) ?_
        refine lv_iload_n hx hb (dkP dF_29 DX12_makesWay (i := 17) rfl rfl) rfl (lv_at hl 0 rfl) ?_
        refine lv_iadd hx hb (dkP dF_96 DX12_makesWay (i := 18) rfl rfl) ?_
        refine z_top (y := nI ((100 * w) + q3_7)) (by simp only [fa_lit, nI_add, pk_mul]) ?_
        refine z_ialdN (n := 20100) C0 hw 18 ((100 * w) + q3_7) rfl (by omega) (by decide) (dkP dF_46 DX12_makesWay (i := 19) rfl rfl) ?_
        obtain ⟨n6, hn6, en6⟩ := rngN (x := τ2.1 18 ((100 * w) + q3_7)) (h := 23) (show 0 ≤ _ ∧ _ ≤ 23 from hT_τ2 18 _)
        refine z_top (y := nI n6) en6 ?_
        refine zn_I hw (zr_S (As := [.int (nI pg), .int (nI n6)]) (rest := []) C0 (c_X12_lineAt l G kc pg n6  _) cs_X12_lineAt lk_X12_284 (zp_P C0 hRo hw a00 s00) rfl hl.1 rfl ⟨by decide, by decide⟩ (Nat.le_of_ble_eq_true rfl) (dk2 dF_184 DX12_makesWay (i := 20) rfl rfl rfl) ⟨Nat.le_refl _, Nat.le_refl _⟩) (fun r7 s7 H locs hp hw => ?_)
        subst hp
        refine lv_istore (lv' := [(4, .int (nI (168 + 16 * (24 * pg + n6)))), (3, .int (nI q3_7)), (0, .ref (ad 0)), (1, .int (nI pg)), (2, .int (nI w))]) hx hb (dk1 dF_54 DX12_makesWay (i := 21) rfl rfl rfl) hl (by decide) rfl (fun ls hl => ?_)
        refine lv_aload_n hx hb (dkP dF_42 DX12_makesWay (i := 22) rfl rfl) rfl (lv_at hl 2 rfl) ?_
        refine z_gr C0 hw 0 1 1 rfl fl_X12_20 (dk2 dF_180 DX12_makesWay (i := 23) rfl rfl rfl) ?_
        refine lv_iload hx hb (dk1 dF_21 DX12_makesWay (i := 24) rfl rfl rfl) (lv_at hl 0 rfl) ?_
        refine lv_iconst (v := 1) hx hb (dkP dF_4 DX12_makesWay (i := 25) rfl rfl) (by decide) ?_
        refine lv_iadd hx hb (dkP dF_96 DX12_makesWay (i := 26) rfl rfl) ?_
        refine z_top (y := nI ((168 + 16 * (24 * pg + n6)) + 1)) (by simp only [fa_lit, nI_add, pk_mul]) ?_
        refine z_ialdN (n := 414128) C0 hw 1 ((168 + 16 * (24 * pg + n6)) + 1) rfl (by omega) (by decide) (dkP dF_46 DX12_makesWay (i := 27) rfl rfl) ?_
        obtain ⟨v8, ev8⟩ : ∃ y : Int32, τ2.1 1 ((168 + 16 * (24 * pg + n6)) + 1) = y := ⟨_, rfl⟩
        refine z_top (y := v8) ev8 ?_
        refine lv_if_ne (tgt := 74) hx hb (dkS dF_154 DX12_makesWay (i := 28) rfl rfl rfl) (by decide) (fun c9 => ?_) (fun c9 => ?_)
        · (try simp (disch := omega) only [ta_lt, ta_le, ta_eq, tnI, tl32 0 (by decide)] at c9)
          refine lv_iinc (v := nI (q3_7 + 1)) (lv' := [(3, .int (nI (q3_7 + 1))), (4, .int (nI (168 + 16 * (24 * pg + n6)))), (0, .ref (ad 0)), (1, .int (nI pg)), (2, .int (nI w))]) hx hb (dkI DX12_makesWay (i := 46) rfl rfl rfl rfl) hl (k := 1) rfl (nI_1 _) (by decide) rfl (fun ls hl => ?_)
          refine lv_goto (tgt := 7) hx hb (dkS dF_167 DX12_makesWay (i := 47) rfl rfl rfl) (by decide) ?_
          exact ih3 (q3_7 + 1) τ2 _ _ _ (by omega) (by (try simp only [lg_cmp_lt, lg_cmp_le, lg_cmp_gt, lg_cmp_ge, lg_cmp_eq] at c5); (try simp (disch := omega) only [ta_lt, ta_le, ta_eq, tb_lt, tb_le, tb_eq, tw, tnI, tsub1, tsv, tn32 1 (by decide), tnj 1 (by decide), tl32 0 (by decide), tl64 0 (by decide), tl32 1 (by decide), tl64 1 (by decide), tl32 100 (by decide), tl64 100 (by decide)] at c5); (try simp only [lg_cmp_lt, lg_cmp_le, lg_cmp_gt, lg_cmp_ge, lg_cmp_eq] at c9); (try simp (disch := omega) only [ta_lt, ta_le, ta_eq, tb_lt, tb_le, tb_eq, tw, tnI, tsub1, tsv, tn32 1 (by decide), tnj 1 (by decide), tl32 0 (by decide), tl64 0 (by decide), tl32 1 (by decide), tl64 1 (by decide), tl32 100 (by decide), tl64 100 (by decide)] at c9); (try simp (disch := omega) only [ta_lt, ta_le, ta_eq, tb_lt, tb_le, tb_eq, tw, tnI, tsub1, tsv, tn32 1 (by decide), tnj 1 (by decide), tl32 0 (by decide), tl64 0 (by decide), tl32 1 (by decide), tl64 1 (by decide), tl32 100 (by decide), tl64 100 (by decide)]); omega) hT_τ2 hF_τ2 hw (lv_sub hl [0, 2, 3, 4] rfl)
        · (try simp (disch := omega) only [ta_lt, ta_le, ta_eq, tnI, tl32 0 (by decide)] at c9)
          refine lv_aload_n hx hb (dkP dF_42 DX12_makesWay (i := 29) rfl rfl) rfl (lv_at hl 2 rfl) ?_
          refine z_gr C0 hw 0 28 16 rfl fl_X12_75 (dk2 dF_180 DX12_makesWay (i := 30) rfl rfl rfl) ?_
          refine lv_iload_n hx hb (dkP dF_28 DX12_makesWay (i := 31) rfl rfl) rfl (lv_at hl 4 rfl) ?_
          refine z_ialdN (n := 201) C0 hw 16 w rfl (by omega) (by decide) (dkP dF_46 DX12_makesWay (i := 32) rfl rfl) ?_
          obtain ⟨v10, ev10⟩ : ∃ y : Int32, τ2.1 16 w = y := ⟨_, rfl⟩
          refine z_top (y := v10) ev10 ?_
          refine lv_iconst (v := 2) hx hb (dkP dF_5 DX12_makesWay (i := 33) rfl rfl) (by decide) ?_
          refine lv_icmp_ne (tgt := 68) hx hb (dkS dF_160 DX12_makesWay (i := 34) rfl rfl rfl) (by decide) (fun c11 => ?_) (fun c11 => ?_)
          · (try simp (disch := omega) only [ta_lt, ta_le, ta_eq, tnI, tl32 2 (by decide)] at c11)
            refine lv_aload_n hx hb (dkP dF_42 DX12_makesWay (i := 43) rfl rfl) rfl (lv_at hl 2 rfl) ?_
            refine lv_iload hx hb (dk1 dF_21 DX12_makesWay (i := 44) rfl rfl rfl) (lv_at hl 0 rfl) ?_
            obtain ⟨n12, hn12, en12⟩ := rngN (x := τ2.1 1 (168 + 16 * (24 * pg + n6) + 2)) (h := 7) (wTy_l (by omega) (by omega) (hT_τ2 1 _))
            refine zk_V hw (zr_V (As := [.int (nI (168 + 16 * (24 * pg + n6)))]) (rest := []) C0 (c_X12_makes l G kc ad τ2 (168 + 16 * (24 * pg + n6)) (by omega) (by omega) en12 hT_τ2 _) cv_X12_makes lk_X12_393 (zp_V C0 hRo hw 0 rfl rfl rfl) rfl hl.1 rfl ⟨by decide, by decide⟩ (Nat.le_of_ble_eq_true rfl) (dk2 dF_182 DX12_makesWay (i := 45) rfl rfl rfl) ⟨Nat.le_refl _, Nat.le_refl _⟩) (fun s13 H locs hp hw => ?_)
            obtain ⟨hT13, hG13⟩ := hp
            have hF13 : fr [28, 29] [] σ s13 := fr.t hF_τ2 hG13 (by decide) (by decide)
            refine lv_iinc (v := nI (q3_7 + 1)) (lv' := [(3, .int (nI (q3_7 + 1))), (4, .int (nI (168 + 16 * (24 * pg + n6)))), (0, .ref (ad 0)), (1, .int (nI pg)), (2, .int (nI w))]) hx hb (dkI DX12_makesWay (i := 46) rfl rfl rfl rfl) hl (k := 1) rfl (nI_1 _) (by decide) rfl (fun ls hl => ?_)
            refine lv_goto (tgt := 7) hx hb (dkS dF_167 DX12_makesWay (i := 47) rfl rfl rfl) (by decide) ?_
            exact ih3 (q3_7 + 1) s13 _ _ _ (by omega) (by (try simp only [lg_cmp_lt, lg_cmp_le, lg_cmp_gt, lg_cmp_ge, lg_cmp_eq] at c5); (try simp (disch := omega) only [ta_lt, ta_le, ta_eq, tb_lt, tb_le, tb_eq, tw, tnI, tsub1, tsv, tn32 1 (by decide), tnj 1 (by decide), tl32 0 (by decide), tl64 0 (by decide), tl32 1 (by decide), tl64 1 (by decide), tl32 2 (by decide), tl64 2 (by decide), tl32 100 (by decide), tl64 100 (by decide)] at c5); (try simp only [lg_cmp_lt, lg_cmp_le, lg_cmp_gt, lg_cmp_ge, lg_cmp_eq] at c9); (try simp (disch := omega) only [ta_lt, ta_le, ta_eq, tb_lt, tb_le, tb_eq, tw, tnI, tsub1, tsv, tn32 1 (by decide), tnj 1 (by decide), tl32 0 (by decide), tl64 0 (by decide), tl32 1 (by decide), tl64 1 (by decide), tl32 2 (by decide), tl64 2 (by decide), tl32 100 (by decide), tl64 100 (by decide)] at c9); (try simp only [lg_cmp_lt, lg_cmp_le, lg_cmp_gt, lg_cmp_ge, lg_cmp_eq] at c11); (try simp (disch := omega) only [ta_lt, ta_le, ta_eq, tb_lt, tb_le, tb_eq, tw, tnI, tsub1, tsv, tn32 1 (by decide), tnj 1 (by decide), tl32 0 (by decide), tl64 0 (by decide), tl32 1 (by decide), tl64 1 (by decide), tl32 2 (by decide), tl64 2 (by decide), tl32 100 (by decide), tl64 100 (by decide)] at c11); (try simp (disch := omega) only [ta_lt, ta_le, ta_eq, tb_lt, tb_le, tb_eq, tw, tnI, tsub1, tsv, tn32 1 (by decide), tnj 1 (by decide), tl32 0 (by decide), tl64 0 (by decide), tl32 1 (by decide), tl64 1 (by decide), tl32 2 (by decide), tl64 2 (by decide), tl32 100 (by decide), tl64 100 (by decide)]); omega) hT13 hF13 hw (lv_sub hl [0, 2, 3, 4] rfl)
          · (try simp (disch := omega) only [ta_lt, ta_le, ta_eq, tnI, tl32 2 (by decide)] at c11)
            refine lv_iload_n hx hb (dkP dF_29 DX12_makesWay (i := 35) rfl rfl) rfl (lv_at hl 1 rfl) ?_
            refine lv_aload_n hx hb (dkP dF_42 DX12_makesWay (i := 36) rfl rfl) rfl (lv_at hl 2 rfl) ?_
            refine z_gr C0 hw 0 29 17 rfl fl_X12_78 (dk2 dF_180 DX12_makesWay (i := 37) rfl rfl rfl) ?_
            refine lv_iload_n hx hb (dkP dF_28 DX12_makesWay (i := 38) rfl rfl) rfl (lv_at hl 4 rfl) ?_
            refine z_ialdN (n := 201) C0 hw 17 w rfl (by omega) (by decide) (dkP dF_46 DX12_makesWay (i := 39) rfl rfl) ?_
            refine z_top (y := (nI n4)) en4 ?_
            refine lv_iconst (v := 1) hx hb (dkP dF_4 DX12_makesWay (i := 40) rfl rfl) (by decide) ?_
            refine lv_isub hx hb (dkP dF_100 DX12_makesWay (i := 41) rfl rfl) ?_
            refine lv_icmp_eq (tgt := 74) hx hb (dkS dF_159 DX12_makesWay (i := 42) rfl rfl rfl) (by decide) (fun c14 => ?_) (fun c14 => ?_)
            · (try simp (disch := omega) only [ta_lt, ta_le, ta_eq, tnI] at c14)
              refine lv_iinc (v := nI (q3_7 + 1)) (lv' := [(3, .int (nI (q3_7 + 1))), (4, .int (nI (168 + 16 * (24 * pg + n6)))), (0, .ref (ad 0)), (1, .int (nI pg)), (2, .int (nI w))]) hx hb (dkI DX12_makesWay (i := 46) rfl rfl rfl rfl) hl (k := 1) rfl (nI_1 _) (by decide) rfl (fun ls hl => ?_)
              refine lv_goto (tgt := 7) hx hb (dkS dF_167 DX12_makesWay (i := 47) rfl rfl rfl) (by decide) ?_
              exact ih3 (q3_7 + 1) τ2 _ _ _ (by omega) (by (try simp only [lg_cmp_lt, lg_cmp_le, lg_cmp_gt, lg_cmp_ge, lg_cmp_eq] at c5); (try simp (disch := omega) only [ta_lt, ta_le, ta_eq, tb_lt, tb_le, tb_eq, tw, tnI, tsub1, tsv, tn32 1 (by decide), tnj 1 (by decide), tl32 0 (by decide), tl64 0 (by decide), tl32 1 (by decide), tl64 1 (by decide), tl32 2 (by decide), tl64 2 (by decide), tl32 100 (by decide), tl64 100 (by decide)] at c5); (try simp only [lg_cmp_lt, lg_cmp_le, lg_cmp_gt, lg_cmp_ge, lg_cmp_eq] at c9); (try simp (disch := omega) only [ta_lt, ta_le, ta_eq, tb_lt, tb_le, tb_eq, tw, tnI, tsub1, tsv, tn32 1 (by decide), tnj 1 (by decide), tl32 0 (by decide), tl64 0 (by decide), tl32 1 (by decide), tl64 1 (by decide), tl32 2 (by decide), tl64 2 (by decide), tl32 100 (by decide), tl64 100 (by decide)] at c9); (try simp only [lg_cmp_lt, lg_cmp_le, lg_cmp_gt, lg_cmp_ge, lg_cmp_eq] at c11); (try simp (disch := omega) only [ta_lt, ta_le, ta_eq, tb_lt, tb_le, tb_eq, tw, tnI, tsub1, tsv, tn32 1 (by decide), tnj 1 (by decide), tl32 0 (by decide), tl64 0 (by decide), tl32 1 (by decide), tl64 1 (by decide), tl32 2 (by decide), tl64 2 (by decide), tl32 100 (by decide), tl64 100 (by decide)] at c11); (try simp only [lg_cmp_lt, lg_cmp_le, lg_cmp_gt, lg_cmp_ge, lg_cmp_eq] at c14); (try simp (disch := omega) only [ta_lt, ta_le, ta_eq, tb_lt, tb_le, tb_eq, tw, tnI, tsub1, tsv, tn32 1 (by decide), tnj 1 (by decide), tl32 0 (by decide), tl64 0 (by decide), tl32 1 (by decide), tl64 1 (by decide), tl32 2 (by decide), tl64 2 (by decide), tl32 100 (by decide), tl64 100 (by decide)] at c14); (try simp (disch := omega) only [ta_lt, ta_le, ta_eq, tb_lt, tb_le, tb_eq, tw, tnI, tsub1, tsv, tn32 1 (by decide), tnj 1 (by decide), tl32 0 (by decide), tl64 0 (by decide), tl32 1 (by decide), tl64 1 (by decide), tl32 2 (by decide), tl64 2 (by decide), tl32 100 (by decide), tl64 100 (by decide)]); omega) hT_τ2 hF_τ2 hw (lv_sub hl [0, 2, 3, 4] rfl)
            · (try simp (disch := omega) only [ta_lt, ta_le, ta_eq, tnI] at c14)
              refine lv_aload_n hx hb (dkP dF_42 DX12_makesWay (i := 43) rfl rfl) rfl (lv_at hl 2 rfl) ?_
              refine lv_iload hx hb (dk1 dF_21 DX12_makesWay (i := 44) rfl rfl rfl) (lv_at hl 0 rfl) ?_
              refine zk_V hw (zr_V (As := [.int (nI (168 + 16 * (24 * pg + n6)))]) (rest := []) C0 (c_X12_makes l G kc ad τ2 (168 + 16 * (24 * pg + n6)) (by omega) (by omega) en12 hT_τ2 _) cv_X12_makes lk_X12_393 (zp_V C0 hRo hw 0 rfl rfl rfl) rfl hl.1 rfl ⟨by decide, by decide⟩ (Nat.le_of_ble_eq_true rfl) (dk2 dF_182 DX12_makesWay (i := 45) rfl rfl rfl) ⟨Nat.le_refl _, Nat.le_refl _⟩) (fun s15 H locs hp hw => ?_)
              obtain ⟨hT15, hG15⟩ := hp
              have hF15 : fr [28, 29] [] σ s15 := fr.t hF_τ2 hG15 (by decide) (by decide)
              refine lv_iinc (v := nI (q3_7 + 1)) (lv' := [(3, .int (nI (q3_7 + 1))), (4, .int (nI (168 + 16 * (24 * pg + n6)))), (0, .ref (ad 0)), (1, .int (nI pg)), (2, .int (nI w))]) hx hb (dkI DX12_makesWay (i := 46) rfl rfl rfl rfl) hl (k := 1) rfl (nI_1 _) (by decide) rfl (fun ls hl => ?_)
              refine lv_goto (tgt := 7) hx hb (dkS dF_167 DX12_makesWay (i := 47) rfl rfl rfl) (by decide) ?_
              exact ih3 (q3_7 + 1) s15 _ _ _ (by omega) (by (try simp only [lg_cmp_lt, lg_cmp_le, lg_cmp_gt, lg_cmp_ge, lg_cmp_eq] at c5); (try simp (disch := omega) only [ta_lt, ta_le, ta_eq, tb_lt, tb_le, tb_eq, tw, tnI, tsub1, tsv, tn32 1 (by decide), tnj 1 (by decide), tl32 0 (by decide), tl64 0 (by decide), tl32 1 (by decide), tl64 1 (by decide), tl32 2 (by decide), tl64 2 (by decide), tl32 100 (by decide), tl64 100 (by decide)] at c5); (try simp only [lg_cmp_lt, lg_cmp_le, lg_cmp_gt, lg_cmp_ge, lg_cmp_eq] at c9); (try simp (disch := omega) only [ta_lt, ta_le, ta_eq, tb_lt, tb_le, tb_eq, tw, tnI, tsub1, tsv, tn32 1 (by decide), tnj 1 (by decide), tl32 0 (by decide), tl64 0 (by decide), tl32 1 (by decide), tl64 1 (by decide), tl32 2 (by decide), tl64 2 (by decide), tl32 100 (by decide), tl64 100 (by decide)] at c9); (try simp only [lg_cmp_lt, lg_cmp_le, lg_cmp_gt, lg_cmp_ge, lg_cmp_eq] at c11); (try simp (disch := omega) only [ta_lt, ta_le, ta_eq, tb_lt, tb_le, tb_eq, tw, tnI, tsub1, tsv, tn32 1 (by decide), tnj 1 (by decide), tl32 0 (by decide), tl64 0 (by decide), tl32 1 (by decide), tl64 1 (by decide), tl32 2 (by decide), tl64 2 (by decide), tl32 100 (by decide), tl64 100 (by decide)] at c11); (try simp only [lg_cmp_lt, lg_cmp_le, lg_cmp_gt, lg_cmp_ge, lg_cmp_eq] at c14); (try simp (disch := omega) only [ta_lt, ta_le, ta_eq, tb_lt, tb_le, tb_eq, tw, tnI, tsub1, tsv, tn32 1 (by decide), tnj 1 (by decide), tl32 0 (by decide), tl64 0 (by decide), tl32 1 (by decide), tl64 1 (by decide), tl32 2 (by decide), tl64 2 (by decide), tl32 100 (by decide), tl64 100 (by decide)] at c14); (try simp (disch := omega) only [ta_lt, ta_le, ta_eq, tb_lt, tb_le, tb_eq, tw, tnI, tsub1, tsv, tn32 1 (by decide), tnj 1 (by decide), tl32 0 (by decide), tl64 0 (by decide), tl32 1 (by decide), tl64 1 (by decide), tl32 2 (by decide), tl64 2 (by decide), tl32 100 (by decide), tl64 100 (by decide)]); omega) hT15 hF15 hw (lv_sub hl [0, 2, 3, 4] rfl)
  exact lp3 _ 0 s1 _ _ _ (Nat.lt_succ_self _) (by (try simp (disch := omega) only [ta_lt, ta_le, ta_eq, tb_lt, tb_le, tb_eq, tw, tnI, tsub1, tsv, tn32 1 (by decide), tnj 1 (by decide), tl32 0 (by decide), tl64 0 (by decide), tl32 1 (by decide), tl64 1 (by decide), tl32 2 (by decide), tl64 2 (by decide), tl32 100 (by decide), tl64 100 (by decide)]); omega) hT1 hF1 hw (lv_sub hl [0, 1, 2, 3] rfl)
set_option maxRecDepth 100000 in
set_option maxHeartbeats 8000000 in
theorem c_X12_ways (l : Launch) (G : va_G) (kc : KC) (ad : Nat → Nat) (σ : Sg) (program : Int32) (hT : TM σ) : MI l G kc yX12_ways cX12_ways 4 (some .int) 5 114 [.ref (ad 0), .int program] shM ad σ (fun r σ1 => TM σ1 ∧ fr [11, 12, 13, 16, 17, 18, 19, 20, 21, 22, 23, 24, 25, 26, 27, 28, 29] [23, 33, 41, 42, 43] σ σ1) := by
  intro sz
  refine z_body (y := yX12_ways) (n := 4) (av := [.ref (ad 0), .int program]) (Qc := fun A => va_Qi (fun r σ1 => TM σ1 ∧ fr [11, 12, 13, 16, 17, 18, 19, 20, 21, 22, 23, 24, 25, 26, 27, 28, 29] [23, 33, 41, 42, 43] σ σ1) (PoC G kc shM ad A) A) (plainFor_of_name (by decide)) (Nat.le_of_ble_eq_true rfl) (fun pr e s m below meth c A C0 hr hlk hnm hw hRo ls hl => ?_) sz
  have hx := C0.1
  have hb := C0.2.1
  have hown := C0.2.2.2.1
  have hts := C0.2.2.2.2.1
  have hl : lv_has ls 4 [(0, .ref (ad 0)), (1, .int program)] := hl
  refine lv_iload_n hx hb (dkP dF_27 DX12_ways (i := 0) rfl rfl) rfl (lv_at hl 1 rfl) ?_
  refine zn_I hw (zr_S (As := [.int program]) (rest := []) C0 (c_X12_isProgram l G kc program  _) cs_X12_isProgram lk_X12_272 (zp_P C0 hRo hw a00 s00) rfl hl.1 rfl ⟨by decide, by decide⟩ (Nat.le_of_ble_eq_true rfl) (dk2 dF_184 DX12_ways (i := 1) rfl rfl rfl) ⟨Nat.le_refl _, Nat.le_refl _⟩) (fun r1 s1 H locs hp hw => ?_)
  rcases hp with ⟨rfl, hc1⟩ | ⟨rfl, hc1⟩
  · skip
    (try simp (disch := omega) only [ta_lt, ta_le, ta_eq, tb_lt, tb_le, tb_eq, tw, tnI, tn32 1 (by decide), tnj 1 (by decide), tl32 0 (by decide), tl64 0 (by decide)] at hc1)
    obtain ⟨k_program, hk_program, rfl⟩ := to_nat (x := program) (n := 8) (by (try simp only [lg_cmp_lt, lg_cmp_le, lg_cmp_gt, lg_cmp_ge, lg_cmp_eq] at hc1); (try simp (disch := omega) only [ta_lt, ta_le, ta_eq, tb_lt, tb_le, tb_eq, tw, tnI, tn32 1 (by decide), tnj 1 (by decide), tl32 0 (by decide), tl64 0 (by decide)] at hc1); (try simp (disch := omega) only [ta_lt, ta_le, ta_eq, tb_lt, tb_le, tb_eq, tw, tnI, tn32 1 (by decide), tnj 1 (by decide), tl32 0 (by decide), tl64 0 (by decide)]); omega)
    refine lv_if_eq (tgt := 15) hx hb (dkS dF_153 DX12_ways (i := 2) rfl rfl rfl) (by decide) (fun h => absurd h (by decide)) (fun _ => ?_)
    refine lv_aload_n hx hb (dkP dF_42 DX12_ways (i := 3) rfl rfl) rfl (lv_at hl 0 rfl) ?_
    refine lv_iload_n hx hb (dkP dF_27 DX12_ways (i := 4) rfl rfl) rfl (lv_at hl 1 rfl) ?_
    refine zk_I hw (zr_V (As := [.int (nI k_program)]) (rest := []) C0 (c_X12_hasOld l G kc ad σ k_program (by first | omega | assumption | decide | rfl) _) cv_X12_hasOld lk_X12_366 (zp_V C0 hRo hw 0 rfl rfl rfl) rfl hl.1 rfl ⟨by decide, by decide⟩ (Nat.le_of_ble_eq_true rfl) (dk2 dF_182 DX12_ways (i := 5) rfl rfl rfl) ⟨Nat.le_refl _, Nat.le_refl _⟩) (fun r2 s2 H locs hp hw => ?_)
    obtain ⟨hq2, hs2⟩ := hp
    (rw [hs2] at hw; clear hs2)
    rcases hq2 with ⟨rfl, hc2⟩ | ⟨rfl, hc2⟩
    · skip
      refine lv_if_ne (tgt := 18) hx hb (dkS dF_154 DX12_ways (i := 6) rfl rfl rfl) (by decide) (fun _ => ?_) (fun h => absurd h (by decide))
      refine lv_aload_n hx hb (dkP dF_42 DX12_ways (i := 9) rfl rfl) rfl (lv_at hl 0 rfl) ?_
      refine lv_iload_n hx hb (dkP dF_27 DX12_ways (i := 10) rfl rfl) rfl (lv_at hl 1 rfl) ?_
      refine zk_I hw (zr_V (As := [.int (nI k_program)]) (rest := []) C0 (c_X12_findWays l G kc ad σ k_program (by first | omega | assumption | decide | rfl) hT _) cv_X12_findWays lk_X12_396 (zp_V C0 hRo hw 0 rfl rfl rfl) rfl hl.1 rfl ⟨by decide, by decide⟩ (Nat.le_of_ble_eq_true rfl) (dk2 dF_182 DX12_ways (i := 11) rfl rfl rfl) ⟨Nat.le_refl _, Nat.le_refl _⟩) (fun r3 s3 H locs hp hw => ?_)
      obtain ⟨f3_0, hT3, hG3⟩ := hp
      have hF3 : fr [11, 12, 13, 16, 17, 18, 19, 20, 21, 22, 23, 24, 25, 26, 27, 28, 29] [23, 33, 41, 42, 43] σ s3 := fr.t fr.refl hG3 (by decide) (by decide)
      rcases f3_0 with ⟨rfl, hc3⟩ | ⟨rfl, hc3⟩
      · skip
        refine lv_if_ne (tgt := 29) hx hb (dkS dF_154 DX12_ways (i := 12) rfl rfl rfl) (by decide) (fun _ => ?_) (fun h => absurd h (by decide))
        refine lv_aload_n hx hb (dkP dF_42 DX12_ways (i := 15) rfl rfl) rfl (lv_at hl 0 rfl) ?_
        refine lv_aload_n hx hb (dkP dF_42 DX12_ways (i := 16) rfl rfl) rfl (lv_at hl 0 rfl) ?_
        refine z_gi C0 hw 0 33 rfl fl_X12_384 (dk2 dF_180 DX12_ways (i := 17) rfl rfl rfl) ?_
        obtain ⟨n4, hn4, en4⟩ := rngN (x := s3.1 0 33) (h := 200) (show 0 ≤ _ ∧ _ ≤ 200 from hT3 0 33)
        refine z_top (y := nI n4) en4 ?_
        refine z_pi C0 hw 0 41 rfl fp_X12_399 (dk2 dF_181 DX12_ways (i := 18) rfl rfl rfl) (fun H locs hw => ?_)
        have hT5 : TM (sI s3 0 41 (nI n4)) := TM.w hT3 (show 0 ≤ _ ∧ _ ≤ 200 from by (try simp only [lg_cmp_lt, lg_cmp_le, lg_cmp_gt, lg_cmp_ge, lg_cmp_eq] at hc1); (try simp (disch := omega) only [ta_lt, ta_le, ta_eq, tb_lt, tb_le, tb_eq, tw, tnI, tsub1, tsv, tn32 1 (by decide), tnj 1 (by decide), tl32 0 (by decide), tl64 0 (by decide)] at hc1); (try simp only [lg_cmp_lt, lg_cmp_le, lg_cmp_gt, lg_cmp_ge, lg_cmp_eq] at hc2); (try simp (disch := omega) only [ta_lt, ta_le, ta_eq, tb_lt, tb_le, tb_eq, tw, tnI, tsub1, tsv, tn32 1 (by decide), tnj 1 (by decide), tl32 0 (by decide), tl64 0 (by decide)] at hc2); (try simp only [lg_cmp_lt, lg_cmp_le, lg_cmp_gt, lg_cmp_ge, lg_cmp_eq] at f3_0); (try simp (disch := omega) only [ta_lt, ta_le, ta_eq, tb_lt, tb_le, tb_eq, tw, tnI, tsub1, tsv, tn32 1 (by decide), tnj 1 (by decide), tl32 0 (by decide), tl64 0 (by decide)] at f3_0); (try simp only [lg_cmp_lt, lg_cmp_le, lg_cmp_gt, lg_cmp_ge, lg_cmp_eq] at hc3); (try simp (disch := omega) only [ta_lt, ta_le, ta_eq, tb_lt, tb_le, tb_eq, tw, tnI, tsub1, tsv, tn32 1 (by decide), tnj 1 (by decide), tl32 0 (by decide), tl64 0 (by decide)] at hc3); (try simp (disch := omega) only [ta_lt, ta_le, ta_eq, tb_lt, tb_le, tb_eq, tw, tnI, tsub1, tsv, tn32 1 (by decide), tnj 1 (by decide), tl32 0 (by decide), tl64 0 (by decide)]); omega)
        have hF5 : fr [11, 12, 13, 16, 17, 18, 19, 20, 21, 22, 23, 24, 25, 26, 27, 28, 29] [23, 33, 41, 42, 43] σ (sI s3 0 41 (nI n4)) := fr.w hF3 (by decide)
        refine lv_aload_n hx hb (dkP dF_42 DX12_ways (i := 19) rfl rfl) rfl (lv_at hl 0 rfl) ?_
        refine lv_iconst (v := 0) hx hb (dkP dF_3 DX12_ways (i := 20) rfl rfl) (by decide) ?_
        refine z_pi C0 hw 0 42 rfl fp_X12_402 (dk2 dF_181 DX12_ways (i := 21) rfl rfl rfl) (fun H locs hw => ?_)
        have hT6 : TM (sI (sI s3 0 41 (nI n4)) 0 42 0) := TM.w hT5 (show 0 ≤ _ ∧ _ ≤ 8 from by (try simp only [lg_cmp_lt, lg_cmp_le, lg_cmp_gt, lg_cmp_ge, lg_cmp_eq] at hc1); (try simp (disch := omega) only [ta_lt, ta_le, ta_eq, tb_lt, tb_le, tb_eq, tw, tnI, tsub1, tsv, tn32 1 (by decide), tnj 1 (by decide), tl32 0 (by decide), tl64 0 (by decide)] at hc1); (try simp only [lg_cmp_lt, lg_cmp_le, lg_cmp_gt, lg_cmp_ge, lg_cmp_eq] at hc2); (try simp (disch := omega) only [ta_lt, ta_le, ta_eq, tb_lt, tb_le, tb_eq, tw, tnI, tsub1, tsv, tn32 1 (by decide), tnj 1 (by decide), tl32 0 (by decide), tl64 0 (by decide)] at hc2); (try simp only [lg_cmp_lt, lg_cmp_le, lg_cmp_gt, lg_cmp_ge, lg_cmp_eq] at f3_0); (try simp (disch := omega) only [ta_lt, ta_le, ta_eq, tb_lt, tb_le, tb_eq, tw, tnI, tsub1, tsv, tn32 1 (by decide), tnj 1 (by decide), tl32 0 (by decide), tl64 0 (by decide)] at f3_0); (try simp only [lg_cmp_lt, lg_cmp_le, lg_cmp_gt, lg_cmp_ge, lg_cmp_eq] at hc3); (try simp (disch := omega) only [ta_lt, ta_le, ta_eq, tb_lt, tb_le, tb_eq, tw, tnI, tsub1, tsv, tn32 1 (by decide), tnj 1 (by decide), tl32 0 (by decide), tl64 0 (by decide)] at hc3); (try simp (disch := omega) only [ta_lt, ta_le, ta_eq, tb_lt, tb_le, tb_eq, tw, tnI, tsub1, tsv, tn32 1 (by decide), tnj 1 (by decide), tl32 0 (by decide), tl64 0 (by decide)]); omega)
        have hF6 : fr [11, 12, 13, 16, 17, 18, 19, 20, 21, 22, 23, 24, 25, 26, 27, 28, 29] [23, 33, 41, 42, 43] σ (sI (sI s3 0 41 (nI n4)) 0 42 0) := fr.w hF5 (by decide)
        refine lv_iconst (v := 0) hx hb (dkP dF_3 DX12_ways (i := 22) rfl rfl) (by decide) ?_
        refine lv_istore_n (lv' := [(2, .int 0), (0, .ref (ad 0)), (1, .int (nI k_program))]) hx hb (dkP dF_61 DX12_ways (i := 23) rfl rfl) rfl hl (by decide) rfl (fun ls hl => ?_)
        have lp8 : ∀ (n : Nat) (q2_44 : Nat) (a : Nat) (τ7 : Sg) (H : Heap) (locs : List Loc) (ls : Array Slot), 8 - q2_44 < n → (q2_44 ≤ 8) → (τ7.1 0 42 = nI a) → (a ≤ q2_44) → (TM τ7) → (fr [11, 12, 13, 16, 17, 18, 19, 20, 21, 22, 23, 24, 25, 26, 27, 28, 29] [23, 33, 41, 42, 43] σ τ7) → St G kc A s.heap shM ad τ7 H locs → lv_has ls 4 [(2, .int (nI q2_44)), (0, .ref (ad 0)), (1, .int (nI k_program))] → W pr l e { frames := 5, cells := 0, slots := 0, locals := 114 } s m ([.ref (ad 0), .int (nI k_program)] : List Value).toArray below meth c H locs 0 0 (MQ below (va_Qi (fun r σ1 => TM σ1 ∧ fr [11, 12, 13, 16, 17, 18, 19, 20, 21, 22, 23, 24, 25, 26, 27, 28, 29] [23, 33, 41, 42, 43] σ σ1) (PoC G kc shM ad A) A) ([.ref (ad 0), .int (nI k_program)] : List Value).toArray s 0 0 A) (F0 m 44 ls []) := by
          intro n
          induction n with
          | zero => intro q2_44 a τ7 H locs ls hmu; exact absurd hmu (Nat.not_lt_zero _)
          | succ n ih8 =>
            intro q2_44 a τ7 H locs ls hmu hq2_44 ha ha1 hT_τ7 hF_τ7 hw hl
            refine lv_iload_n hx hb (dkP dF_28 DX12_ways (i := 24) rfl rfl) rfl (lv_at hl 0 rfl) ?_
            refine lv_bipush (v := 8) hx hb (dks dF_16 DX12_ways (i := 25) rfl rfl rfl) (by decide) ?_
            refine lv_icmp_ge (tgt := 88) hx hb (dkS dF_162 DX12_ways (i := 26) rfl rfl rfl) (by decide) (fun c9 => ?_) (fun c9 => ?_)
            · simp (disch := omega) only [ta_lt, ta_le, ta_eq, tnI, tl32 8 (by decide)] at c9
              refine lv_aload_n hx hb (dkP dF_42 DX12_ways (i := 47) rfl rfl) rfl (lv_at hl 1 rfl) ?_
              refine lv_iconst (v := 1) hx hb (dkP dF_4 DX12_ways (i := 48) rfl rfl) (by decide) ?_
              refine lv_aload_n hx hb (dkP dF_42 DX12_ways (i := 49) rfl rfl) rfl (lv_at hl 1 rfl) ?_
              refine z_gr C0 hw 0 1 1 rfl fl_X12_20 (dk2 dF_180 DX12_ways (i := 50) rfl rfl rfl) ?_
              refine lv_iload_n hx hb (dkP dF_27 DX12_ways (i := 51) rfl rfl) rfl (lv_at hl 2 rfl) ?_
              refine zn_I hw (zr_S (As := [.int (nI k_program)]) (rest := [.ref (ad 1), .int 1, .ref (ad 0)]) C0 (c_X12_of l G kc k_program  _) cs_X12_of lk_X12_139 (zp_P C0 hRo hw a00 s00) rfl hl.1 rfl ⟨by decide, by decide⟩ (Nat.le_of_ble_eq_true rfl) (dk2 dF_184 DX12_ways (i := 52) rfl rfl rfl) ⟨Nat.le_refl _, Nat.le_refl _⟩) (fun r10 s10 H locs hp hw => ?_)
              subst hp
              refine lv_iconst (v := 1) hx hb (dkP dF_4 DX12_ways (i := 53) rfl rfl) (by decide) ?_
              refine lv_iadd hx hb (dkP dF_96 DX12_ways (i := 54) rfl rfl) ?_
              refine z_top (y := nI ((8 + 20 * k_program) + 1)) (by simp only [fa_lit, nI_add, pk_mul]) ?_
              refine z_ialdN (n := 414128) C0 hw 1 ((8 + 20 * k_program) + 1) rfl (by omega) (by decide) (dkP dF_46 DX12_ways (i := 55) rfl rfl) ?_
              obtain ⟨v11, ev11⟩ : ∃ y : Int32, τ7.1 1 ((8 + 20 * k_program) + 1) = y := ⟨_, rfl⟩
              have hv11 : -1 ≤ v11.toInt ∧ v11.toInt ≤ 24 := by rw [← ev11]; exact (wTy_n (by omega) (hT_τ7 1 _))
              refine z_top (y := v11) ev11 ?_
              refine lv_ishl hx hb (dkP dF_120 DX12_ways (i := 56) rfl rfl) ?_
              refine lv_iconst (v := 1) hx hb (dkP dF_4 DX12_ways (i := 57) rfl rfl) (by decide) ?_
              refine lv_isub hx hb (dkP dF_100 DX12_ways (i := 58) rfl rfl) ?_
              refine z_pi C0 hw 0 43 rfl fp_X12_405 (dk2 dF_181 DX12_ways (i := 59) rfl rfl rfl) (fun H locs hw => ?_)
              have hT12 : TM (sI τ7 0 43 ((1 <<< (v11 &&& 31)) - 1)) := TM.w hT_τ7 (show True from trivial)
              have hF12 : fr [11, 12, 13, 16, 17, 18, 19, 20, 21, 22, 23, 24, 25, 26, 27, 28, 29] [23, 33, 41, 42, 43] σ (sI τ7 0 43 ((1 <<< (v11 &&& 31)) - 1)) := fr.w hF_τ7 (by decide)
              refine lv_iconst (v := 0) hx hb (dkP dF_3 DX12_ways (i := 60) rfl rfl) (by decide) ?_
              refine lv_istore_n (lv' := [(2, .int 0), (0, .ref (ad 0)), (1, .int (nI k_program))]) hx hb (dkP dF_61 DX12_ways (i := 61) rfl rfl) rfl hl (by decide) rfl (fun ls hl => ?_)
              have lp14 : ∀ (n : Nat) (q2_109 : Nat) (τ13 : Sg) (H : Heap) (locs : List Loc) (ls : Array Slot), 2147483647 - q2_109 < n → (q2_109 ≤ 2147483647) → (TM τ13) → (fr [11, 12, 13, 16, 17, 18, 19, 20, 21, 22, 23, 24, 25, 26, 27, 28, 29] [23, 33, 41, 42, 43] σ τ13) → St G kc A s.heap shM ad τ13 H locs → lv_has ls 4 [(2, .int (nI q2_109)), (0, .ref (ad 0)), (1, .int (nI k_program))] → W pr l e { frames := 5, cells := 0, slots := 0, locals := 114 } s m ([.ref (ad 0), .int (nI k_program)] : List Value).toArray below meth c H locs 0 0 (MQ below (va_Qi (fun r σ1 => TM σ1 ∧ fr [11, 12, 13, 16, 17, 18, 19, 20, 21, 22, 23, 24, 25, 26, 27, 28, 29] [23, 33, 41, 42, 43] σ σ1) (PoC G kc shM ad A) A) ([.ref (ad 0), .int (nI k_program)] : List Value).toArray s 0 0 A) (F0 m 109 ls []) := by
                intro n
                induction n with
                | zero => intro q2_109 τ13 H locs ls hmu; exact absurd hmu (Nat.not_lt_zero _)
                | succ n ih14 =>
                  intro q2_109 τ13 H locs ls hmu hq2_109 hT_τ13 hF_τ13 hw hl
                  refine lv_iload_n hx hb (dkP dF_28 DX12_ways (i := 62) rfl rfl) rfl (lv_at hl 0 rfl) ?_
                  refine lv_aload_n hx hb (dkP dF_42 DX12_ways (i := 63) rfl rfl) rfl (lv_at hl 1 rfl) ?_
                  refine z_gi C0 hw 0 33 rfl fl_X12_384 (dk2 dF_180 DX12_ways (i := 64) rfl rfl rfl) ?_
                  obtain ⟨n15, hn15, en15⟩ := rngN (x := τ13.1 0 33) (h := 200) (show 0 ≤ _ ∧ _ ≤ 200 from hT_τ13 0 33)
                  refine z_top (y := nI n15) en15 ?_
                  refine lv_icmp_ge (tgt := 268) hx hb (dkS dF_162 DX12_ways (i := 65) rfl rfl rfl) (by decide) (fun c16 => ?_) (fun c16 => ?_)
                  · simp (disch := omega) only [ta_lt, ta_le, ta_eq, tnI] at c16
                    refine lv_aload_n hx hb (dkP dF_42 DX12_ways (i := 162) rfl rfl) rfl (lv_at hl 1 rfl) ?_
                    refine z_gi C0 hw 0 33 rfl fl_X12_384 (dk2 dF_180 DX12_ways (i := 163) rfl rfl rfl) ?_
                    refine z_top (y := (nI n15)) en15 ?_
                    exact z_iret C0 hr hlk hw (⟨hT_τ13, hF_τ13⟩) (dkP dF_172 DX12_ways (i := 164) rfl rfl)
                  · simp (disch := omega) only [ta_lt, ta_le, ta_eq, tnI] at c16
                    refine lv_aload_n hx hb (dkP dF_42 DX12_ways (i := 66) rfl rfl) rfl (lv_at hl 1 rfl) ?_
                    refine z_gr C0 hw 0 34 21 rfl fl_X12_90 (dk2 dF_180 DX12_ways (i := 67) rfl rfl rfl) ?_
                    refine lv_iload_n hx hb (dkP dF_28 DX12_ways (i := 68) rfl rfl) rfl (lv_at hl 0 rfl) ?_
                    refine lv_aload_n hx hb (dkP dF_42 DX12_ways (i := 69) rfl rfl) rfl (lv_at hl 1 rfl) ?_
                    refine z_gr C0 hw 0 28 16 rfl fl_X12_75 (dk2 dF_180 DX12_ways (i := 70) rfl rfl rfl) ?_
                    refine lv_iload_n hx hb (dkP dF_28 DX12_ways (i := 71) rfl rfl) rfl (lv_at hl 0 rfl) ?_
                    refine z_ialdN (n := 201) C0 hw 16 q2_109 rfl (by omega) (by decide) (dkP dF_46 DX12_ways (i := 72) rfl rfl) ?_
                    obtain ⟨v17, ev17⟩ : ∃ y : Int32, τ13.1 16 q2_109 = y := ⟨_, rfl⟩
                    refine z_top (y := v17) ev17 ?_
                    refine z_iastN (n := 200) C0 hw 21 q2_109 rfl (by omega) (by decide) (dkP dF_79 DX12_ways (i := 73) rfl rfl) (fun H locs hw => ?_)
                    have hT18 : TM (sI τ13 21 q2_109 v17) := TM.w hT_τ13 (show True from trivial)
                    have hF18 : fr [11, 12, 13, 16, 17, 18, 19, 20, 21, 22, 23, 24, 25, 26, 27, 28, 29] [23, 33, 41, 42, 43] σ (sI τ13 21 q2_109 v17) := fr.w hF_τ13 (by decide)
                    refine lv_aload_n hx hb (dkP dF_42 DX12_ways (i := 74) rfl rfl) rfl (lv_at hl 1 rfl) ?_
                    refine z_gr C0 hw 0 35 22 rfl fl_X12_93 (dk2 dF_180 DX12_ways (i := 75) rfl rfl rfl) ?_
                    refine lv_iload_n hx hb (dkP dF_28 DX12_ways (i := 76) rfl rfl) rfl (lv_at hl 0 rfl) ?_
                    refine lv_aload_n hx hb (dkP dF_42 DX12_ways (i := 77) rfl rfl) rfl (lv_at hl 1 rfl) ?_
                    refine z_gr C0 hw 0 29 17 rfl fl_X12_78 (dk2 dF_180 DX12_ways (i := 78) rfl rfl rfl) ?_
                    refine lv_iload_n hx hb (dkP dF_28 DX12_ways (i := 79) rfl rfl) rfl (lv_at hl 0 rfl) ?_
                    refine z_ialdN (n := 201) C0 hw 17 q2_109 rfl (by omega) (by decide) (dkP dF_46 DX12_ways (i := 80) rfl rfl) ?_
                    obtain ⟨n19, hn19, en19⟩ := rngN (x := (sI τ13 21 q2_109 v17).1 17 q2_109) (h := 100) (show 0 ≤ _ ∧ _ ≤ 100 from hT18 17 _)
                    refine z_top (y := nI n19) en19 ?_
                    refine z_iastN (n := 200) C0 hw 22 q2_109 rfl (by omega) (by decide) (dkP dF_79 DX12_ways (i := 81) rfl rfl) (fun H locs hw => ?_)
                    have hT20 : TM (sI (sI τ13 21 q2_109 v17) 22 q2_109 (nI n19)) := TM.w hT18 (show 0 ≤ _ ∧ _ ≤ 100 from by (try simp only [lg_cmp_lt, lg_cmp_le, lg_cmp_gt, lg_cmp_ge, lg_cmp_eq] at hc1); (try simp (disch := omega) only [ta_lt, ta_le, ta_eq, tb_lt, tb_le, tb_eq, tw, tnI, tsub1, tsv, tn32 1 (by decide), tnj 1 (by decide), tl32 0 (by decide), tl64 0 (by decide), tl32 1 (by decide), tl64 1 (by decide), tl32 8 (by decide), tl64 8 (by decide)] at hc1); (try simp only [lg_cmp_lt, lg_cmp_le, lg_cmp_gt, lg_cmp_ge, lg_cmp_eq] at hc2); (try simp (disch := omega) only [ta_lt, ta_le, ta_eq, tb_lt, tb_le, tb_eq, tw, tnI, tsub1, tsv, tn32 1 (by decide), tnj 1 (by decide), tl32 0 (by decide), tl64 0 (by decide), tl32 1 (by decide), tl64 1 (by decide), tl32 8 (by decide), tl64 8 (by decide)] at hc2); (try simp only [lg_cmp_lt, lg_cmp_le, lg_cmp_gt, lg_cmp_ge, lg_cmp_eq] at f3_0); (try simp (disch := omega) only [ta_lt, ta_le, ta_eq, tb_lt, tb_le, tb_eq, tw, tnI, tsub1, tsv, tn32 1 (by decide), tnj 1 (by decide), tl32 0 (by decide), tl64 0 (by decide), tl32 1 (by decide), tl64 1 (by decide), tl32 8 (by decide), tl64 8 (by decide)] at f3_0); (try simp only [lg_cmp_lt, lg_cmp_le, lg_cmp_gt, lg_cmp_ge, lg_cmp_eq] at hc3); (try simp (disch := omega) only [ta_lt, ta_le, ta_eq, tb_lt, tb_le, tb_eq, tw, tnI, tsub1, tsv, tn32 1 (by decide), tnj 1 (by decide), tl32 0 (by decide), tl64 0 (by decide), tl32 1 (by decide), tl64 1 (by decide), tl32 8 (by decide), tl64 8 (by decide)] at hc3); (try simp only [lg_cmp_lt, lg_cmp_le, lg_cmp_gt, lg_cmp_ge, lg_cmp_eq] at c9); (try simp (disch := omega) only [ta_lt, ta_le, ta_eq, tb_lt, tb_le, tb_eq, tw, tnI, tsub1, tsv, tn32 1 (by decide), tnj 1 (by decide), tl32 0 (by decide), tl64 0 (by decide), tl32 1 (by decide), tl64 1 (by decide), tl32 8 (by decide), tl64 8 (by decide)] at c9); (try simp only [lg_cmp_lt, lg_cmp_le, lg_cmp_gt, lg_cmp_ge, lg_cmp_eq] at c16); (try simp (disch := omega) only [ta_lt, ta_le, ta_eq, tb_lt, tb_le, tb_eq, tw, tnI, tsub1, tsv, tn32 1 (by decide), tnj 1 (by decide), tl32 0 (by decide), tl64 0 (by decide), tl32 1 (by decide), tl64 1 (by decide), tl32 8 (by decide), tl64 8 (by decide)] at c16); (try simp (disch := omega) only [ta_lt, ta_le, ta_eq, tb_lt, tb_le, tb_eq, tw, tnI, tsub1, tsv, tn32 1 (by decide), tnj 1 (by decide), tl32 0 (by decide), tl64 0 (by decide), tl32 1 (by decide), tl64 1 (by decide), tl32 8 (by decide), tl64 8 (by decide)]); omega)
                    have hF20 : fr [11, 12, 13, 16, 17, 18, 19, 20, 21, 22, 23, 24, 25, 26, 27, 28, 29] [23, 33, 41, 42, 43] σ (sI (sI τ13 21 q2_109 v17) 22 q2_109 (nI n19)) := fr.w hF18 (by decide)
                    refine lv_aload_n hx hb (dkP dF_42 DX12_ways (i := 82) rfl rfl) rfl (lv_at hl 1 rfl) ?_
                    refine z_gr C0 hw 0 37 24 rfl fl_X12_99 (dk2 dF_180 DX12_ways (i := 83) rfl rfl rfl) ?_
                    refine lv_iload_n hx hb (dkP dF_28 DX12_ways (i := 84) rfl rfl) rfl (lv_at hl 0 rfl) ?_
                    refine lv_aload_n hx hb (dkP dF_42 DX12_ways (i := 85) rfl rfl) rfl (lv_at hl 1 rfl) ?_
                    refine z_gr C0 hw 0 31 19 rfl fl_X12_84 (dk2 dF_180 DX12_ways (i := 86) rfl rfl rfl) ?_
                    refine lv_iload_n hx hb (dkP dF_28 DX12_ways (i := 87) rfl rfl) rfl (lv_at hl 0 rfl) ?_
                    refine z_ialdN (n := 201) C0 hw 19 q2_109 rfl (by omega) (by decide) (dkP dF_46 DX12_ways (i := 88) rfl rfl) ?_
                    obtain ⟨v21, ev21⟩ : ∃ y : Int32, (sI (sI τ13 21 q2_109 v17) 22 q2_109 (nI n19)).1 19 q2_109 = y := ⟨_, rfl⟩
                    refine z_top (y := v21) ev21 ?_
                    refine z_iastN (n := 200) C0 hw 24 q2_109 rfl (by omega) (by decide) (dkP dF_79 DX12_ways (i := 89) rfl rfl) (fun H locs hw => ?_)
                    have hT22 : TM (sI (sI (sI τ13 21 q2_109 v17) 22 q2_109 (nI n19)) 24 q2_109 v21) := TM.w hT20 (show True from trivial)
                    have hF22 : fr [11, 12, 13, 16, 17, 18, 19, 20, 21, 22, 23, 24, 25, 26, 27, 28, 29] [23, 33, 41, 42, 43] σ (sI (sI (sI τ13 21 q2_109 v17) 22 q2_109 (nI n19)) 24 q2_109 v21) := fr.w hF20 (by decide)
                    refine lv_aload_n hx hb (dkP dF_42 DX12_ways (i := 90) rfl rfl) rfl (lv_at hl 1 rfl) ?_
                    refine z_gr C0 hw 0 38 25 rfl fl_X12_102 (dk2 dF_180 DX12_ways (i := 91) rfl rfl rfl) ?_
                    refine lv_iload_n hx hb (dkP dF_28 DX12_ways (i := 92) rfl rfl) rfl (lv_at hl 0 rfl) ?_
                    refine lv_aload_n hx hb (dkP dF_42 DX12_ways (i := 93) rfl rfl) rfl (lv_at hl 1 rfl) ?_
                    refine z_gr C0 hw 0 32 20 rfl fl_X12_87 (dk2 dF_180 DX12_ways (i := 94) rfl rfl rfl) ?_
                    refine lv_iload_n hx hb (dkP dF_28 DX12_ways (i := 95) rfl rfl) rfl (lv_at hl 0 rfl) ?_
                    refine z_ialdN (n := 201) C0 hw 20 q2_109 rfl (by omega) (by decide) (dkP dF_46 DX12_ways (i := 96) rfl rfl) ?_
                    obtain ⟨v23, ev23⟩ : ∃ y : Int32, (sI (sI (sI τ13 21 q2_109 v17) 22 q2_109 (nI n19)) 24 q2_109 v21).1 20 q2_109 = y := ⟨_, rfl⟩
                    refine z_top (y := v23) ev23 ?_
                    refine z_iastN (n := 200) C0 hw 25 q2_109 rfl (by omega) (by decide) (dkP dF_79 DX12_ways (i := 97) rfl rfl) (fun H locs hw => ?_)
                    have hT24 : TM (sI (sI (sI (sI τ13 21 q2_109 v17) 22 q2_109 (nI n19)) 24 q2_109 v21) 25 q2_109 v23) := TM.w hT22 (show True from trivial)
                    have hF24 : fr [11, 12, 13, 16, 17, 18, 19, 20, 21, 22, 23, 24, 25, 26, 27, 28, 29] [23, 33, 41, 42, 43] σ (sI (sI (sI (sI τ13 21 q2_109 v17) 22 q2_109 (nI n19)) 24 q2_109 v21) 25 q2_109 v23) := fr.w hF22 (by decide)
                    refine lv_iconst (v := 0) hx hb (dkP dF_3 DX12_ways (i := 98) rfl rfl) (by decide) ?_
                    refine lv_istore_n (lv' := [(3, .int 0), (2, .int (nI q2_109)), (0, .ref (ad 0)), (1, .int (nI k_program))]) hx hb (dkP dF_62 DX12_ways (i := 99) rfl rfl) rfl hl (by decide) rfl (fun ls hl => ?_)
                    have lp26 : ∀ (n : Nat) (q3_167 : Nat) (τ25 : Sg) (H : Heap) (locs : List Loc) (ls : Array Slot), 2147483647 - q3_167 < n → (q3_167 ≤ 2147483647) → (TM τ25) → (fr [11, 12, 13, 16, 17, 18, 19, 20, 21, 22, 23, 24, 25, 26, 27, 28, 29] [23, 33, 41, 42, 43] σ τ25) → St G kc A s.heap shM ad τ25 H locs → lv_has ls 4 [(3, .int (nI q3_167)), (2, .int (nI q2_109)), (0, .ref (ad 0)), (1, .int (nI k_program))] → W pr l e { frames := 5, cells := 0, slots := 0, locals := 114 } s m ([.ref (ad 0), .int (nI k_program)] : List Value).toArray below meth c H locs 0 0 (MQ below (va_Qi (fun r σ1 => TM σ1 ∧ fr [11, 12, 13, 16, 17, 18, 19, 20, 21, 22, 23, 24, 25, 26, 27, 28, 29] [23, 33, 41, 42, 43] σ σ1) (PoC G kc shM ad A) A) ([.ref (ad 0), .int (nI k_program)] : List Value).toArray s 0 0 A) (F0 m 167 ls []) := by
                      intro n
                      induction n with
                      | zero => intro q3_167 τ25 H locs ls hmu; exact absurd hmu (Nat.not_lt_zero _)
                      | succ n ih26 =>
                        intro q3_167 τ25 H locs ls hmu hq3_167 hT_τ25 hF_τ25 hw hl
                        refine lv_iload_n hx hb (dkP dF_29 DX12_ways (i := 100) rfl rfl) rfl (lv_at hl 0 rfl) ?_
                        refine lv_aload_n hx hb (dkP dF_42 DX12_ways (i := 101) rfl rfl) rfl (lv_at hl 2 rfl) ?_
                        refine z_gr C0 hw 0 29 17 rfl fl_X12_78 (dk2 dF_180 DX12_ways (i := 102) rfl rfl rfl) ?_
                        refine lv_iload_n hx hb (dkP dF_28 DX12_ways (i := 103) rfl rfl) rfl (lv_at hl 1 rfl) ?_
                        refine z_ialdN (n := 201) C0 hw 17 q2_109 rfl (by omega) (by decide) (dkP dF_46 DX12_ways (i := 104) rfl rfl) ?_
                        obtain ⟨n27, hn27, en27⟩ := rngN (x := τ25.1 17 q2_109) (h := 100) (show 0 ≤ _ ∧ _ ≤ 100 from hT_τ25 17 _)
                        refine z_top (y := nI n27) en27 ?_
                        refine lv_icmp_ge (tgt := 238) hx hb (dkS dF_162 DX12_ways (i := 105) rfl rfl rfl) (by decide) (fun c28 => ?_) (fun c28 => ?_)
                        · simp (disch := omega) only [ta_lt, ta_le, ta_eq, tnI] at c28
                          refine lv_aload_n hx hb (dkP dF_42 DX12_ways (i := 146) rfl rfl) rfl (lv_at hl 2 rfl) ?_
                          refine lv_iload_n hx hb (dkP dF_27 DX12_ways (i := 147) rfl rfl) rfl (lv_at hl 3 rfl) ?_
                          refine lv_iload_n hx hb (dkP dF_28 DX12_ways (i := 148) rfl rfl) rfl (lv_at hl 1 rfl) ?_
                          refine zk_V hw (zr_V (As := [.int (nI k_program), .int (nI q2_109)]) (rest := []) C0 (c_X12_makesWay l G kc ad τ25 k_program q2_109 (by first | omega | assumption | decide | rfl) (by first | omega | assumption | decide | rfl) hT_τ25 _) cv_X12_makesWay lk_X12_408 (zp_V C0 hRo hw 0 rfl rfl rfl) rfl hl.1 rfl ⟨by decide, by decide⟩ (Nat.le_of_ble_eq_true rfl) (dk2 dF_182 DX12_ways (i := 149) rfl rfl rfl) ⟨Nat.le_refl _, Nat.le_refl _⟩) (fun s29 H locs hp hw => ?_)
                          obtain ⟨hT29, hG29⟩ := hp
                          have hF29 : fr [11, 12, 13, 16, 17, 18, 19, 20, 21, 22, 23, 24, 25, 26, 27, 28, 29] [23, 33, 41, 42, 43] σ s29 := fr.t hF_τ25 hG29 (by decide) (by decide)
                          refine lv_aload_n hx hb (dkP dF_42 DX12_ways (i := 150) rfl rfl) rfl (lv_at hl 2 rfl) ?_
                          refine z_gr C0 hw 0 44 28 rfl fl_X12_111 (dk2 dF_180 DX12_ways (i := 151) rfl rfl rfl) ?_
                          refine lv_iconst (v := 0) hx hb (dkP dF_3 DX12_ways (i := 152) rfl rfl) (by decide) ?_
                          refine lv_aload_n hx hb (dkP dF_42 DX12_ways (i := 153) rfl rfl) rfl (lv_at hl 2 rfl) ?_
                          refine z_gr C0 hw 0 39 26 rfl fl_X12_105 (dk2 dF_180 DX12_ways (i := 154) rfl rfl rfl) ?_
                          refine lv_bipush (v := 72) hx hb (dks dF_16 DX12_ways (i := 155) rfl rfl rfl) (by decide) ?_
                          refine lv_iload_n hx hb (dkP dF_28 DX12_ways (i := 156) rfl rfl) rfl (lv_at hl 1 rfl) ?_
                          refine lv_imul hx hb (dkP dF_104 DX12_ways (i := 157) rfl rfl) ?_
                          refine z_top (y := nI (72 * q2_109)) (by simp only [fa_lit, nI_add, pk_mul]) ?_
                          refine lv_bipush (v := 72) hx hb (dks dF_16 DX12_ways (i := 158) rfl rfl rfl) (by decide) ?_
                          refine zk_V hw (zr_S (As := [.ref (ad 28), .int 0, .ref (ad 26), .int (nI (72 * q2_109)), .int 72]) (rest := []) C0 (c_X12_lays_28_26 l G kc ad s29 0 (72 * q2_109) 72 (by omega) (by omega) (fun i hi v h => trivial) hT29 _) cs_X12_lays lk_X12_255 (zp_S C0 hRo hw) rfl hl.1 rfl ⟨by decide, by decide⟩ (Nat.le_of_ble_eq_true rfl) (dk2 dF_184 DX12_ways (i := 159) rfl rfl rfl) ⟨Nat.le_refl _, Nat.le_refl _⟩) (fun s30 H locs hp hw => ?_)
                          obtain ⟨f30_0, hT30, hG30⟩ := hp
                          have hF30 : fr [11, 12, 13, 16, 17, 18, 19, 20, 21, 22, 23, 24, 25, 26, 27, 28, 29] [23, 33, 41, 42, 43] σ s30 := fr.t hF29 hG30 (by decide) (by decide)
                          refine lv_iinc (v := nI (q2_109 + 1)) (lv' := [(2, .int (nI (q2_109 + 1))), (3, .int (nI q3_167)), (0, .ref (ad 0)), (1, .int (nI k_program))]) hx hb (dkI DX12_ways (i := 160) rfl rfl rfl rfl) hl (k := 1) rfl (nI_1 _) (by decide) rfl (fun ls hl => ?_)
                          refine lv_goto (tgt := 109) hx hb (dkS dF_167 DX12_ways (i := 161) rfl rfl rfl) (by decide) ?_
                          exact ih14 (q2_109 + 1) s30 _ _ _ (by omega) (by (try simp only [lg_cmp_lt, lg_cmp_le, lg_cmp_gt, lg_cmp_ge, lg_cmp_eq] at hc1); (try simp (disch := omega) only [ta_lt, ta_le, ta_eq, tb_lt, tb_le, tb_eq, tw, tnI, tsub1, tsv, tn32 1 (by decide), tnj 1 (by decide), tl32 0 (by decide), tl64 0 (by decide), tl32 1 (by decide), tl64 1 (by decide), tl32 8 (by decide), tl64 8 (by decide), tl32 72 (by decide), tl64 72 (by decide)] at hc1); (try simp only [lg_cmp_lt, lg_cmp_le, lg_cmp_gt, lg_cmp_ge, lg_cmp_eq] at hc2); (try simp (disch := omega) only [ta_lt, ta_le, ta_eq, tb_lt, tb_le, tb_eq, tw, tnI, tsub1, tsv, tn32 1 (by decide), tnj 1 (by decide), tl32 0 (by decide), tl64 0 (by decide), tl32 1 (by decide), tl64 1 (by decide), tl32 8 (by decide), tl64 8 (by decide), tl32 72 (by decide), tl64 72 (by decide)] at hc2); (try simp only [lg_cmp_lt, lg_cmp_le, lg_cmp_gt, lg_cmp_ge, lg_cmp_eq] at f3_0); (try simp (disch := omega) only [ta_lt, ta_le, ta_eq, tb_lt, tb_le, tb_eq, tw, tnI, tsub1, tsv, tn32 1 (by decide), tnj 1 (by decide), tl32 0 (by decide), tl64 0 (by decide), tl32 1 (by decide), tl64 1 (by decide), tl32 8 (by decide), tl64 8 (by decide), tl32 72 (by decide), tl64 72 (by decide)] at f3_0); (try simp only [lg_cmp_lt, lg_cmp_le, lg_cmp_gt, lg_cmp_ge, lg_cmp_eq] at hc3); (try simp (disch := omega) only [ta_lt, ta_le, ta_eq, tb_lt, tb_le, tb_eq, tw, tnI, tsub1, tsv, tn32 1 (by decide), tnj 1 (by decide), tl32 0 (by decide), tl64 0 (by decide), tl32 1 (by decide), tl64 1 (by decide), tl32 8 (by decide), tl64 8 (by decide), tl32 72 (by decide), tl64 72 (by decide)] at hc3); (try simp only [lg_cmp_lt, lg_cmp_le, lg_cmp_gt, lg_cmp_ge, lg_cmp_eq] at c9); (try simp (disch := omega) only [ta_lt, ta_le, ta_eq, tb_lt, tb_le, tb_eq, tw, tnI, tsub1, tsv, tn32 1 (by decide), tnj 1 (by decide), tl32 0 (by decide), tl64 0 (by decide), tl32 1 (by decide), tl64 1 (by decide), tl32 8 (by decide), tl64 8 (by decide), tl32 72 (by decide), tl64 72 (by decide)] at c9); (try simp only [lg_cmp_lt, lg_cmp_le, lg_cmp_gt, lg_cmp_ge, lg_cmp_eq] at c16); (try simp (disch := omega) only [ta_lt, ta_le, ta_eq, tb_lt, tb_le, tb_eq, tw, tnI, tsub1, tsv, tn32 1 (by decide), tnj 1 (by decide), tl32 0 (by decide), tl64 0 (by decide), tl32 1 (by decide), tl64 1 (by decide), tl32 8 (by decide), tl64 8 (by decide), tl32 72 (by decide), tl64 72 (by decide)] at c16); (try simp only [lg_cmp_lt, lg_cmp_le, lg_cmp_gt, lg_cmp_ge, lg_cmp_eq] at c28); (try simp (disch := omega) only [ta_lt, ta_le, ta_eq, tb_lt, tb_le, tb_eq, tw, tnI, tsub1, tsv, tn32 1 (by decide), tnj 1 (by decide), tl32 0 (by decide), tl64 0 (by decide), tl32 1 (by decide), tl64 1 (by decide), tl32 8 (by decide), tl64 8 (by decide), tl32 72 (by decide), tl64 72 (by decide)] at c28); (try simp only [lg_cmp_lt, lg_cmp_le, lg_cmp_gt, lg_cmp_ge, lg_cmp_eq] at f30_0); (try simp (disch := omega) only [ta_lt, ta_le, ta_eq, tb_lt, tb_le, tb_eq, tw, tnI, tsub1, tsv, tn32 1 (by decide), tnj 1 (by decide), tl32 0 (by decide), tl64 0 (by decide), tl32 1 (by decide), tl64 1 (by decide), tl32 8 (by decide), tl64 8 (by decide), tl32 72 (by decide), tl64 72 (by decide)] at f30_0); (try simp (disch := omega) only [ta_lt, ta_le, ta_eq, tb_lt, tb_le, tb_eq, tw, tnI, tsub1, tsv, tn32 1 (by decide), tnj 1 (by decide), tl32 0 (by decide), tl64 0 (by decide), tl32 1 (by decide), tl64 1 (by decide), tl32 8 (by decide), tl64 8 (by decide), tl32 72 (by decide), tl64 72 (by decide)]); omega) hT30 hF30 hw (lv_sub hl [0, 2, 3] rfl)
                        · simp (disch := omega) only [ta_lt, ta_le, ta_eq, tnI] at c28
                          refine lv_aload_n hx hb (dkP dF_42 DX12_ways (i := 106) rfl rfl) rfl (lv_at hl 2 rfl) ?_
                          refine z_gr C0 hw 0 36 23 rfl fl_X12_96 (dk2 dF_180 DX12_ways (i := 107) rfl rfl rfl) ?_
                          refine lv_bipush (v := 100) hx hb (dks dF_16 DX12_ways (i := 108) rfl rfl rfl) (by decide) ?_
                          refine lv_iload_n hx hb (dkP dF_28 DX12_ways (i := 109) rfl rfl) rfl (lv_at hl 1 rfl) ?_
                          refine lv_imul hx hb (dkP dF_104 DX12_ways (i := 110) rfl rfl) ?_
                          refine z_top (y := nI (100 * q2_109)) (by simp only [fa_lit, nI_add, pk_mul]) ?_
                          refine lv_iload_n hx hb (dkP dF_29 DX12_ways (i := 111) rfl rfl) rfl (lv_at hl 0 rfl) ?_
                          refine lv_iadd hx hb (dkP dF_96 DX12_ways (i := 112) rfl rfl) ?_
                          refine z_top (y := nI ((100 * q2_109) + q3_167)) (by simp only [fa_lit, nI_add, pk_mul]) ?_
                          refine lv_aload_n hx hb (dkP dF_42 DX12_ways (i := 113) rfl rfl) rfl (lv_at hl 2 rfl) ?_
                          refine z_gr C0 hw 0 1 1 rfl fl_X12_20 (dk2 dF_180 DX12_ways (i := 114) rfl rfl rfl) ?_
                          refine lv_iload_n hx hb (dkP dF_27 DX12_ways (i := 115) rfl rfl) rfl (lv_at hl 3 rfl) ?_
                          refine lv_aload_n hx hb (dkP dF_42 DX12_ways (i := 116) rfl rfl) rfl (lv_at hl 2 rfl) ?_
                          refine z_gr C0 hw 0 30 18 rfl fl_X12_81 (dk2 dF_180 DX12_ways (i := 117) rfl rfl rfl) ?_
                          refine lv_bipush (v := 100) hx hb (dks dF_16 DX12_ways (i := 118) rfl rfl rfl) (by decide) ?_
                          refine lv_iload_n hx hb (dkP dF_28 DX12_ways (i := 119) rfl rfl) rfl (lv_at hl 1 rfl) ?_
                          refine lv_imul hx hb (dkP dF_104 DX12_ways (i := 120) rfl rfl) ?_
                          refine z_top (y := nI (100 * q2_109)) (by simp only [fa_lit, nI_add, pk_mul]) ?_
                          refine lv_iload_n hx hb (dkP dF_29 DX12_ways (i := 121) rfl rfl) rfl (lv_at hl 0 rfl) ?_
                          refine lv_iadd hx hb (dkP dF_96 DX12_ways (i := 122) rfl rfl) ?_
                          refine z_top (y := nI ((100 * q2_109) + q3_167)) (by simp only [fa_lit, nI_add, pk_mul]) ?_
                          refine z_ialdN (n := 20100) C0 hw 18 ((100 * q2_109) + q3_167) rfl (by omega) (by decide) (dkP dF_46 DX12_ways (i := 123) rfl rfl) ?_
                          obtain ⟨n31, hn31, en31⟩ := rngN (x := τ25.1 18 ((100 * q2_109) + q3_167)) (h := 23) (show 0 ≤ _ ∧ _ ≤ 23 from hT_τ25 18 _)
                          refine z_top (y := nI n31) en31 ?_
                          refine zn_I hw (zr_S (As := [.int (nI k_program), .int (nI n31)]) (rest := [.ref (ad 1), .int (nI ((100 * q2_109) + q3_167)), .ref (ad 23)]) C0 (c_X12_lineAt l G kc k_program n31  _) cs_X12_lineAt lk_X12_284 (zp_P C0 hRo hw a00 s00) rfl hl.1 rfl ⟨by decide, by decide⟩ (Nat.le_of_ble_eq_true rfl) (dk2 dF_184 DX12_ways (i := 124) rfl rfl rfl) ⟨Nat.le_refl _, Nat.le_refl _⟩) (fun r32 s32 H locs hp hw => ?_)
                          subst hp
                          refine z_ialdN (n := 414128) C0 hw 1 (168 + 16 * (24 * k_program + n31)) rfl (by omega) (by decide) (dkP dF_46 DX12_ways (i := 125) rfl rfl) ?_
                          obtain ⟨v33, ev33⟩ : ∃ y : Int32, τ25.1 1 (168 + 16 * (24 * k_program + n31)) = y := ⟨_, rfl⟩
                          refine z_top (y := v33) ev33 ?_
                          refine z_iastN (n := 20000) C0 hw 23 ((100 * q2_109) + q3_167) rfl (by omega) (by decide) (dkP dF_79 DX12_ways (i := 126) rfl rfl) (fun H locs hw => ?_)
                          have hT34 : TM (sI τ25 23 ((100 * q2_109) + q3_167) v33) := TM.w hT_τ25 (show True from trivial)
                          have hF34 : fr [11, 12, 13, 16, 17, 18, 19, 20, 21, 22, 23, 24, 25, 26, 27, 28, 29] [23, 33, 41, 42, 43] σ (sI τ25 23 ((100 * q2_109) + q3_167) v33) := fr.w hF_τ25 (by decide)
                          refine lv_aload_n hx hb (dkP dF_42 DX12_ways (i := 127) rfl rfl) rfl (lv_at hl 2 rfl) ?_
                          refine lv_dup hx hb (dkP dF_89 DX12_ways (i := 128) rfl rfl) rfl ?_
                          refine z_gi C0 hw 0 43 rfl fl_X12_405 (dk2 dF_180 DX12_ways (i := 129) rfl rfl rfl) ?_
                          obtain ⟨v35, ev35⟩ : ∃ y : Int32, (sI τ25 23 ((100 * q2_109) + q3_167) v33).1 0 43 = y := ⟨_, rfl⟩
                          refine z_top (y := v35) ev35 ?_
                          refine lv_iconst (v := 1) hx hb (dkP dF_4 DX12_ways (i := 130) rfl rfl) (by decide) ?_
                          refine lv_aload_n hx hb (dkP dF_42 DX12_ways (i := 131) rfl rfl) rfl (lv_at hl 2 rfl) ?_
                          refine z_gr C0 hw 0 30 18 rfl fl_X12_81 (dk2 dF_180 DX12_ways (i := 132) rfl rfl rfl) ?_
                          refine lv_bipush (v := 100) hx hb (dks dF_16 DX12_ways (i := 133) rfl rfl rfl) (by decide) ?_
                          refine lv_iload_n hx hb (dkP dF_28 DX12_ways (i := 134) rfl rfl) rfl (lv_at hl 1 rfl) ?_
                          refine lv_imul hx hb (dkP dF_104 DX12_ways (i := 135) rfl rfl) ?_
                          refine z_top (y := nI (100 * q2_109)) (by simp only [fa_lit, nI_add, pk_mul]) ?_
                          refine lv_iload_n hx hb (dkP dF_29 DX12_ways (i := 136) rfl rfl) rfl (lv_at hl 0 rfl) ?_
                          refine lv_iadd hx hb (dkP dF_96 DX12_ways (i := 137) rfl rfl) ?_
                          refine z_top (y := nI ((100 * q2_109) + q3_167)) (by simp only [fa_lit, nI_add, pk_mul]) ?_
                          refine z_ialdN (n := 20100) C0 hw 18 ((100 * q2_109) + q3_167) rfl (by omega) (by decide) (dkP dF_46 DX12_ways (i := 138) rfl rfl) ?_
                          refine z_top (y := (nI n31)) ((rd_n (by omega)).trans en31) ?_
                          refine lv_ishl hx hb (dkP dF_120 DX12_ways (i := 139) rfl rfl) ?_
                          refine lv_iconst (v := (-1)) hx hb (dkP dF_2 DX12_ways (i := 140) rfl rfl) (by decide) ?_
                          refine lv_ixor hx hb (dkP dF_130 DX12_ways (i := 141) rfl rfl) ?_
                          refine lv_iand hx hb (dkP dF_126 DX12_ways (i := 142) rfl rfl) ?_
                          refine z_pi C0 hw 0 43 rfl fp_X12_405 (dk2 dF_181 DX12_ways (i := 143) rfl rfl rfl) (fun H locs hw => ?_)
                          have hT36 : TM (sI (sI τ25 23 ((100 * q2_109) + q3_167) v33) 0 43 (v35 &&& ((1 <<< (nI n31 &&& 31)) ^^^ (-1)))) := TM.w hT34 (show True from trivial)
                          have hF36 : fr [11, 12, 13, 16, 17, 18, 19, 20, 21, 22, 23, 24, 25, 26, 27, 28, 29] [23, 33, 41, 42, 43] σ (sI (sI τ25 23 ((100 * q2_109) + q3_167) v33) 0 43 (v35 &&& ((1 <<< (nI n31 &&& 31)) ^^^ (-1)))) := fr.w hF34 (by decide)
                          refine lv_iinc (v := nI (q3_167 + 1)) (lv' := [(3, .int (nI (q3_167 + 1))), (2, .int (nI q2_109)), (0, .ref (ad 0)), (1, .int (nI k_program))]) hx hb (dkI DX12_ways (i := 144) rfl rfl rfl rfl) hl (k := 0) rfl (nI_1 _) (by decide) rfl (fun ls hl => ?_)
                          refine lv_goto (tgt := 167) hx hb (dkS dF_167 DX12_ways (i := 145) rfl rfl rfl) (by decide) ?_
                          exact ih26 (q3_167 + 1) (sI (sI τ25 23 ((100 * q2_109) + q3_167) v33) 0 43 (v35 &&& ((1 <<< (nI n31 &&& 31)) ^^^ (-1)))) _ _ _ (by omega) (by (try simp only [lg_cmp_lt, lg_cmp_le, lg_cmp_gt, lg_cmp_ge, lg_cmp_eq] at hc1); (try simp (disch := omega) only [ta_lt, ta_le, ta_eq, tb_lt, tb_le, tb_eq, tw, tnI, tsub1, tsv, tn32 1 (by decide), tnj 1 (by decide), tl32 0 (by decide), tl64 0 (by decide), tl32 1 (by decide), tl64 1 (by decide), tl32 8 (by decide), tl64 8 (by decide), tl32 72 (by decide), tl64 72 (by decide), tl32 100 (by decide), tl64 100 (by decide)] at hc1); (try simp only [lg_cmp_lt, lg_cmp_le, lg_cmp_gt, lg_cmp_ge, lg_cmp_eq] at hc2); (try simp (disch := omega) only [ta_lt, ta_le, ta_eq, tb_lt, tb_le, tb_eq, tw, tnI, tsub1, tsv, tn32 1 (by decide), tnj 1 (by decide), tl32 0 (by decide), tl64 0 (by decide), tl32 1 (by decide), tl64 1 (by decide), tl32 8 (by decide), tl64 8 (by decide), tl32 72 (by decide), tl64 72 (by decide), tl32 100 (by decide), tl64 100 (by decide)] at hc2); (try simp only [lg_cmp_lt, lg_cmp_le, lg_cmp_gt, lg_cmp_ge, lg_cmp_eq] at f3_0); (try simp (disch := omega) only [ta_lt, ta_le, ta_eq, tb_lt, tb_le, tb_eq, tw, tnI, tsub1, tsv, tn32 1 (by decide), tnj 1 (by decide), tl32 0 (by decide), tl64 0 (by decide), tl32 1 (by decide), tl64 1 (by decide), tl32 8 (by decide), tl64 8 (by decide), tl32 72 (by decide), tl64 72 (by decide), tl32 100 (by decide), tl64 100 (by decide)] at f3_0); (try simp only [lg_cmp_lt, lg_cmp_le, lg_cmp_gt, lg_cmp_ge, lg_cmp_eq] at hc3); (try simp (disch := omega) only [ta_lt, ta_le, ta_eq, tb_lt, tb_le, tb_eq, tw, tnI, tsub1, tsv, tn32 1 (by decide), tnj 1 (by decide), tl32 0 (by decide), tl64 0 (by decide), tl32 1 (by decide), tl64 1 (by decide), tl32 8 (by decide), tl64 8 (by decide), tl32 72 (by decide), tl64 72 (by decide), tl32 100 (by decide), tl64 100 (by decide)] at hc3); (try simp only [lg_cmp_lt, lg_cmp_le, lg_cmp_gt, lg_cmp_ge, lg_cmp_eq] at c9); (try simp (disch := omega) only [ta_lt, ta_le, ta_eq, tb_lt, tb_le, tb_eq, tw, tnI, tsub1, tsv, tn32 1 (by decide), tnj 1 (by decide), tl32 0 (by decide), tl64 0 (by decide), tl32 1 (by decide), tl64 1 (by decide), tl32 8 (by decide), tl64 8 (by decide), tl32 72 (by decide), tl64 72 (by decide), tl32 100 (by decide), tl64 100 (by decide)] at c9); (try simp only [lg_cmp_lt, lg_cmp_le, lg_cmp_gt, lg_cmp_ge, lg_cmp_eq] at c16); (try simp (disch := omega) only [ta_lt, ta_le, ta_eq, tb_lt, tb_le, tb_eq, tw, tnI, tsub1, tsv, tn32 1 (by decide), tnj 1 (by decide), tl32 0 (by decide), tl64 0 (by decide), tl32 1 (by decide), tl64 1 (by decide), tl32 8 (by decide), tl64 8 (by decide), tl32 72 (by decide), tl64 72 (by decide), tl32 100 (by decide), tl64 100 (by decide)] at c16); (try simp only [lg_cmp_lt, lg_cmp_le, lg_cmp_gt, lg_cmp_ge, lg_cmp_eq] at c28); (try simp (disch := omega) only [ta_lt, ta_le, ta_eq, tb_lt, tb_le, tb_eq, tw, tnI, tsub1, tsv, tn32 1 (by decide), tnj 1 (by decide), tl32 0 (by decide), tl64 0 (by decide), tl32 1 (by decide), tl64 1 (by decide), tl32 8 (by decide), tl64 8 (by decide), tl32 72 (by decide), tl64 72 (by decide), tl32 100 (by decide), tl64 100 (by decide)] at c28); (try simp (disch := omega) only [ta_lt, ta_le, ta_eq, tb_lt, tb_le, tb_eq, tw, tnI, tsub1, tsv, tn32 1 (by decide), tnj 1 (by decide), tl32 0 (by decide), tl64 0 (by decide), tl32 1 (by decide), tl64 1 (by decide), tl32 8 (by decide), tl64 8 (by decide), tl32 72 (by decide), tl64 72 (by decide), tl32 100 (by decide), tl64 100 (by decide)]); omega) hT36 hF36 hw (lv_sub hl [0, 1, 2, 3] rfl)
                    exact lp26 _ 0 (sI (sI (sI (sI τ13 21 q2_109 v17) 22 q2_109 (nI n19)) 24 q2_109 v21) 25 q2_109 v23) _ _ _ (Nat.lt_succ_self _) (by (try simp only [lg_cmp_lt, lg_cmp_le, lg_cmp_gt, lg_cmp_ge, lg_cmp_eq] at hc1); (try simp (disch := omega) only [ta_lt, ta_le, ta_eq, tb_lt, tb_le, tb_eq, tw, tnI, tsub1, tsv, tn32 1 (by decide), tnj 1 (by decide), tl32 0 (by decide), tl64 0 (by decide), tl32 1 (by decide), tl64 1 (by decide), tl32 8 (by decide), tl64 8 (by decide), tl32 72 (by decide), tl64 72 (by decide), tl32 100 (by decide), tl64 100 (by decide)] at hc1); (try simp only [lg_cmp_lt, lg_cmp_le, lg_cmp_gt, lg_cmp_ge, lg_cmp_eq] at hc2); (try simp (disch := omega) only [ta_lt, ta_le, ta_eq, tb_lt, tb_le, tb_eq, tw, tnI, tsub1, tsv, tn32 1 (by decide), tnj 1 (by decide), tl32 0 (by decide), tl64 0 (by decide), tl32 1 (by decide), tl64 1 (by decide), tl32 8 (by decide), tl64 8 (by decide), tl32 72 (by decide), tl64 72 (by decide), tl32 100 (by decide), tl64 100 (by decide)] at hc2); (try simp only [lg_cmp_lt, lg_cmp_le, lg_cmp_gt, lg_cmp_ge, lg_cmp_eq] at f3_0); (try simp (disch := omega) only [ta_lt, ta_le, ta_eq, tb_lt, tb_le, tb_eq, tw, tnI, tsub1, tsv, tn32 1 (by decide), tnj 1 (by decide), tl32 0 (by decide), tl64 0 (by decide), tl32 1 (by decide), tl64 1 (by decide), tl32 8 (by decide), tl64 8 (by decide), tl32 72 (by decide), tl64 72 (by decide), tl32 100 (by decide), tl64 100 (by decide)] at f3_0); (try simp only [lg_cmp_lt, lg_cmp_le, lg_cmp_gt, lg_cmp_ge, lg_cmp_eq] at hc3); (try simp (disch := omega) only [ta_lt, ta_le, ta_eq, tb_lt, tb_le, tb_eq, tw, tnI, tsub1, tsv, tn32 1 (by decide), tnj 1 (by decide), tl32 0 (by decide), tl64 0 (by decide), tl32 1 (by decide), tl64 1 (by decide), tl32 8 (by decide), tl64 8 (by decide), tl32 72 (by decide), tl64 72 (by decide), tl32 100 (by decide), tl64 100 (by decide)] at hc3); (try simp only [lg_cmp_lt, lg_cmp_le, lg_cmp_gt, lg_cmp_ge, lg_cmp_eq] at c9); (try simp (disch := omega) only [ta_lt, ta_le, ta_eq, tb_lt, tb_le, tb_eq, tw, tnI, tsub1, tsv, tn32 1 (by decide), tnj 1 (by decide), tl32 0 (by decide), tl64 0 (by decide), tl32 1 (by decide), tl64 1 (by decide), tl32 8 (by decide), tl64 8 (by decide), tl32 72 (by decide), tl64 72 (by decide), tl32 100 (by decide), tl64 100 (by decide)] at c9); (try simp only [lg_cmp_lt, lg_cmp_le, lg_cmp_gt, lg_cmp_ge, lg_cmp_eq] at c16); (try simp (disch := omega) only [ta_lt, ta_le, ta_eq, tb_lt, tb_le, tb_eq, tw, tnI, tsub1, tsv, tn32 1 (by decide), tnj 1 (by decide), tl32 0 (by decide), tl64 0 (by decide), tl32 1 (by decide), tl64 1 (by decide), tl32 8 (by decide), tl64 8 (by decide), tl32 72 (by decide), tl64 72 (by decide), tl32 100 (by decide), tl64 100 (by decide)] at c16); (try simp (disch := omega) only [ta_lt, ta_le, ta_eq, tb_lt, tb_le, tb_eq, tw, tnI, tsub1, tsv, tn32 1 (by decide), tnj 1 (by decide), tl32 0 (by decide), tl64 0 (by decide), tl32 1 (by decide), tl64 1 (by decide), tl32 8 (by decide), tl64 8 (by decide), tl32 72 (by decide), tl64 72 (by decide), tl32 100 (by decide), tl64 100 (by decide)]); omega) hT24 hF24 hw (lv_sub hl [0, 1, 2, 3] rfl)
              exact lp14 _ 0 (sI τ7 0 43 ((1 <<< (v11 &&& 31)) - 1)) _ _ _ (Nat.lt_succ_self _) (by (try simp only [lg_cmp_lt, lg_cmp_le, lg_cmp_gt, lg_cmp_ge, lg_cmp_eq] at hc1); (try simp (disch := omega) only [ta_lt, ta_le, ta_eq, tb_lt, tb_le, tb_eq, tw, tnI, tsub1, tsv, tn32 1 (by decide), tnj 1 (by decide), tl32 0 (by decide), tl64 0 (by decide), tl32 1 (by decide), tl64 1 (by decide), tl32 8 (by decide), tl64 8 (by decide), tl32 72 (by decide), tl64 72 (by decide), tl32 100 (by decide), tl64 100 (by decide)] at hc1); (try simp only [lg_cmp_lt, lg_cmp_le, lg_cmp_gt, lg_cmp_ge, lg_cmp_eq] at hc2); (try simp (disch := omega) only [ta_lt, ta_le, ta_eq, tb_lt, tb_le, tb_eq, tw, tnI, tsub1, tsv, tn32 1 (by decide), tnj 1 (by decide), tl32 0 (by decide), tl64 0 (by decide), tl32 1 (by decide), tl64 1 (by decide), tl32 8 (by decide), tl64 8 (by decide), tl32 72 (by decide), tl64 72 (by decide), tl32 100 (by decide), tl64 100 (by decide)] at hc2); (try simp only [lg_cmp_lt, lg_cmp_le, lg_cmp_gt, lg_cmp_ge, lg_cmp_eq] at f3_0); (try simp (disch := omega) only [ta_lt, ta_le, ta_eq, tb_lt, tb_le, tb_eq, tw, tnI, tsub1, tsv, tn32 1 (by decide), tnj 1 (by decide), tl32 0 (by decide), tl64 0 (by decide), tl32 1 (by decide), tl64 1 (by decide), tl32 8 (by decide), tl64 8 (by decide), tl32 72 (by decide), tl64 72 (by decide), tl32 100 (by decide), tl64 100 (by decide)] at f3_0); (try simp only [lg_cmp_lt, lg_cmp_le, lg_cmp_gt, lg_cmp_ge, lg_cmp_eq] at hc3); (try simp (disch := omega) only [ta_lt, ta_le, ta_eq, tb_lt, tb_le, tb_eq, tw, tnI, tsub1, tsv, tn32 1 (by decide), tnj 1 (by decide), tl32 0 (by decide), tl64 0 (by decide), tl32 1 (by decide), tl64 1 (by decide), tl32 8 (by decide), tl64 8 (by decide), tl32 72 (by decide), tl64 72 (by decide), tl32 100 (by decide), tl64 100 (by decide)] at hc3); (try simp only [lg_cmp_lt, lg_cmp_le, lg_cmp_gt, lg_cmp_ge, lg_cmp_eq] at c9); (try simp (disch := omega) only [ta_lt, ta_le, ta_eq, tb_lt, tb_le, tb_eq, tw, tnI, tsub1, tsv, tn32 1 (by decide), tnj 1 (by decide), tl32 0 (by decide), tl64 0 (by decide), tl32 1 (by decide), tl64 1 (by decide), tl32 8 (by decide), tl64 8 (by decide), tl32 72 (by decide), tl64 72 (by decide), tl32 100 (by decide), tl64 100 (by decide)] at c9); (try simp (disch := omega) only [ta_lt, ta_le, ta_eq, tb_lt, tb_le, tb_eq, tw, tnI, tsub1, tsv, tn32 1 (by decide), tnj 1 (by decide), tl32 0 (by decide), tl64 0 (by decide), tl32 1 (by decide), tl64 1 (by decide), tl32 8 (by decide), tl64 8 (by decide), tl32 72 (by decide), tl64 72 (by decide), tl32 100 (by decide), tl64 100 (by decide)]); omega) hT12 hF12 hw (lv_sub hl [0, 1, 2] rfl)
            · simp (disch := omega) only [ta_lt, ta_le, ta_eq, tnI, tl32 8 (by decide)] at c9
              refine lv_aload_n hx hb (dkP dF_42 DX12_ways (i := 27) rfl rfl) rfl (lv_at hl 1 rfl) ?_
              refine lv_iload_n hx hb (dkP dF_27 DX12_ways (i := 28) rfl rfl) rfl (lv_at hl 2 rfl) ?_
              refine lv_iload_n hx hb (dkP dF_28 DX12_ways (i := 29) rfl rfl) rfl (lv_at hl 0 rfl) ?_
              refine zk_I hw (zr_V (As := [.int (nI k_program), .int (nI q2_44)]) (rest := []) C0 (c_X12_spanMany l G kc ad τ7 k_program q2_44 (by first | omega | assumption | decide | rfl) (by first | omega | assumption | decide | rfl) hT_τ7 _) cv_X12_spanMany lk_X12_329 (zp_V C0 hRo hw 0 rfl rfl rfl) rfl hl.1 rfl ⟨by decide, by decide⟩ (Nat.le_of_ble_eq_true rfl) (dk2 dF_182 DX12_ways (i := 30) rfl rfl rfl) ⟨Nat.le_refl _, Nat.le_refl _⟩) (fun r37 s37 H locs hp hw => ?_)
              obtain ⟨f37_0, hs37⟩ := hp
              (rw [hs37] at hw)
              obtain ⟨n37, hn37, rfl⟩ := rngN (h := 2147483647) f37_0
              refine lv_if_ne (tgt := 62) hx hb (dkS dF_154 DX12_ways (i := 31) rfl rfl rfl) (by decide) (fun c38 => ?_) (fun c38 => ?_)
              · simp (disch := omega) only [ta_lt, ta_le, ta_eq, tnI, tl32 0 (by decide)] at c38
                refine lv_aload_n hx hb (dkP dF_42 DX12_ways (i := 33) rfl rfl) rfl (lv_at hl 1 rfl) ?_
                refine z_gr C0 hw 0 40 27 rfl fl_X12_108 (dk2 dF_180 DX12_ways (i := 34) rfl rfl rfl) ?_
                refine lv_aload_n hx hb (dkP dF_42 DX12_ways (i := 35) rfl rfl) rfl (lv_at hl 1 rfl) ?_
                refine z_gi C0 hw 0 42 rfl fl_X12_402 (dk2 dF_180 DX12_ways (i := 36) rfl rfl rfl) ?_
                refine z_top (y := (nI a)) ha ?_
                refine lv_iload_n hx hb (dkP dF_28 DX12_ways (i := 37) rfl rfl) rfl (lv_at hl 0 rfl) ?_
                refine z_iastN (n := 8) C0 hw 27 a rfl (by omega) (by decide) (dkP dF_79 DX12_ways (i := 38) rfl rfl) (fun H locs hw => ?_)
                have hT39 : TM (sI τ7 27 a (nI q2_44)) := TM.w hT_τ7 (show 0 ≤ _ ∧ _ ≤ 7 from by (try simp only [lg_cmp_lt, lg_cmp_le, lg_cmp_gt, lg_cmp_ge, lg_cmp_eq] at hc1); (try simp (disch := omega) only [ta_lt, ta_le, ta_eq, tb_lt, tb_le, tb_eq, tw, tnI, tsub1, tsv, tn32 1 (by decide), tnj 1 (by decide), tl32 0 (by decide), tl64 0 (by decide), tl32 1 (by decide), tl64 1 (by decide), tl32 8 (by decide), tl64 8 (by decide), tl32 72 (by decide), tl64 72 (by decide), tl32 100 (by decide), tl64 100 (by decide)] at hc1); (try simp only [lg_cmp_lt, lg_cmp_le, lg_cmp_gt, lg_cmp_ge, lg_cmp_eq] at hc2); (try simp (disch := omega) only [ta_lt, ta_le, ta_eq, tb_lt, tb_le, tb_eq, tw, tnI, tsub1, tsv, tn32 1 (by decide), tnj 1 (by decide), tl32 0 (by decide), tl64 0 (by decide), tl32 1 (by decide), tl64 1 (by decide), tl32 8 (by decide), tl64 8 (by decide), tl32 72 (by decide), tl64 72 (by decide), tl32 100 (by decide), tl64 100 (by decide)] at hc2); (try simp only [lg_cmp_lt, lg_cmp_le, lg_cmp_gt, lg_cmp_ge, lg_cmp_eq] at f3_0); (try simp (disch := omega) only [ta_lt, ta_le, ta_eq, tb_lt, tb_le, tb_eq, tw, tnI, tsub1, tsv, tn32 1 (by decide), tnj 1 (by decide), tl32 0 (by decide), tl64 0 (by decide), tl32 1 (by decide), tl64 1 (by decide), tl32 8 (by decide), tl64 8 (by decide), tl32 72 (by decide), tl64 72 (by decide), tl32 100 (by decide), tl64 100 (by decide)] at f3_0); (try simp only [lg_cmp_lt, lg_cmp_le, lg_cmp_gt, lg_cmp_ge, lg_cmp_eq] at hc3); (try simp (disch := omega) only [ta_lt, ta_le, ta_eq, tb_lt, tb_le, tb_eq, tw, tnI, tsub1, tsv, tn32 1 (by decide), tnj 1 (by decide), tl32 0 (by decide), tl64 0 (by decide), tl32 1 (by decide), tl64 1 (by decide), tl32 8 (by decide), tl64 8 (by decide), tl32 72 (by decide), tl64 72 (by decide), tl32 100 (by decide), tl64 100 (by decide)] at hc3); (try simp only [lg_cmp_lt, lg_cmp_le, lg_cmp_gt, lg_cmp_ge, lg_cmp_eq] at c9); (try simp (disch := omega) only [ta_lt, ta_le, ta_eq, tb_lt, tb_le, tb_eq, tw, tnI, tsub1, tsv, tn32 1 (by decide), tnj 1 (by decide), tl32 0 (by decide), tl64 0 (by decide), tl32 1 (by decide), tl64 1 (by decide), tl32 8 (by decide), tl64 8 (by decide), tl32 72 (by decide), tl64 72 (by decide), tl32 100 (by decide), tl64 100 (by decide)] at c9); (try simp only [lg_cmp_lt, lg_cmp_le, lg_cmp_gt, lg_cmp_ge, lg_cmp_eq] at f37_0); (try simp (disch := omega) only [ta_lt, ta_le, ta_eq, tb_lt, tb_le, tb_eq, tw, tnI, tsub1, tsv, tn32 1 (by decide), tnj 1 (by decide), tl32 0 (by decide), tl64 0 (by decide), tl32 1 (by decide), tl64 1 (by decide), tl32 8 (by decide), tl64 8 (by decide), tl32 72 (by decide), tl64 72 (by decide), tl32 100 (by decide), tl64 100 (by decide)] at f37_0); (try simp only [lg_cmp_lt, lg_cmp_le, lg_cmp_gt, lg_cmp_ge, lg_cmp_eq] at c38); (try simp (disch := omega) only [ta_lt, ta_le, ta_eq, tb_lt, tb_le, tb_eq, tw, tnI, tsub1, tsv, tn32 1 (by decide), tnj 1 (by decide), tl32 0 (by decide), tl64 0 (by decide), tl32 1 (by decide), tl64 1 (by decide), tl32 8 (by decide), tl64 8 (by decide), tl32 72 (by decide), tl64 72 (by decide), tl32 100 (by decide), tl64 100 (by decide)] at c38); (try simp (disch := omega) only [ta_lt, ta_le, ta_eq, tb_lt, tb_le, tb_eq, tw, tnI, tsub1, tsv, tn32 1 (by decide), tnj 1 (by decide), tl32 0 (by decide), tl64 0 (by decide), tl32 1 (by decide), tl64 1 (by decide), tl32 8 (by decide), tl64 8 (by decide), tl32 72 (by decide), tl64 72 (by decide), tl32 100 (by decide), tl64 100 (by decide)]); omega)
                have hF39 : fr [11, 12, 13, 16, 17, 18, 19, 20, 21, 22, 23, 24, 25, 26, 27, 28, 29] [23, 33, 41, 42, 43] σ (sI τ7 27 a (nI q2_44)) := fr.w hF_τ7 (by decide)
                refine lv_aload_n hx hb (dkP dF_42 DX12_ways (i := 39) rfl rfl) rfl (lv_at hl 1 rfl) ?_
                refine lv_dup hx hb (dkP dF_89 DX12_ways (i := 40) rfl rfl) rfl ?_
                refine z_gi C0 hw 0 42 rfl fl_X12_402 (dk2 dF_180 DX12_ways (i := 41) rfl rfl rfl) ?_
                refine z_top (y := (nI a)) ((rd_n (by omega)).trans ha) ?_
                refine lv_iconst (v := 1) hx hb (dkP dF_4 DX12_ways (i := 42) rfl rfl) (by decide) ?_
                refine lv_iadd hx hb (dkP dF_96 DX12_ways (i := 43) rfl rfl) ?_
                refine z_top (y := nI (a + 1)) (by simp only [fa_lit, nI_add, pk_mul]) ?_
                refine z_pi C0 hw 0 42 rfl fp_X12_402 (dk2 dF_181 DX12_ways (i := 44) rfl rfl rfl) (fun H locs hw => ?_)
                have hT40 : TM (sI (sI τ7 27 a (nI q2_44)) 0 42 (nI (a + 1))) := TM.w hT39 (show 0 ≤ _ ∧ _ ≤ 8 from by (try simp only [lg_cmp_lt, lg_cmp_le, lg_cmp_gt, lg_cmp_ge, lg_cmp_eq] at hc1); (try simp (disch := omega) only [ta_lt, ta_le, ta_eq, tb_lt, tb_le, tb_eq, tw, tnI, tsub1, tsv, tn32 1 (by decide), tnj 1 (by decide), tl32 0 (by decide), tl64 0 (by decide), tl32 1 (by decide), tl64 1 (by decide), tl32 8 (by decide), tl64 8 (by decide), tl32 72 (by decide), tl64 72 (by decide), tl32 100 (by decide), tl64 100 (by decide)] at hc1); (try simp only [lg_cmp_lt, lg_cmp_le, lg_cmp_gt, lg_cmp_ge, lg_cmp_eq] at hc2); (try simp (disch := omega) only [ta_lt, ta_le, ta_eq, tb_lt, tb_le, tb_eq, tw, tnI, tsub1, tsv, tn32 1 (by decide), tnj 1 (by decide), tl32 0 (by decide), tl64 0 (by decide), tl32 1 (by decide), tl64 1 (by decide), tl32 8 (by decide), tl64 8 (by decide), tl32 72 (by decide), tl64 72 (by decide), tl32 100 (by decide), tl64 100 (by decide)] at hc2); (try simp only [lg_cmp_lt, lg_cmp_le, lg_cmp_gt, lg_cmp_ge, lg_cmp_eq] at f3_0); (try simp (disch := omega) only [ta_lt, ta_le, ta_eq, tb_lt, tb_le, tb_eq, tw, tnI, tsub1, tsv, tn32 1 (by decide), tnj 1 (by decide), tl32 0 (by decide), tl64 0 (by decide), tl32 1 (by decide), tl64 1 (by decide), tl32 8 (by decide), tl64 8 (by decide), tl32 72 (by decide), tl64 72 (by decide), tl32 100 (by decide), tl64 100 (by decide)] at f3_0); (try simp only [lg_cmp_lt, lg_cmp_le, lg_cmp_gt, lg_cmp_ge, lg_cmp_eq] at hc3); (try simp (disch := omega) only [ta_lt, ta_le, ta_eq, tb_lt, tb_le, tb_eq, tw, tnI, tsub1, tsv, tn32 1 (by decide), tnj 1 (by decide), tl32 0 (by decide), tl64 0 (by decide), tl32 1 (by decide), tl64 1 (by decide), tl32 8 (by decide), tl64 8 (by decide), tl32 72 (by decide), tl64 72 (by decide), tl32 100 (by decide), tl64 100 (by decide)] at hc3); (try simp only [lg_cmp_lt, lg_cmp_le, lg_cmp_gt, lg_cmp_ge, lg_cmp_eq] at c9); (try simp (disch := omega) only [ta_lt, ta_le, ta_eq, tb_lt, tb_le, tb_eq, tw, tnI, tsub1, tsv, tn32 1 (by decide), tnj 1 (by decide), tl32 0 (by decide), tl64 0 (by decide), tl32 1 (by decide), tl64 1 (by decide), tl32 8 (by decide), tl64 8 (by decide), tl32 72 (by decide), tl64 72 (by decide), tl32 100 (by decide), tl64 100 (by decide)] at c9); (try simp only [lg_cmp_lt, lg_cmp_le, lg_cmp_gt, lg_cmp_ge, lg_cmp_eq] at f37_0); (try simp (disch := omega) only [ta_lt, ta_le, ta_eq, tb_lt, tb_le, tb_eq, tw, tnI, tsub1, tsv, tn32 1 (by decide), tnj 1 (by decide), tl32 0 (by decide), tl64 0 (by decide), tl32 1 (by decide), tl64 1 (by decide), tl32 8 (by decide), tl64 8 (by decide), tl32 72 (by decide), tl64 72 (by decide), tl32 100 (by decide), tl64 100 (by decide)] at f37_0); (try simp only [lg_cmp_lt, lg_cmp_le, lg_cmp_gt, lg_cmp_ge, lg_cmp_eq] at c38); (try simp (disch := omega) only [ta_lt, ta_le, ta_eq, tb_lt, tb_le, tb_eq, tw, tnI, tsub1, tsv, tn32 1 (by decide), tnj 1 (by decide), tl32 0 (by decide), tl64 0 (by decide), tl32 1 (by decide), tl64 1 (by decide), tl32 8 (by decide), tl64 8 (by decide), tl32 72 (by decide), tl64 72 (by decide), tl32 100 (by decide), tl64 100 (by decide)] at c38); (try simp (disch := omega) only [ta_lt, ta_le, ta_eq, tb_lt, tb_le, tb_eq, tw, tnI, tsub1, tsv, tn32 1 (by decide), tnj 1 (by decide), tl32 0 (by decide), tl64 0 (by decide), tl32 1 (by decide), tl64 1 (by decide), tl32 8 (by decide), tl64 8 (by decide), tl32 72 (by decide), tl64 72 (by decide), tl32 100 (by decide), tl64 100 (by decide)]); omega)
                have hF40 : fr [11, 12, 13, 16, 17, 18, 19, 20, 21, 22, 23, 24, 25, 26, 27, 28, 29] [23, 33, 41, 42, 43] σ (sI (sI τ7 27 a (nI q2_44)) 0 42 (nI (a + 1))) := fr.w hF39 (by decide)
                refine lv_iinc (v := nI (q2_44 + 1)) (lv' := [(2, .int (nI (q2_44 + 1))), (0, .ref (ad 0)), (1, .int (nI k_program))]) hx hb (dkI DX12_ways (i := 45) rfl rfl rfl rfl) hl (k := 0) rfl (nI_1 _) (by decide) rfl (fun ls hl => ?_)
                refine lv_goto (tgt := 44) hx hb (dkS dF_167 DX12_ways (i := 46) rfl rfl rfl) (by decide) ?_
                exact ih8 (q2_44 + 1) (a + 1) (sI (sI τ7 27 a (nI q2_44)) 0 42 (nI (a + 1))) _ _ _ (by omega) (by (try simp only [lg_cmp_lt, lg_cmp_le, lg_cmp_gt, lg_cmp_ge, lg_cmp_eq] at hc1); (try simp (disch := omega) only [ta_lt, ta_le, ta_eq, tb_lt, tb_le, tb_eq, tw, tnI, tsub1, tsv, tn32 1 (by decide), tnj 1 (by decide), tl32 0 (by decide), tl64 0 (by decide), tl32 1 (by decide), tl64 1 (by decide), tl32 8 (by decide), tl64 8 (by decide), tl32 72 (by decide), tl64 72 (by decide), tl32 100 (by decide), tl64 100 (by decide)] at hc1); (try simp only [lg_cmp_lt, lg_cmp_le, lg_cmp_gt, lg_cmp_ge, lg_cmp_eq] at hc2); (try simp (disch := omega) only [ta_lt, ta_le, ta_eq, tb_lt, tb_le, tb_eq, tw, tnI, tsub1, tsv, tn32 1 (by decide), tnj 1 (by decide), tl32 0 (by decide), tl64 0 (by decide), tl32 1 (by decide), tl64 1 (by decide), tl32 8 (by decide), tl64 8 (by decide), tl32 72 (by decide), tl64 72 (by decide), tl32 100 (by decide), tl64 100 (by decide)] at hc2); (try simp only [lg_cmp_lt, lg_cmp_le, lg_cmp_gt, lg_cmp_ge, lg_cmp_eq] at f3_0); (try simp (disch := omega) only [ta_lt, ta_le, ta_eq, tb_lt, tb_le, tb_eq, tw, tnI, tsub1, tsv, tn32 1 (by decide), tnj 1 (by decide), tl32 0 (by decide), tl64 0 (by decide), tl32 1 (by decide), tl64 1 (by decide), tl32 8 (by decide), tl64 8 (by decide), tl32 72 (by decide), tl64 72 (by decide), tl32 100 (by decide), tl64 100 (by decide)] at f3_0); (try simp only [lg_cmp_lt, lg_cmp_le, lg_cmp_gt, lg_cmp_ge, lg_cmp_eq] at hc3); (try simp (disch := omega) only [ta_lt, ta_le, ta_eq, tb_lt, tb_le, tb_eq, tw, tnI, tsub1, tsv, tn32 1 (by decide), tnj 1 (by decide), tl32 0 (by decide), tl64 0 (by decide), tl32 1 (by decide), tl64 1 (by decide), tl32 8 (by decide), tl64 8 (by decide), tl32 72 (by decide), tl64 72 (by decide), tl32 100 (by decide), tl64 100 (by decide)] at hc3); (try simp only [lg_cmp_lt, lg_cmp_le, lg_cmp_gt, lg_cmp_ge, lg_cmp_eq] at c9); (try simp (disch := omega) only [ta_lt, ta_le, ta_eq, tb_lt, tb_le, tb_eq, tw, tnI, tsub1, tsv, tn32 1 (by decide), tnj 1 (by decide), tl32 0 (by decide), tl64 0 (by decide), tl32 1 (by decide), tl64 1 (by decide), tl32 8 (by decide), tl64 8 (by decide), tl32 72 (by decide), tl64 72 (by decide), tl32 100 (by decide), tl64 100 (by decide)] at c9); (try simp only [lg_cmp_lt, lg_cmp_le, lg_cmp_gt, lg_cmp_ge, lg_cmp_eq] at f37_0); (try simp (disch := omega) only [ta_lt, ta_le, ta_eq, tb_lt, tb_le, tb_eq, tw, tnI, tsub1, tsv, tn32 1 (by decide), tnj 1 (by decide), tl32 0 (by decide), tl64 0 (by decide), tl32 1 (by decide), tl64 1 (by decide), tl32 8 (by decide), tl64 8 (by decide), tl32 72 (by decide), tl64 72 (by decide), tl32 100 (by decide), tl64 100 (by decide)] at f37_0); (try simp only [lg_cmp_lt, lg_cmp_le, lg_cmp_gt, lg_cmp_ge, lg_cmp_eq] at c38); (try simp (disch := omega) only [ta_lt, ta_le, ta_eq, tb_lt, tb_le, tb_eq, tw, tnI, tsub1, tsv, tn32 1 (by decide), tnj 1 (by decide), tl32 0 (by decide), tl64 0 (by decide), tl32 1 (by decide), tl64 1 (by decide), tl32 8 (by decide), tl64 8 (by decide), tl32 72 (by decide), tl64 72 (by decide), tl32 100 (by decide), tl64 100 (by decide)] at c38); (try simp (disch := omega) only [ta_lt, ta_le, ta_eq, tb_lt, tb_le, tb_eq, tw, tnI, tsub1, tsv, tn32 1 (by decide), tnj 1 (by decide), tl32 0 (by decide), tl64 0 (by decide), tl32 1 (by decide), tl64 1 (by decide), tl32 8 (by decide), tl64 8 (by decide), tl32 72 (by decide), tl64 72 (by decide), tl32 100 (by decide), tl64 100 (by decide)]); omega) rd_s (by omega) hT40 hF40 hw (lv_sub hl [0, 1, 2] rfl)
              · simp (disch := omega) only [ta_lt, ta_le, ta_eq, tnI, tl32 0 (by decide)] at c38
                refine lv_goto (tgt := 82) hx hb (dkS dF_167 DX12_ways (i := 32) rfl rfl rfl) (by decide) ?_
                refine lv_iinc (v := nI (q2_44 + 1)) (lv' := [(2, .int (nI (q2_44 + 1))), (0, .ref (ad 0)), (1, .int (nI k_program))]) hx hb (dkI DX12_ways (i := 45) rfl rfl rfl rfl) hl (k := 0) rfl (nI_1 _) (by decide) rfl (fun ls hl => ?_)
                refine lv_goto (tgt := 44) hx hb (dkS dF_167 DX12_ways (i := 46) rfl rfl rfl) (by decide) ?_
                exact ih8 (q2_44 + 1) a τ7 _ _ _ (by omega) (by (try simp only [lg_cmp_lt, lg_cmp_le, lg_cmp_gt, lg_cmp_ge, lg_cmp_eq] at hc1); (try simp (disch := omega) only [ta_lt, ta_le, ta_eq, tb_lt, tb_le, tb_eq, tw, tnI, tsub1, tsv, tn32 1 (by decide), tnj 1 (by decide), tl32 0 (by decide), tl64 0 (by decide), tl32 1 (by decide), tl64 1 (by decide), tl32 8 (by decide), tl64 8 (by decide), tl32 72 (by decide), tl64 72 (by decide), tl32 100 (by decide), tl64 100 (by decide)] at hc1); (try simp only [lg_cmp_lt, lg_cmp_le, lg_cmp_gt, lg_cmp_ge, lg_cmp_eq] at hc2); (try simp (disch := omega) only [ta_lt, ta_le, ta_eq, tb_lt, tb_le, tb_eq, tw, tnI, tsub1, tsv, tn32 1 (by decide), tnj 1 (by decide), tl32 0 (by decide), tl64 0 (by decide), tl32 1 (by decide), tl64 1 (by decide), tl32 8 (by decide), tl64 8 (by decide), tl32 72 (by decide), tl64 72 (by decide), tl32 100 (by decide), tl64 100 (by decide)] at hc2); (try simp only [lg_cmp_lt, lg_cmp_le, lg_cmp_gt, lg_cmp_ge, lg_cmp_eq] at f3_0); (try simp (disch := omega) only [ta_lt, ta_le, ta_eq, tb_lt, tb_le, tb_eq, tw, tnI, tsub1, tsv, tn32 1 (by decide), tnj 1 (by decide), tl32 0 (by decide), tl64 0 (by decide), tl32 1 (by decide), tl64 1 (by decide), tl32 8 (by decide), tl64 8 (by decide), tl32 72 (by decide), tl64 72 (by decide), tl32 100 (by decide), tl64 100 (by decide)] at f3_0); (try simp only [lg_cmp_lt, lg_cmp_le, lg_cmp_gt, lg_cmp_ge, lg_cmp_eq] at hc3); (try simp (disch := omega) only [ta_lt, ta_le, ta_eq, tb_lt, tb_le, tb_eq, tw, tnI, tsub1, tsv, tn32 1 (by decide), tnj 1 (by decide), tl32 0 (by decide), tl64 0 (by decide), tl32 1 (by decide), tl64 1 (by decide), tl32 8 (by decide), tl64 8 (by decide), tl32 72 (by decide), tl64 72 (by decide), tl32 100 (by decide), tl64 100 (by decide)] at hc3); (try simp only [lg_cmp_lt, lg_cmp_le, lg_cmp_gt, lg_cmp_ge, lg_cmp_eq] at c9); (try simp (disch := omega) only [ta_lt, ta_le, ta_eq, tb_lt, tb_le, tb_eq, tw, tnI, tsub1, tsv, tn32 1 (by decide), tnj 1 (by decide), tl32 0 (by decide), tl64 0 (by decide), tl32 1 (by decide), tl64 1 (by decide), tl32 8 (by decide), tl64 8 (by decide), tl32 72 (by decide), tl64 72 (by decide), tl32 100 (by decide), tl64 100 (by decide)] at c9); (try simp only [lg_cmp_lt, lg_cmp_le, lg_cmp_gt, lg_cmp_ge, lg_cmp_eq] at f37_0); (try simp (disch := omega) only [ta_lt, ta_le, ta_eq, tb_lt, tb_le, tb_eq, tw, tnI, tsub1, tsv, tn32 1 (by decide), tnj 1 (by decide), tl32 0 (by decide), tl64 0 (by decide), tl32 1 (by decide), tl64 1 (by decide), tl32 8 (by decide), tl64 8 (by decide), tl32 72 (by decide), tl64 72 (by decide), tl32 100 (by decide), tl64 100 (by decide)] at f37_0); (try simp only [lg_cmp_lt, lg_cmp_le, lg_cmp_gt, lg_cmp_ge, lg_cmp_eq] at c38); (try simp (disch := omega) only [ta_lt, ta_le, ta_eq, tb_lt, tb_le, tb_eq, tw, tnI, tsub1, tsv, tn32 1 (by decide), tnj 1 (by decide), tl32 0 (by decide), tl64 0 (by decide), tl32 1 (by decide), tl64 1 (by decide), tl32 8 (by decide), tl64 8 (by decide), tl32 72 (by decide), tl64 72 (by decide), tl32 100 (by decide), tl64 100 (by decide)] at c38); (try simp (disch := omega) only [ta_lt, ta_le, ta_eq, tb_lt, tb_le, tb_eq, tw, tnI, tsub1, tsv, tn32 1 (by decide), tnj 1 (by decide), tl32 0 (by decide), tl64 0 (by decide), tl32 1 (by decide), tl64 1 (by decide), tl32 8 (by decide), tl64 8 (by decide), tl32 72 (by decide), tl64 72 (by decide), tl32 100 (by decide), tl64 100 (by decide)]); omega) ha (by omega) hT_τ7 hF_τ7 hw (lv_sub hl [0, 1, 2] rfl)
        exact lp8 _ 0 0 (sI (sI s3 0 41 (nI n4)) 0 42 0) _ _ _ (Nat.lt_succ_self _) (by (try simp only [lg_cmp_lt, lg_cmp_le, lg_cmp_gt, lg_cmp_ge, lg_cmp_eq] at hc1); (try simp (disch := omega) only [ta_lt, ta_le, ta_eq, tb_lt, tb_le, tb_eq, tw, tnI, tsub1, tsv, tn32 1 (by decide), tnj 1 (by decide), tl32 0 (by decide), tl64 0 (by decide), tl32 1 (by decide), tl64 1 (by decide), tl32 8 (by decide), tl64 8 (by decide), tl32 72 (by decide), tl64 72 (by decide), tl32 100 (by decide), tl64 100 (by decide)] at hc1); (try simp only [lg_cmp_lt, lg_cmp_le, lg_cmp_gt, lg_cmp_ge, lg_cmp_eq] at hc2); (try simp (disch := omega) only [ta_lt, ta_le, ta_eq, tb_lt, tb_le, tb_eq, tw, tnI, tsub1, tsv, tn32 1 (by decide), tnj 1 (by decide), tl32 0 (by decide), tl64 0 (by decide), tl32 1 (by decide), tl64 1 (by decide), tl32 8 (by decide), tl64 8 (by decide), tl32 72 (by decide), tl64 72 (by decide), tl32 100 (by decide), tl64 100 (by decide)] at hc2); (try simp only [lg_cmp_lt, lg_cmp_le, lg_cmp_gt, lg_cmp_ge, lg_cmp_eq] at f3_0); (try simp (disch := omega) only [ta_lt, ta_le, ta_eq, tb_lt, tb_le, tb_eq, tw, tnI, tsub1, tsv, tn32 1 (by decide), tnj 1 (by decide), tl32 0 (by decide), tl64 0 (by decide), tl32 1 (by decide), tl64 1 (by decide), tl32 8 (by decide), tl64 8 (by decide), tl32 72 (by decide), tl64 72 (by decide), tl32 100 (by decide), tl64 100 (by decide)] at f3_0); (try simp only [lg_cmp_lt, lg_cmp_le, lg_cmp_gt, lg_cmp_ge, lg_cmp_eq] at hc3); (try simp (disch := omega) only [ta_lt, ta_le, ta_eq, tb_lt, tb_le, tb_eq, tw, tnI, tsub1, tsv, tn32 1 (by decide), tnj 1 (by decide), tl32 0 (by decide), tl64 0 (by decide), tl32 1 (by decide), tl64 1 (by decide), tl32 8 (by decide), tl64 8 (by decide), tl32 72 (by decide), tl64 72 (by decide), tl32 100 (by decide), tl64 100 (by decide)] at hc3); (try simp (disch := omega) only [ta_lt, ta_le, ta_eq, tb_lt, tb_le, tb_eq, tw, tnI, tsub1, tsv, tn32 1 (by decide), tnj 1 (by decide), tl32 0 (by decide), tl64 0 (by decide), tl32 1 (by decide), tl64 1 (by decide), tl32 8 (by decide), tl64 8 (by decide), tl32 72 (by decide), tl64 72 (by decide), tl32 100 (by decide), tl64 100 (by decide)]); omega) rd_s (by omega) hT6 hF6 hw (lv_sub hl [0, 1, 2] rfl)
      · skip
        refine lv_if_ne (tgt := 29) hx hb (dkS dF_154 DX12_ways (i := 12) rfl rfl rfl) (by decide) (fun h => absurd h (by decide)) (fun _ => ?_)
        refine lv_bipush (v := (-3)) hx hb (dks dF_16 DX12_ways (i := 13) rfl rfl rfl) (by decide) ?_
        exact z_iret C0 hr hlk hw (⟨hT3, hF3⟩) (dkP dF_172 DX12_ways (i := 14) rfl rfl)
    · skip
      refine lv_if_ne (tgt := 18) hx hb (dkS dF_154 DX12_ways (i := 6) rfl rfl rfl) (by decide) (fun h => absurd h (by decide)) (fun _ => ?_)
      refine lv_bipush (v := (-2)) hx hb (dks dF_16 DX12_ways (i := 7) rfl rfl rfl) (by decide) ?_
      exact z_iret C0 hr hlk hw (⟨hT, fr.refl⟩) (dkP dF_172 DX12_ways (i := 8) rfl rfl)
  · skip
    (try simp (disch := omega) only [ta_lt, ta_le, ta_eq, tb_lt, tb_le, tb_eq, tw, tnI, tn32 3 (by decide), tnj 3 (by decide), tn32 2 (by decide), tnj 2 (by decide), tn32 1 (by decide), tnj 1 (by decide), tl32 0 (by decide), tl64 0 (by decide), tl32 1 (by decide), tl64 1 (by decide), tl32 8 (by decide), tl64 8 (by decide), tl32 72 (by decide), tl64 72 (by decide), tl32 100 (by decide), tl64 100 (by decide)] at hc1)
    refine lv_if_eq (tgt := 15) hx hb (dkS dF_153 DX12_ways (i := 2) rfl rfl rfl) (by decide) (fun _ => ?_) (fun h => absurd h (by decide))
    refine lv_bipush (v := (-2)) hx hb (dks dF_16 DX12_ways (i := 7) rfl rfl rfl) (by decide) ?_
    exact z_iret C0 hr hlk hw (⟨hT, fr.refl⟩) (dkP dF_172 DX12_ways (i := 8) rfl rfl)
