theorem LH.c {τ ρ : Sg} {pg : Nat} (h : LH τ pg) (h1 : ρ.1 (pg + 20) = τ.1 (pg + 20)) (h2 : ρ.1 (pg + 21) = τ.1 (pg + 21)) : LH ρ pg := fun i hi => by rw [h1, h2]; exact h i hi
set_option maxRecDepth 100000 in
set_option maxHeartbeats 8000000 in
theorem c_X4_removeSpan (l : Launch) (G : va_G) (kc : KC) (ad : Nat → Nat) (σ : Sg) (pg : Nat) (ap : Nat) {n : Nat} (hpg : pg ∈ pgL) (hLH : LH σ pg) (hn : σ.1 pg 5 = nI n) (hn3 : n ≤ 3) (han : ap < n) (hT : TC σ) : MV l G kc yX4_removeSpan cX4_removeSpan 3 0 0 [.ref (ad pg), .int (nI ap)] shC ad σ (fun σ1 => (LH σ1 pg) ∧ TC σ1 ∧ frC (fun x y => (x = pg + 19) ∨ (x = pg + 20) ∨ (x = pg + 21) ∨ (x = pg ∧ y = 5)) σ σ1) := by
  intro sz
  refine z_body (y := yX4_removeSpan) (n := 3) (av := [.ref (ad pg), .int (nI ap)]) (Qc := fun A => va_Qv (fun σ1 => (LH σ1 pg) ∧ TC σ1 ∧ frC (fun x y => (x = pg + 19) ∨ (x = pg + 20) ∨ (x = pg + 21) ∨ (x = pg ∧ y = 5)) σ σ1) (PoC G kc shC ad A) A) (plainFor_of_name (by decide)) (Nat.le_of_ble_eq_true rfl) (fun pr e s m below meth c A C0 hr hlk hnm hw hRo ls hl => ?_) sz
  have hx := C0.1
  have hb := C0.2.1
  have hown := C0.2.2.2.1
  have hts := C0.2.2.2.2.1
  have hl : lv_has ls 3 [(0, .ref (ad pg)), (1, .int (nI ap))] := hl
  have hpgn := pgN pg hpg
  refine lv_aload_n hx hb (dkP dF_42 DX4_removeSpan (i := 0) rfl rfl) rfl (lv_at hl 0 rfl) ?_
  refine lv_dup hx hb (dkP dF_89 DX4_removeSpan (i := 1) rfl rfl) rfl ?_
  refine z_gi C0 hw pg 5 (fk_of (shl_pg_0 pg hpg) rfl) fl_X4_52 (dk2 dF_180 DX4_removeSpan (i := 2) rfl rfl rfl) ?_
  refine z_top (y := (nI n)) hn ?_
  refine lv_iconst (v := 1) hx hb (dkP dF_4 DX4_removeSpan (i := 3) rfl rfl) (by decide) ?_
  refine lv_isub hx hb (dkP dF_100 DX4_removeSpan (i := 4) rfl rfl) ?_
  refine z_top (y := nI (n - 1)) (by simp only [fa_lit]; exact nI_sub (by omega)) ?_
  refine z_pi C0 hw pg 5 (fk_of (shl_pg_0 pg hpg) rfl) fp_X4_52 (dk2 dF_181 DX4_removeSpan (i := 5) rfl rfl rfl) (fun H locs hw => ?_)
  have hT1 : TC (sI σ pg 5 (nI (n - 1))) := TC.w hT (tcw_5_5 (tck_pg_0 pg hpg) (by (try simp (disch := omega) only [ta_lt, ta_le, ta_eq, tb_lt, tb_le, tb_eq, tw, tnI, tsub1, tsv, tsb32, tn32 1 (by decide), tnj 1 (by decide), tl32 0 (by decide), tl64 0 (by decide), tl32 1 (by decide), tl64 1 (by decide)]); omega))
  have hF1 : frC (fun x y => (x = pg + 19) ∨ (x = pg + 20) ∨ (x = pg + 21) ∨ (x = pg ∧ y = 5)) σ (sI σ pg 5 (nI (n - 1))) := frC.w frC.refl (by show (pg = pg + 19) ∨ (pg = pg + 20) ∨ (pg = pg + 21) ∨ (pg = pg ∧ 5 = 5); exact Or.inr (Or.inr (Or.inr (⟨rfl, rfl⟩))))
  refine lv_iload_n hx hb (dkP dF_27 DX4_removeSpan (i := 6) rfl rfl) rfl (lv_at hl 1 rfl) ?_
  refine lv_istore_n (lv' := [(2, .int (nI ap)), (0, .ref (ad pg)), (1, .int (nI ap))]) hx hb (dkP dF_61 DX4_removeSpan (i := 7) rfl rfl) rfl hl (by decide) rfl (fun ls hl => ?_)
  have lp3 : ∀ (nq : Nat) (q2_12 : Nat) (τ2 : Sg) (H : Heap) (locs : List Loc) (ls : Array Slot), n - q2_12 < nq → (q2_12 ≤ n) → (LH τ2 pg) → (τ2.1 pg 5 = nI (n - 1)) → (TC τ2) → (frC (fun x y => (x = pg + 19) ∨ (x = pg + 20) ∨ (x = pg + 21) ∨ (x = pg ∧ y = 5)) σ τ2) → St G kc A s.heap shC ad τ2 H locs → lv_has ls 3 [(2, .int (nI q2_12)), (0, .ref (ad pg)), (1, .int (nI ap))] → W pr l e { frames := 0, cells := 0, slots := 0, locals := 0 } s m ([.ref (ad pg), .int (nI ap)] : List Value).toArray below meth c H locs 0 0 (MQ below (va_Qv (fun σ1 => (LH σ1 pg) ∧ TC σ1 ∧ frC (fun x y => (x = pg + 19) ∨ (x = pg + 20) ∨ (x = pg + 21) ∨ (x = pg ∧ y = 5)) σ σ1) (PoC G kc shC ad A) A) ([.ref (ad pg), .int (nI ap)] : List Value).toArray s 0 0 A) (F0 m 12 ls []) := by
    intro nq
    induction nq with
    | zero => intro q2_12 τ2 H locs ls hmu; exact absurd hmu (Nat.not_lt_zero _)
    | succ nq ih3 =>
      intro q2_12 τ2 H locs ls hmu hq2_12 hL hsp hT_τ2 hF_τ2 hw hl
      refine lv_iload_n hx hb (dkP dF_28 DX4_removeSpan (i := 8) rfl rfl) rfl (lv_at hl 0 rfl) ?_
      refine lv_aload_n hx hb (dkP dF_42 DX4_removeSpan (i := 9) rfl rfl) rfl (lv_at hl 1 rfl) ?_
      refine z_gi C0 hw pg 5 (fk_of (shl_pg_0 pg hpg) rfl) fl_X4_52 (dk2 dF_180 DX4_removeSpan (i := 10) rfl rfl rfl) ?_
      refine z_top (y := (nI (n - 1))) hsp ?_
      refine lv_icmp_ge (tgt := 68) hx hb (dkS dF_162 DX4_removeSpan (i := 11) rfl rfl rfl) (by decide) (fun c4 => ?_) (fun c4 => ?_)
      · simp (disch := omega) only [ta_lt, ta_le, ta_eq, tnI] at c4
        exact z_vret C0 hr hlk hw (⟨hL, hT_τ2, hF_τ2⟩) (dkP dF_177 DX4_removeSpan (i := 44) rfl rfl)
      · simp (disch := omega) only [ta_lt, ta_le, ta_eq, tnI] at c4
        refine lv_aload_n hx hb (dkP dF_42 DX4_removeSpan (i := 12) rfl rfl) rfl (lv_at hl 1 rfl) ?_
        refine z_gr C0 hw pg 6 (pg + 19) (fk_of (shl_pg_0 pg hpg) rfl) fl_X4_35 (dk2 dF_180 DX4_removeSpan (i := 13) rfl rfl rfl) ?_
        refine lv_iload_n hx hb (dkP dF_28 DX4_removeSpan (i := 14) rfl rfl) rfl (lv_at hl 0 rfl) ?_
        refine lv_aload_n hx hb (dkP dF_42 DX4_removeSpan (i := 15) rfl rfl) rfl (lv_at hl 1 rfl) ?_
        refine z_gr C0 hw pg 6 (pg + 19) (fk_of (shl_pg_0 pg hpg) rfl) fl_X4_35 (dk2 dF_180 DX4_removeSpan (i := 16) rfl rfl rfl) ?_
        refine lv_iload_n hx hb (dkP dF_28 DX4_removeSpan (i := 17) rfl rfl) rfl (lv_at hl 0 rfl) ?_
        refine lv_iconst (v := 1) hx hb (dkP dF_4 DX4_removeSpan (i := 18) rfl rfl) (by decide) ?_
        refine lv_iadd hx hb (dkP dF_96 DX4_removeSpan (i := 19) rfl rfl) ?_
        refine z_top (y := nI (q2_12 + 1)) (by simp only [fa_lit, nI_add, pk_mul]) ?_
        refine z_ialdN (n := 3) C0 hw (pg + 19) (q2_12 + 1) (ak_of (shl_pg_19 pg hpg)) (by omega) (by decide) (dkP dF_46 DX4_removeSpan (i := 20) rfl rfl) ?_
        obtain ⟨n5, hn5, en5⟩ := rngN (x := τ2.1 (pg + 19) (q2_12 + 1)) (h := 7) (tcr_6 hT_τ2 (tck_pg_19 pg hpg))
        refine z_top (y := nI n5) en5 ?_
        refine z_iastN (n := 3) C0 hw (pg + 19) q2_12 (ak_of (shl_pg_19 pg hpg)) (by omega) (by decide) (dkP dF_79 DX4_removeSpan (i := 21) rfl rfl) (fun H locs hw => ?_)
        have hT6 : TC (sI τ2 (pg + 19) q2_12 (nI n5)) := TC.w hT_τ2 (tcw_6 (tck_pg_19 pg hpg) (by (try simp only [lg_cmp_lt, lg_cmp_le, lg_cmp_gt, lg_cmp_ge, lg_cmp_eq] at c4); (try simp (disch := omega) only [ta_lt, ta_le, ta_eq, tb_lt, tb_le, tb_eq, tw, tnI, tsub1, tsv, tsb32, tn32 1 (by decide), tnj 1 (by decide), tl32 0 (by decide), tl64 0 (by decide), tl32 1 (by decide), tl64 1 (by decide)] at c4); (try simp (disch := omega) only [ta_lt, ta_le, ta_eq, tb_lt, tb_le, tb_eq, tw, tnI, tsub1, tsv, tsb32, tn32 1 (by decide), tnj 1 (by decide), tl32 0 (by decide), tl64 0 (by decide), tl32 1 (by decide), tl64 1 (by decide)]); omega))
        have hF6 : frC (fun x y => (x = pg + 19) ∨ (x = pg + 20) ∨ (x = pg + 21) ∨ (x = pg ∧ y = 5)) σ (sI τ2 (pg + 19) q2_12 (nI n5)) := frC.w hF_τ2 (by show ((pg + 19) = pg + 19) ∨ ((pg + 19) = pg + 20) ∨ ((pg + 19) = pg + 21) ∨ ((pg + 19) = pg ∧ q2_12 = 5); exact Or.inl rfl)
        refine lv_aload_n hx hb (dkP dF_42 DX4_removeSpan (i := 22) rfl rfl) rfl (lv_at hl 1 rfl) ?_
        refine z_gr C0 hw pg 7 (pg + 20) (fk_of (shl_pg_0 pg hpg) rfl) fl_X4_39 (dk2 dF_180 DX4_removeSpan (i := 23) rfl rfl rfl) ?_
        refine lv_iload_n hx hb (dkP dF_28 DX4_removeSpan (i := 24) rfl rfl) rfl (lv_at hl 0 rfl) ?_
        refine lv_aload_n hx hb (dkP dF_42 DX4_removeSpan (i := 25) rfl rfl) rfl (lv_at hl 1 rfl) ?_
        refine z_gr C0 hw pg 7 (pg + 20) (fk_of (shl_pg_0 pg hpg) rfl) fl_X4_39 (dk2 dF_180 DX4_removeSpan (i := 26) rfl rfl rfl) ?_
        refine lv_iload_n hx hb (dkP dF_28 DX4_removeSpan (i := 27) rfl rfl) rfl (lv_at hl 0 rfl) ?_
        refine lv_iconst (v := 1) hx hb (dkP dF_4 DX4_removeSpan (i := 28) rfl rfl) (by decide) ?_
        refine lv_iadd hx hb (dkP dF_96 DX4_removeSpan (i := 29) rfl rfl) ?_
        refine z_top (y := nI (q2_12 + 1)) (by simp only [fa_lit, nI_add, pk_mul]) ?_
        refine z_ialdN (n := 3) C0 hw (pg + 20) (q2_12 + 1) (ak_of (shl_pg_20 pg hpg)) (by omega) (by decide) (dkP dF_46 DX4_removeSpan (i := 30) rfl rfl) ?_
        obtain ⟨v7, ev7⟩ : ∃ y : Int32, (sI τ2 (pg + 19) q2_12 (nI n5)).1 (pg + 20) (q2_12 + 1) = y := ⟨_, rfl⟩
        have hv7 : -99 ≤ v7.toInt ∧ v7.toInt ≤ 99 := by rw [← ev7]; exact (tcr_7 hT6 (tck_pg_20 pg hpg))
        refine z_top (y := v7) ev7 ?_
        refine z_iastN (n := 3) C0 hw (pg + 20) q2_12 (ak_of (shl_pg_20 pg hpg)) (by omega) (by decide) (dkP dF_79 DX4_removeSpan (i := 31) rfl rfl) (fun H locs hw => ?_)
        have hT8 : TC (sI (sI τ2 (pg + 19) q2_12 (nI n5)) (pg + 20) q2_12 v7) := TC.w hT6 (tcw_7 (tck_pg_20 pg hpg) (by (try simp only [lg_cmp_lt, lg_cmp_le, lg_cmp_gt, lg_cmp_ge, lg_cmp_eq] at c4); (try simp (disch := omega) only [ta_lt, ta_le, ta_eq, tb_lt, tb_le, tb_eq, tw, tnI, tsub1, tsv, tsb32, tn32 1 (by decide), tnj 1 (by decide), tl32 0 (by decide), tl64 0 (by decide), tl32 1 (by decide), tl64 1 (by decide)] at c4); (try simp (disch := omega) only [ta_lt, ta_le, ta_eq, tb_lt, tb_le, tb_eq, tw, tnI, tsub1, tsv, tsb32, tn32 1 (by decide), tnj 1 (by decide), tl32 0 (by decide), tl64 0 (by decide), tl32 1 (by decide), tl64 1 (by decide)]); omega))
        have hF8 : frC (fun x y => (x = pg + 19) ∨ (x = pg + 20) ∨ (x = pg + 21) ∨ (x = pg ∧ y = 5)) σ (sI (sI τ2 (pg + 19) q2_12 (nI n5)) (pg + 20) q2_12 v7) := frC.w hF6 (by show ((pg + 20) = pg + 19) ∨ ((pg + 20) = pg + 20) ∨ ((pg + 20) = pg + 21) ∨ ((pg + 20) = pg ∧ q2_12 = 5); exact Or.inr (Or.inl rfl))
        refine lv_aload_n hx hb (dkP dF_42 DX4_removeSpan (i := 32) rfl rfl) rfl (lv_at hl 1 rfl) ?_
        refine z_gr C0 hw pg 8 (pg + 21) (fk_of (shl_pg_0 pg hpg) rfl) fl_X4_42 (dk2 dF_180 DX4_removeSpan (i := 33) rfl rfl rfl) ?_
        refine lv_iload_n hx hb (dkP dF_28 DX4_removeSpan (i := 34) rfl rfl) rfl (lv_at hl 0 rfl) ?_
        refine lv_aload_n hx hb (dkP dF_42 DX4_removeSpan (i := 35) rfl rfl) rfl (lv_at hl 1 rfl) ?_
        refine z_gr C0 hw pg 8 (pg + 21) (fk_of (shl_pg_0 pg hpg) rfl) fl_X4_42 (dk2 dF_180 DX4_removeSpan (i := 36) rfl rfl rfl) ?_
        refine lv_iload_n hx hb (dkP dF_28 DX4_removeSpan (i := 37) rfl rfl) rfl (lv_at hl 0 rfl) ?_
        refine lv_iconst (v := 1) hx hb (dkP dF_4 DX4_removeSpan (i := 38) rfl rfl) (by decide) ?_
        refine lv_iadd hx hb (dkP dF_96 DX4_removeSpan (i := 39) rfl rfl) ?_
        refine z_top (y := nI (q2_12 + 1)) (by simp only [fa_lit, nI_add, pk_mul]) ?_
        refine z_ialdN (n := 3) C0 hw (pg + 21) (q2_12 + 1) (ak_of (shl_pg_21 pg hpg)) (by omega) (by decide) (dkP dF_46 DX4_removeSpan (i := 40) rfl rfl) ?_
        obtain ⟨v9, ev9⟩ : ∃ y : Int32, (sI (sI τ2 (pg + 19) q2_12 (nI n5)) (pg + 20) q2_12 v7).1 (pg + 21) (q2_12 + 1) = y := ⟨_, rfl⟩
        have hv9 : -99 ≤ v9.toInt ∧ v9.toInt ≤ 99 := by rw [← ev9]; exact (tcr_7 hT8 (tck_pg_21 pg hpg))
        refine z_top (y := v9) ev9 ?_
        refine z_iastN (n := 3) C0 hw (pg + 21) q2_12 (ak_of (shl_pg_21 pg hpg)) (by omega) (by decide) (dkP dF_79 DX4_removeSpan (i := 41) rfl rfl) (fun H locs hw => ?_)
        have hT10 : TC (sI (sI (sI τ2 (pg + 19) q2_12 (nI n5)) (pg + 20) q2_12 v7) (pg + 21) q2_12 v9) := TC.w hT8 (tcw_7 (tck_pg_21 pg hpg) (by (try simp only [lg_cmp_lt, lg_cmp_le, lg_cmp_gt, lg_cmp_ge, lg_cmp_eq] at c4); (try simp (disch := omega) only [ta_lt, ta_le, ta_eq, tb_lt, tb_le, tb_eq, tw, tnI, tsub1, tsv, tsb32, tn32 1 (by decide), tnj 1 (by decide), tl32 0 (by decide), tl64 0 (by decide), tl32 1 (by decide), tl64 1 (by decide)] at c4); (try simp (disch := omega) only [ta_lt, ta_le, ta_eq, tb_lt, tb_le, tb_eq, tw, tnI, tsub1, tsv, tsb32, tn32 1 (by decide), tnj 1 (by decide), tl32 0 (by decide), tl64 0 (by decide), tl32 1 (by decide), tl64 1 (by decide)]); omega))
        have hF10 : frC (fun x y => (x = pg + 19) ∨ (x = pg + 20) ∨ (x = pg + 21) ∨ (x = pg ∧ y = 5)) σ (sI (sI (sI τ2 (pg + 19) q2_12 (nI n5)) (pg + 20) q2_12 v7) (pg + 21) q2_12 v9) := frC.w hF8 (by show ((pg + 21) = pg + 19) ∨ ((pg + 21) = pg + 20) ∨ ((pg + 21) = pg + 21) ∨ ((pg + 21) = pg ∧ q2_12 = 5); exact Or.inr (Or.inr (Or.inl rfl)))
        refine lv_iinc (v := nI (q2_12 + 1)) (lv' := [(2, .int (nI (q2_12 + 1))), (0, .ref (ad pg)), (1, .int (nI ap))]) hx hb (dkI DX4_removeSpan (i := 42) rfl rfl rfl rfl) hl (k := 0) rfl (nI_1 _) (by decide) rfl (fun ls hl => ?_)
        refine lv_goto (tgt := 12) hx hb (dkS dF_167 DX4_removeSpan (i := 43) rfl rfl rfl) (by decide) ?_
        exact ih3 (q2_12 + 1) (sI (sI (sI τ2 (pg + 19) q2_12 (nI n5)) (pg + 20) q2_12 v7) (pg + 21) q2_12 v9) _ _ _ (by omega) (by (try simp only [lg_cmp_lt, lg_cmp_le, lg_cmp_gt, lg_cmp_ge, lg_cmp_eq] at c4); (try simp (disch := omega) only [ta_lt, ta_le, ta_eq, tb_lt, tb_le, tb_eq, tw, tnI, tsub1, tsv, tsb32, tn32 1 (by decide), tnj 1 (by decide), tl32 0 (by decide), tl64 0 (by decide), tl32 1 (by decide), tl64 1 (by decide)] at c4); (try simp (disch := omega) only [ta_lt, ta_le, ta_eq, tb_lt, tb_le, tb_eq, tw, tnI, tsub1, tsv, tsb32, tn32 1 (by decide), tnj 1 (by decide), tl32 0 (by decide), tl64 0 (by decide), tl32 1 (by decide), tl64 1 (by decide)]); omega) (hL.set (i := q2_12) (fun k hk1 => ((rd_n (by omega)).trans ((rd_n (by omega)).trans ((rd_n (by omega)).trans rfl)))) (fun k hk1 => ((rd_n (by omega)).trans ((rd_n (by omega)).trans ((rd_n (by omega)).trans rfl)))) ((rd_n (by omega)).trans rd_s) rd_s (by rw [← ev7, ← ev9, ((rd_n (by omega)).trans rfl), ((rd_n (by omega)).trans ((rd_n (by omega)).trans rfl))]; exact hL _ (by omega))) ((rd_n (by omega)).trans ((rd_n (by omega)).trans ((rd_n (by omega)).trans hsp))) hT10 hF10 hw (lv_sub hl [0, 1, 2] rfl)
  exact lp3 _ ap (sI σ pg 5 (nI (n - 1))) _ _ _ (Nat.lt_succ_self _) (by (try simp (disch := omega) only [ta_lt, ta_le, ta_eq, tb_lt, tb_le, tb_eq, tw, tnI, tsub1, tsv, tsb32, tn32 1 (by decide), tnj 1 (by decide), tl32 0 (by decide), tl64 0 (by decide), tl32 1 (by decide), tl64 1 (by decide)]); omega) (hLH.c (sI_o (by omega)) (sI_o (by omega))) rd_s hT1 hF1 hw (lv_sub hl [0, 1, 2] rfl)
set_option maxRecDepth 100000 in
set_option maxHeartbeats 8000000 in
theorem c_X4_openSpan (l : Launch) (G : va_G) (kc : KC) (ad : Nat → Nat) (σ : Sg) (pg : Nat) (ap : Nat) {n : Nat} (hpg : pg ∈ pgL) (hLH : LH σ pg) (hn : σ.1 pg 5 = nI n) (hn2 : n ≤ 2) (han : ap ≤ n) (hT : TC σ) : MV l G kc yX4_openSpan cX4_openSpan 3 0 0 [.ref (ad pg), .int (nI ap)] shC ad σ (fun σ1 => (LH σ1 pg) ∧ TC σ1 ∧ frC (fun x y => (x = pg + 19) ∨ (x = pg + 20) ∨ (x = pg + 21) ∨ (x = pg ∧ y = 5)) σ σ1) := by
  intro sz
  refine z_body (y := yX4_openSpan) (n := 3) (av := [.ref (ad pg), .int (nI ap)]) (Qc := fun A => va_Qv (fun σ1 => (LH σ1 pg) ∧ TC σ1 ∧ frC (fun x y => (x = pg + 19) ∨ (x = pg + 20) ∨ (x = pg + 21) ∨ (x = pg ∧ y = 5)) σ σ1) (PoC G kc shC ad A) A) (plainFor_of_name (by decide)) (Nat.le_of_ble_eq_true rfl) (fun pr e s m below meth c A C0 hr hlk hnm hw hRo ls hl => ?_) sz
  have hx := C0.1
  have hb := C0.2.1
  have hown := C0.2.2.2.1
  have hts := C0.2.2.2.2.1
  have hl : lv_has ls 3 [(0, .ref (ad pg)), (1, .int (nI ap))] := hl
  have hpgn := pgN pg hpg
  refine lv_aload_n hx hb (dkP dF_42 DX4_openSpan (i := 0) rfl rfl) rfl (lv_at hl 0 rfl) ?_
  refine z_gi C0 hw pg 5 (fk_of (shl_pg_0 pg hpg) rfl) fl_X4_52 (dk2 dF_180 DX4_openSpan (i := 1) rfl rfl rfl) ?_
  refine z_top (y := (nI n)) hn ?_
  refine lv_istore_n (lv' := [(2, .int (nI n)), (0, .ref (ad pg)), (1, .int (nI ap))]) hx hb (dkP dF_61 DX4_openSpan (i := 2) rfl rfl) rfl hl (by decide) rfl (fun ls hl => ?_)
  have lp2 : ∀ (nq : Nat) (q2_5 : Int32) (j : Nat) (τ1 : Sg) (H : Heap) (locs : List Loc) (ls : Array Slot), j < nq → (ap ≤ j) → (j ≤ n) → (q2_5 = nI j) → (LH τ1 pg) → (τ1.1 pg 5 = nI n) → (TC τ1) → (frC (fun x y => (x = pg + 19) ∨ (x = pg + 20) ∨ (x = pg + 21) ∨ (x = pg ∧ y = 5)) σ τ1) → St G kc A s.heap shC ad τ1 H locs → lv_has ls 3 [(2, .int q2_5), (0, .ref (ad pg)), (1, .int (nI ap))] → W pr l e { frames := 0, cells := 0, slots := 0, locals := 0 } s m ([.ref (ad pg), .int (nI ap)] : List Value).toArray below meth c H locs 0 0 (MQ below (va_Qv (fun σ1 => (LH σ1 pg) ∧ TC σ1 ∧ frC (fun x y => (x = pg + 19) ∨ (x = pg + 20) ∨ (x = pg + 21) ∨ (x = pg ∧ y = 5)) σ σ1) (PoC G kc shC ad A) A) ([.ref (ad pg), .int (nI ap)] : List Value).toArray s 0 0 A) (F0 m 5 ls []) := by
    intro nq
    induction nq with
    | zero => intro q2_5 j τ1 H locs ls hmu; exact absurd hmu (Nat.not_lt_zero _)
    | succ nq ih2 =>
      intro q2_5 j τ1 H locs ls hmu hj1 hj2 hq2 hL hsp hT_τ1 hF_τ1 hw hl
      subst hq2
      refine lv_iload_n hx hb (dkP dF_28 DX4_openSpan (i := 3) rfl rfl) rfl (lv_at hl 0 rfl) ?_
      refine lv_iload_n hx hb (dkP dF_27 DX4_openSpan (i := 4) rfl rfl) rfl (lv_at hl 2 rfl) ?_
      refine lv_icmp_le (tgt := 58) hx hb (dkS dF_164 DX4_openSpan (i := 5) rfl rfl rfl) (by decide) (fun c3 => ?_) (fun c3 => ?_)
      · simp (disch := omega) only [ta_lt, ta_le, ta_eq, tnI] at c3
        refine lv_aload_n hx hb (dkP dF_42 DX4_openSpan (i := 38) rfl rfl) rfl (lv_at hl 1 rfl) ?_
        refine lv_dup hx hb (dkP dF_89 DX4_openSpan (i := 39) rfl rfl) rfl ?_
        refine z_gi C0 hw pg 5 (fk_of (shl_pg_0 pg hpg) rfl) fl_X4_52 (dk2 dF_180 DX4_openSpan (i := 40) rfl rfl rfl) ?_
        refine z_top (y := (nI n)) hsp ?_
        refine lv_iconst (v := 1) hx hb (dkP dF_4 DX4_openSpan (i := 41) rfl rfl) (by decide) ?_
        refine lv_iadd hx hb (dkP dF_96 DX4_openSpan (i := 42) rfl rfl) ?_
        refine z_top (y := nI (n + 1)) (by simp only [fa_lit, nI_add, pk_mul]) ?_
        refine z_pi C0 hw pg 5 (fk_of (shl_pg_0 pg hpg) rfl) fp_X4_52 (dk2 dF_181 DX4_openSpan (i := 43) rfl rfl rfl) (fun H locs hw => ?_)
        have hT4 : TC (sI τ1 pg 5 (nI (n + 1))) := TC.w hT_τ1 (tcw_5_5 (tck_pg_0 pg hpg) (by (try simp only [lg_cmp_lt, lg_cmp_le, lg_cmp_gt, lg_cmp_ge, lg_cmp_eq] at c3); (try simp (disch := omega) only [ta_lt, ta_le, ta_eq, tb_lt, tb_le, tb_eq, tw, tnI, tsub1, tsv, tsb32, tn32 1 (by decide), tnj 1 (by decide), tl32 0 (by decide), tl64 0 (by decide), tl32 1 (by decide), tl64 1 (by decide)] at c3); (try simp (disch := omega) only [ta_lt, ta_le, ta_eq, tb_lt, tb_le, tb_eq, tw, tnI, tsub1, tsv, tsb32, tn32 1 (by decide), tnj 1 (by decide), tl32 0 (by decide), tl64 0 (by decide), tl32 1 (by decide), tl64 1 (by decide)]); omega))
        have hF4 : frC (fun x y => (x = pg + 19) ∨ (x = pg + 20) ∨ (x = pg + 21) ∨ (x = pg ∧ y = 5)) σ (sI τ1 pg 5 (nI (n + 1))) := frC.w hF_τ1 (by show (pg = pg + 19) ∨ (pg = pg + 20) ∨ (pg = pg + 21) ∨ (pg = pg ∧ 5 = 5); exact Or.inr (Or.inr (Or.inr (⟨rfl, rfl⟩))))
        exact z_vret C0 hr hlk hw (⟨(hL.c (sI_o (by omega)) (sI_o (by omega))), hT4, hF4⟩) (dkP dF_177 DX4_openSpan (i := 44) rfl rfl)
      · simp (disch := omega) only [ta_lt, ta_le, ta_eq, tnI] at c3
        refine lv_aload_n hx hb (dkP dF_42 DX4_openSpan (i := 6) rfl rfl) rfl (lv_at hl 1 rfl) ?_
        refine z_gr C0 hw pg 6 (pg + 19) (fk_of (shl_pg_0 pg hpg) rfl) fl_X4_35 (dk2 dF_180 DX4_openSpan (i := 7) rfl rfl rfl) ?_
        refine lv_iload_n hx hb (dkP dF_28 DX4_openSpan (i := 8) rfl rfl) rfl (lv_at hl 0 rfl) ?_
        refine lv_aload_n hx hb (dkP dF_42 DX4_openSpan (i := 9) rfl rfl) rfl (lv_at hl 1 rfl) ?_
        refine z_gr C0 hw pg 6 (pg + 19) (fk_of (shl_pg_0 pg hpg) rfl) fl_X4_35 (dk2 dF_180 DX4_openSpan (i := 10) rfl rfl rfl) ?_
        refine lv_iload_n hx hb (dkP dF_28 DX4_openSpan (i := 11) rfl rfl) rfl (lv_at hl 0 rfl) ?_
        refine lv_iconst (v := 1) hx hb (dkP dF_4 DX4_openSpan (i := 12) rfl rfl) (by decide) ?_
        refine lv_isub hx hb (dkP dF_100 DX4_openSpan (i := 13) rfl rfl) ?_
        refine z_top (y := nI (j - 1)) (by simp only [fa_lit]; exact nI_sub (by omega)) ?_
        refine z_ialdN (n := 3) C0 hw (pg + 19) (j - 1) (ak_of (shl_pg_19 pg hpg)) (by omega) (by decide) (dkP dF_46 DX4_openSpan (i := 14) rfl rfl) ?_
        obtain ⟨n5, hn5, en5⟩ := rngN (x := τ1.1 (pg + 19) (j - 1)) (h := 7) (tcr_6 hT_τ1 (tck_pg_19 pg hpg))
        refine z_top (y := nI n5) en5 ?_
        refine z_iastN (n := 3) C0 hw (pg + 19) j (ak_of (shl_pg_19 pg hpg)) (by omega) (by decide) (dkP dF_79 DX4_openSpan (i := 15) rfl rfl) (fun H locs hw => ?_)
        have hT6 : TC (sI τ1 (pg + 19) j (nI n5)) := TC.w hT_τ1 (tcw_6 (tck_pg_19 pg hpg) (by (try simp only [lg_cmp_lt, lg_cmp_le, lg_cmp_gt, lg_cmp_ge, lg_cmp_eq] at c3); (try simp (disch := omega) only [ta_lt, ta_le, ta_eq, tb_lt, tb_le, tb_eq, tw, tnI, tsub1, tsv, tsb32, tn32 1 (by decide), tnj 1 (by decide), tl32 0 (by decide), tl64 0 (by decide), tl32 1 (by decide), tl64 1 (by decide)] at c3); (try simp (disch := omega) only [ta_lt, ta_le, ta_eq, tb_lt, tb_le, tb_eq, tw, tnI, tsub1, tsv, tsb32, tn32 1 (by decide), tnj 1 (by decide), tl32 0 (by decide), tl64 0 (by decide), tl32 1 (by decide), tl64 1 (by decide)]); omega))
        have hF6 : frC (fun x y => (x = pg + 19) ∨ (x = pg + 20) ∨ (x = pg + 21) ∨ (x = pg ∧ y = 5)) σ (sI τ1 (pg + 19) j (nI n5)) := frC.w hF_τ1 (by show ((pg + 19) = pg + 19) ∨ ((pg + 19) = pg + 20) ∨ ((pg + 19) = pg + 21) ∨ ((pg + 19) = pg ∧ j = 5); exact Or.inl rfl)
        refine lv_aload_n hx hb (dkP dF_42 DX4_openSpan (i := 16) rfl rfl) rfl (lv_at hl 1 rfl) ?_
        refine z_gr C0 hw pg 7 (pg + 20) (fk_of (shl_pg_0 pg hpg) rfl) fl_X4_39 (dk2 dF_180 DX4_openSpan (i := 17) rfl rfl rfl) ?_
        refine lv_iload_n hx hb (dkP dF_28 DX4_openSpan (i := 18) rfl rfl) rfl (lv_at hl 0 rfl) ?_
        refine lv_aload_n hx hb (dkP dF_42 DX4_openSpan (i := 19) rfl rfl) rfl (lv_at hl 1 rfl) ?_
        refine z_gr C0 hw pg 7 (pg + 20) (fk_of (shl_pg_0 pg hpg) rfl) fl_X4_39 (dk2 dF_180 DX4_openSpan (i := 20) rfl rfl rfl) ?_
        refine lv_iload_n hx hb (dkP dF_28 DX4_openSpan (i := 21) rfl rfl) rfl (lv_at hl 0 rfl) ?_
        refine lv_iconst (v := 1) hx hb (dkP dF_4 DX4_openSpan (i := 22) rfl rfl) (by decide) ?_
        refine lv_isub hx hb (dkP dF_100 DX4_openSpan (i := 23) rfl rfl) ?_
        refine z_top (y := nI (j - 1)) (by simp only [fa_lit]; exact nI_sub (by omega)) ?_
        refine z_ialdN (n := 3) C0 hw (pg + 20) (j - 1) (ak_of (shl_pg_20 pg hpg)) (by omega) (by decide) (dkP dF_46 DX4_openSpan (i := 24) rfl rfl) ?_
        obtain ⟨v7, ev7⟩ : ∃ y : Int32, (sI τ1 (pg + 19) j (nI n5)).1 (pg + 20) (j - 1) = y := ⟨_, rfl⟩
        have hv7 : -99 ≤ v7.toInt ∧ v7.toInt ≤ 99 := by rw [← ev7]; exact (tcr_7 hT6 (tck_pg_20 pg hpg))
        refine z_top (y := v7) ev7 ?_
        refine z_iastN (n := 3) C0 hw (pg + 20) j (ak_of (shl_pg_20 pg hpg)) (by omega) (by decide) (dkP dF_79 DX4_openSpan (i := 25) rfl rfl) (fun H locs hw => ?_)
        have hT8 : TC (sI (sI τ1 (pg + 19) j (nI n5)) (pg + 20) j v7) := TC.w hT6 (tcw_7 (tck_pg_20 pg hpg) (by (try simp only [lg_cmp_lt, lg_cmp_le, lg_cmp_gt, lg_cmp_ge, lg_cmp_eq] at c3); (try simp (disch := omega) only [ta_lt, ta_le, ta_eq, tb_lt, tb_le, tb_eq, tw, tnI, tsub1, tsv, tsb32, tn32 1 (by decide), tnj 1 (by decide), tl32 0 (by decide), tl64 0 (by decide), tl32 1 (by decide), tl64 1 (by decide)] at c3); (try simp (disch := omega) only [ta_lt, ta_le, ta_eq, tb_lt, tb_le, tb_eq, tw, tnI, tsub1, tsv, tsb32, tn32 1 (by decide), tnj 1 (by decide), tl32 0 (by decide), tl64 0 (by decide), tl32 1 (by decide), tl64 1 (by decide)]); omega))
        have hF8 : frC (fun x y => (x = pg + 19) ∨ (x = pg + 20) ∨ (x = pg + 21) ∨ (x = pg ∧ y = 5)) σ (sI (sI τ1 (pg + 19) j (nI n5)) (pg + 20) j v7) := frC.w hF6 (by show ((pg + 20) = pg + 19) ∨ ((pg + 20) = pg + 20) ∨ ((pg + 20) = pg + 21) ∨ ((pg + 20) = pg ∧ j = 5); exact Or.inr (Or.inl rfl))
        refine lv_aload_n hx hb (dkP dF_42 DX4_openSpan (i := 26) rfl rfl) rfl (lv_at hl 1 rfl) ?_
        refine z_gr C0 hw pg 8 (pg + 21) (fk_of (shl_pg_0 pg hpg) rfl) fl_X4_42 (dk2 dF_180 DX4_openSpan (i := 27) rfl rfl rfl) ?_
        refine lv_iload_n hx hb (dkP dF_28 DX4_openSpan (i := 28) rfl rfl) rfl (lv_at hl 0 rfl) ?_
        refine lv_aload_n hx hb (dkP dF_42 DX4_openSpan (i := 29) rfl rfl) rfl (lv_at hl 1 rfl) ?_
        refine z_gr C0 hw pg 8 (pg + 21) (fk_of (shl_pg_0 pg hpg) rfl) fl_X4_42 (dk2 dF_180 DX4_openSpan (i := 30) rfl rfl rfl) ?_
        refine lv_iload_n hx hb (dkP dF_28 DX4_openSpan (i := 31) rfl rfl) rfl (lv_at hl 0 rfl) ?_
        refine lv_iconst (v := 1) hx hb (dkP dF_4 DX4_openSpan (i := 32) rfl rfl) (by decide) ?_
        refine lv_isub hx hb (dkP dF_100 DX4_openSpan (i := 33) rfl rfl) ?_
        refine z_top (y := nI (j - 1)) (by simp only [fa_lit]; exact nI_sub (by omega)) ?_
        refine z_ialdN (n := 3) C0 hw (pg + 21) (j - 1) (ak_of (shl_pg_21 pg hpg)) (by omega) (by decide) (dkP dF_46 DX4_openSpan (i := 34) rfl rfl) ?_
        obtain ⟨v9, ev9⟩ : ∃ y : Int32, (sI (sI τ1 (pg + 19) j (nI n5)) (pg + 20) j v7).1 (pg + 21) (j - 1) = y := ⟨_, rfl⟩
        have hv9 : -99 ≤ v9.toInt ∧ v9.toInt ≤ 99 := by rw [← ev9]; exact (tcr_7 hT8 (tck_pg_21 pg hpg))
        refine z_top (y := v9) ev9 ?_
        refine z_iastN (n := 3) C0 hw (pg + 21) j (ak_of (shl_pg_21 pg hpg)) (by omega) (by decide) (dkP dF_79 DX4_openSpan (i := 35) rfl rfl) (fun H locs hw => ?_)
        have hT10 : TC (sI (sI (sI τ1 (pg + 19) j (nI n5)) (pg + 20) j v7) (pg + 21) j v9) := TC.w hT8 (tcw_7 (tck_pg_21 pg hpg) (by (try simp only [lg_cmp_lt, lg_cmp_le, lg_cmp_gt, lg_cmp_ge, lg_cmp_eq] at c3); (try simp (disch := omega) only [ta_lt, ta_le, ta_eq, tb_lt, tb_le, tb_eq, tw, tnI, tsub1, tsv, tsb32, tn32 1 (by decide), tnj 1 (by decide), tl32 0 (by decide), tl64 0 (by decide), tl32 1 (by decide), tl64 1 (by decide)] at c3); (try simp (disch := omega) only [ta_lt, ta_le, ta_eq, tb_lt, tb_le, tb_eq, tw, tnI, tsub1, tsv, tsb32, tn32 1 (by decide), tnj 1 (by decide), tl32 0 (by decide), tl64 0 (by decide), tl32 1 (by decide), tl64 1 (by decide)]); omega))
        have hF10 : frC (fun x y => (x = pg + 19) ∨ (x = pg + 20) ∨ (x = pg + 21) ∨ (x = pg ∧ y = 5)) σ (sI (sI (sI τ1 (pg + 19) j (nI n5)) (pg + 20) j v7) (pg + 21) j v9) := frC.w hF8 (by show ((pg + 21) = pg + 19) ∨ ((pg + 21) = pg + 20) ∨ ((pg + 21) = pg + 21) ∨ ((pg + 21) = pg ∧ j = 5); exact Or.inr (Or.inr (Or.inl rfl)))
        refine lv_iinc (v := (nI j) + (-1)) (lv' := [(2, .int ((nI j) + (-1))), (0, .ref (ad pg)), (1, .int (nI ap))]) hx hb (dkI DX4_openSpan (i := 36) rfl rfl rfl rfl) hl (k := 0) rfl rfl (by decide) rfl (fun ls hl => ?_)
        refine lv_goto (tgt := 5) hx hb (dkS dF_167 DX4_openSpan (i := 37) rfl rfl rfl) (by decide) ?_
        exact ih2 ((nI j) + (-1)) (j - 1) (sI (sI (sI τ1 (pg + 19) j (nI n5)) (pg + 20) j v7) (pg + 21) j v9) _ _ _ (by omega) (by omega) (by omega) (nI_dec (by omega)) (hL.set (i := j) (fun k hk1 => ((rd_n (by omega)).trans ((rd_n (by omega)).trans ((rd_n (by omega)).trans rfl)))) (fun k hk1 => ((rd_n (by omega)).trans ((rd_n (by omega)).trans ((rd_n (by omega)).trans rfl)))) ((rd_n (by omega)).trans rd_s) rd_s (by rw [← ev7, ← ev9, ((rd_n (by omega)).trans rfl), ((rd_n (by omega)).trans ((rd_n (by omega)).trans rfl))]; exact hL _ (by omega))) ((rd_n (by omega)).trans ((rd_n (by omega)).trans ((rd_n (by omega)).trans hsp))) hT10 hF10 hw (lv_sub hl [0, 1, 2] rfl)
  exact lp2 _ (nI n) n σ _ _ _ (Nat.lt_succ_self _) (by omega) (by omega) rfl hLH hn hT frC.refl hw (lv_sub hl [0, 1, 2] rfl)
