set_option maxRecDepth 100000 in
set_option maxHeartbeats 8000000 in
theorem c_X12_unlikeAt (l : Launch) (G : va_G) (kc : KC) (ad : Nat → Nat) (σ : Sg) (pg : Nat) (input : Int32) (hp8 : pg < 8) (hT : TM σ) : MI l G kc yX12_unlikeAt cX12_unlikeAt 5 (some .int) 4 89 [.ref (ad 0), .int (nI pg), .int input] shM ad σ (fun r σ1 => TM σ1 ∧ fr true [11, 12, 13, 14] [23, 25] σ σ1) := by
  intro sz
  refine z_body (y := yX12_unlikeAt) (n := 5) (av := [.ref (ad 0), .int (nI pg), .int input]) (Qc := fun A => va_Qi (fun r σ1 => TM σ1 ∧ fr true [11, 12, 13, 14] [23, 25] σ σ1) (PoC G kc shM ad A) A) (plainFor_of_name (by decide)) (Nat.le_of_ble_eq_true rfl) (fun pr e s m below meth c A C0 hr hlk hnm hw hRo ls hl => ?_) sz
  have hx := C0.1
  have hb := C0.2.1
  have hown := C0.2.2.2.1
  have hts := C0.2.2.2.2.1
  have hl : lv_has ls 5 [(0, .ref (ad 0)), (1, .int (nI pg)), (2, .int input)] := hl
  refine lv_aload_n hx hb (dkP dF_42 DX12_unlikeAt (i := 0) rfl rfl) rfl (lv_at hl 0 rfl) ?_
  refine lv_iload_n hx hb (dkP dF_27 DX12_unlikeAt (i := 1) rfl rfl) rfl (lv_at hl 1 rfl) ?_
  refine lv_iload_n hx hb (dkP dF_28 DX12_unlikeAt (i := 2) rfl rfl) rfl (lv_at hl 2 rfl) ?_
  refine zk_V hw (zr_V (As := [.int (nI pg), .int input]) (rest := []) C0 (c_X12_beginsWith l G kc ad σ pg input (by first | omega | assumption | decide | rfl) hT _) cv_X12_beginsWith lk_X12_372 (zp_V C0 hRo hw 0 rfl rfl rfl) rfl hl.1 rfl ⟨by decide, by decide⟩ (Nat.le_of_ble_eq_true rfl) (dk2 dF_182 DX12_unlikeAt (i := 3) rfl rfl rfl) ⟨Nat.le_refl _, Nat.le_refl _⟩) (fun s1 H locs hp hw => ?_)
  obtain ⟨hT1, hG1⟩ := hp
  have hF1 : fr true [11, 12, 13, 14] [23, 25] σ s1 := fr.t fr.refl hG1 (by decide) (by decide) (by decide)
  refine lv_aload_n hx hb (dkP dF_42 DX12_unlikeAt (i := 4) rfl rfl) rfl (lv_at hl 0 rfl) ?_
  refine lv_iload_n hx hb (dkP dF_27 DX12_unlikeAt (i := 5) rfl rfl) rfl (lv_at hl 1 rfl) ?_
  refine zk_I hw (zr_V (As := [.int (nI pg)]) (rest := []) C0 (c_X12_runs l G kc ad s1 pg (by first | omega | assumption | decide | rfl) hT1 _) cv_X12_runs lk_X12_375 (zp_V C0 hRo hw 0 rfl rfl rfl) rfl hl.1 rfl ⟨by decide, by decide⟩ (Nat.le_of_ble_eq_true rfl) (dk2 dF_182 DX12_unlikeAt (i := 6) rfl rfl rfl) ⟨Nat.le_refl _, Nat.le_refl _⟩) (fun r2 s2 H locs hp hw => ?_)
  obtain ⟨f2_0, hT2, hG2⟩ := hp
  have hF2 : fr true [11, 12, 13, 14] [23, 25] σ s2 := fr.t hF1 hG2 (by decide) (by decide) (by decide)
  obtain ⟨n2, hn2, rfl⟩ := rngN (h := 4) f2_0
  refine lv_aload_n hx hb (dkP dF_42 DX12_unlikeAt (i := 7) rfl rfl) rfl (lv_at hl 0 rfl) ?_
  refine lv_iload_n hx hb (dkP dF_27 DX12_unlikeAt (i := 8) rfl rfl) rfl (lv_at hl 1 rfl) ?_
  refine zk_I hw (zr_V (As := [.int (nI pg)]) (rest := [.int (nI n2)]) C0 (c_X12_runsNew l G kc ad s2 pg (by first | omega | assumption | decide | rfl) hT2 _) cv_X12_runsNew lk_X12_381 (zp_V C0 hRo hw 0 rfl rfl rfl) rfl hl.1 rfl ⟨by decide, by decide⟩ (Nat.le_of_ble_eq_true rfl) (dk2 dF_182 DX12_unlikeAt (i := 9) rfl rfl rfl) ⟨Nat.le_refl _, Nat.le_refl _⟩) (fun r3 s3 H locs hp hw => ?_)
  obtain ⟨f3_0, hT3, hG3⟩ := hp
  have hF3 : fr true [11, 12, 13, 14] [23, 25] σ s3 := fr.t hF2 hG3 (by decide) (by decide) (by decide)
  obtain ⟨n3, hn3, rfl⟩ := rngN (h := 5) f3_0
  refine lv_icmp_ne (tgt := 23) hx hb (dkS dF_160 DX12_unlikeAt (i := 10) rfl rfl rfl) (by decide) (fun c4 => ?_) (fun c4 => ?_)
  · simp (disch := omega) only [ta_lt, ta_le, ta_eq, tnI] at c4
    refine lv_sipush (v := 256) hx hb (dkS dF_17 DX12_unlikeAt (i := 13) rfl rfl rfl) (by decide) ?_
    refine lv_istore_n (lv' := [(3, .int 256), (0, .ref (ad 0)), (1, .int (nI pg)), (2, .int input)]) hx hb (dkP dF_62 DX12_unlikeAt (i := 14) rfl rfl) rfl hl (by decide) rfl (fun ls hl => ?_)
    refine lv_iconst (v := 0) hx hb (dkP dF_3 DX12_unlikeAt (i := 15) rfl rfl) (by decide) ?_
    refine lv_istore (lv' := [(4, .int 0), (3, .int 256), (0, .ref (ad 0)), (1, .int (nI pg)), (2, .int input)]) hx hb (dk1 dF_54 DX12_unlikeAt (i := 16) rfl rfl rfl) hl (by decide) rfl (fun ls hl => ?_)
    have lp5 : ∀ (nq : Nat) (q4_30 : Nat) (q3_30 : Int32) (H : Heap) (locs : List Loc) (ls : Array Slot), 8 - q4_30 < nq → (q4_30 ≤ 8) → St G kc A s.heap shM ad s3 H locs → lv_has ls 5 [(4, .int (nI q4_30)), (3, .int q3_30), (0, .ref (ad 0)), (1, .int (nI pg)), (2, .int input)] → W pr l e { frames := 4, cells := 0, slots := 0, locals := 89 } s m ([.ref (ad 0), .int (nI pg), .int input] : List Value).toArray below meth c H locs 0 0 (MQ below (va_Qi (fun r σ1 => TM σ1 ∧ fr true [11, 12, 13, 14] [23, 25] σ σ1) (PoC G kc shM ad A) A) ([.ref (ad 0), .int (nI pg), .int input] : List Value).toArray s 0 0 A) (F0 m 30 ls []) := by
      intro nq
      induction nq with
      | zero => intro q4_30 q3_30 H locs ls hmu; exact absurd hmu (Nat.not_lt_zero _)
      | succ nq ih5 =>
        intro q4_30 q3_30 H locs ls hmu hq4_30 hw hl
        refine lv_iload hx hb (dk1 dF_21 DX12_unlikeAt (i := 17) rfl rfl rfl) (lv_at hl 0 rfl) ?_
        refine lv_bipush (v := 8) hx hb (dks dF_16 DX12_unlikeAt (i := 18) rfl rfl rfl) (by decide) ?_
        refine lv_icmp_ge (tgt := 71) hx hb (dkS dF_162 DX12_unlikeAt (i := 19) rfl rfl rfl) (by decide) (fun c6 => ?_) (fun c6 => ?_)
        · simp (disch := omega) only [ta_lt, ta_le, ta_eq, tnI, tl32 8 (by decide)] at c6
          refine lv_iload_n hx hb (dkP dF_29 DX12_unlikeAt (i := 39) rfl rfl) rfl (lv_at hl 1 rfl) ?_
          exact z_iret C0 hr hlk hw (⟨hT3, hF3⟩) (dkP dF_172 DX12_unlikeAt (i := 40) rfl rfl)
        · simp (disch := omega) only [ta_lt, ta_le, ta_eq, tnI, tl32 8 (by decide)] at c6
          refine lv_iload_n hx hb (dkP dF_29 DX12_unlikeAt (i := 20) rfl rfl) rfl (lv_at hl 1 rfl) ?_
          refine lv_aload_n hx hb (dkP dF_42 DX12_unlikeAt (i := 21) rfl rfl) rfl (lv_at hl 2 rfl) ?_
          refine z_gr C0 hw 0 21 12 rfl fl_X12_60 (dk2 dF_180 DX12_unlikeAt (i := 22) rfl rfl rfl) ?_
          refine lv_iload hx hb (dk1 dF_21 DX12_unlikeAt (i := 23) rfl rfl rfl) (lv_at hl 0 rfl) ?_
          refine z_ialdN (n := 8) C0 hw 12 q4_30 rfl (by omega) (by decide) (dkP dF_46 DX12_unlikeAt (i := 24) rfl rfl) ?_
          obtain ⟨v7, ev7⟩ : ∃ y : Int32, s3.1 12 q4_30 = y := ⟨_, rfl⟩
          refine z_top (y := v7) ev7 ?_
          refine lv_aload_n hx hb (dkP dF_42 DX12_unlikeAt (i := 25) rfl rfl) rfl (lv_at hl 2 rfl) ?_
          refine z_gr C0 hw 0 24 14 rfl fl_X12_66 (dk2 dF_180 DX12_unlikeAt (i := 26) rfl rfl rfl) ?_
          refine lv_iload hx hb (dk1 dF_21 DX12_unlikeAt (i := 27) rfl rfl rfl) (lv_at hl 0 rfl) ?_
          refine z_ialdN (n := 8) C0 hw 14 q4_30 rfl (by omega) (by decide) (dkP dF_46 DX12_unlikeAt (i := 28) rfl rfl) ?_
          obtain ⟨v8, ev8⟩ : ∃ y : Int32, s3.1 14 q4_30 = y := ⟨_, rfl⟩
          refine z_top (y := v8) ev8 ?_
          refine lv_icmp_ne (tgt := 59) hx hb (dkS dF_160 DX12_unlikeAt (i := 29) rfl rfl rfl) (by decide) (fun c9 => ?_) (fun c9 => ?_)
          · (try simp (disch := omega) only [ta_lt, ta_le, ta_eq, tnI] at c9)
            refine lv_iconst (v := 1) hx hb (dkP dF_4 DX12_unlikeAt (i := 32) rfl rfl) (by decide) ?_
            refine lv_iload hx hb (dk1 dF_21 DX12_unlikeAt (i := 33) rfl rfl rfl) (lv_at hl 0 rfl) ?_
            refine lv_ishl hx hb (dkP dF_120 DX12_unlikeAt (i := 34) rfl rfl) ?_
            refine lv_ior hx hb (dkP dF_128 DX12_unlikeAt (i := 35) rfl rfl) ?_
            refine lv_topi (fun v10 ev10 => ?_)
            refine lv_istore_n (lv' := [(3, .int v10), (4, .int (nI q4_30)), (0, .ref (ad 0)), (1, .int (nI pg)), (2, .int input)]) hx hb (dkP dF_62 DX12_unlikeAt (i := 36) rfl rfl) rfl hl (by decide) rfl (fun ls hl => ?_)
            refine lv_iinc (v := nI (q4_30 + 1)) (lv' := [(4, .int (nI (q4_30 + 1))), (3, .int v10), (0, .ref (ad 0)), (1, .int (nI pg)), (2, .int input)]) hx hb (dkI DX12_unlikeAt (i := 37) rfl rfl rfl rfl) hl (k := 1) rfl (nI_1 _) (by decide) rfl (fun ls hl => ?_)
            refine lv_goto (tgt := 30) hx hb (dkS dF_167 DX12_unlikeAt (i := 38) rfl rfl rfl) (by decide) ?_
            exact ih5 (q4_30 + 1) v10 _ _ _ (by omega) (by (try simp only [lg_cmp_lt, lg_cmp_le, lg_cmp_gt, lg_cmp_ge, lg_cmp_eq] at f2_0); (try simp (disch := omega) only [ta_lt, ta_le, ta_eq, tb_lt, tb_le, tb_eq, tw, tnI, tsub1, tsv, tn32 1 (by decide), tnj 1 (by decide), tl32 0 (by decide), tl64 0 (by decide), tl32 1 (by decide), tl64 1 (by decide), tl32 8 (by decide), tl64 8 (by decide), tl32 256 (by decide), tl64 256 (by decide)] at f2_0); (try simp only [lg_cmp_lt, lg_cmp_le, lg_cmp_gt, lg_cmp_ge, lg_cmp_eq] at f3_0); (try simp (disch := omega) only [ta_lt, ta_le, ta_eq, tb_lt, tb_le, tb_eq, tw, tnI, tsub1, tsv, tn32 1 (by decide), tnj 1 (by decide), tl32 0 (by decide), tl64 0 (by decide), tl32 1 (by decide), tl64 1 (by decide), tl32 8 (by decide), tl64 8 (by decide), tl32 256 (by decide), tl64 256 (by decide)] at f3_0); (try simp only [lg_cmp_lt, lg_cmp_le, lg_cmp_gt, lg_cmp_ge, lg_cmp_eq] at c4); (try simp (disch := omega) only [ta_lt, ta_le, ta_eq, tb_lt, tb_le, tb_eq, tw, tnI, tsub1, tsv, tn32 1 (by decide), tnj 1 (by decide), tl32 0 (by decide), tl64 0 (by decide), tl32 1 (by decide), tl64 1 (by decide), tl32 8 (by decide), tl64 8 (by decide), tl32 256 (by decide), tl64 256 (by decide)] at c4); (try simp only [lg_cmp_lt, lg_cmp_le, lg_cmp_gt, lg_cmp_ge, lg_cmp_eq] at c6); (try simp (disch := omega) only [ta_lt, ta_le, ta_eq, tb_lt, tb_le, tb_eq, tw, tnI, tsub1, tsv, tn32 1 (by decide), tnj 1 (by decide), tl32 0 (by decide), tl64 0 (by decide), tl32 1 (by decide), tl64 1 (by decide), tl32 8 (by decide), tl64 8 (by decide), tl32 256 (by decide), tl64 256 (by decide)] at c6); (try simp only [lg_cmp_lt, lg_cmp_le, lg_cmp_gt, lg_cmp_ge, lg_cmp_eq] at c9); (try simp (disch := omega) only [ta_lt, ta_le, ta_eq, tb_lt, tb_le, tb_eq, tw, tnI, tsub1, tsv, tn32 1 (by decide), tnj 1 (by decide), tl32 0 (by decide), tl64 0 (by decide), tl32 1 (by decide), tl64 1 (by decide), tl32 8 (by decide), tl64 8 (by decide), tl32 256 (by decide), tl64 256 (by decide)] at c9); (try simp (disch := omega) only [ta_lt, ta_le, ta_eq, tb_lt, tb_le, tb_eq, tw, tnI, tsub1, tsv, tn32 1 (by decide), tnj 1 (by decide), tl32 0 (by decide), tl64 0 (by decide), tl32 1 (by decide), tl64 1 (by decide), tl32 8 (by decide), tl64 8 (by decide), tl32 256 (by decide), tl64 256 (by decide)]); omega) hw (lv_sub hl [0, 1, 2, 3, 4] rfl)
          · (try simp (disch := omega) only [ta_lt, ta_le, ta_eq, tnI] at c9)
            refine lv_iconst (v := 0) hx hb (dkP dF_3 DX12_unlikeAt (i := 30) rfl rfl) (by decide) ?_
            refine lv_goto (tgt := 63) hx hb (dkS dF_167 DX12_unlikeAt (i := 31) rfl rfl rfl) (by decide) ?_
            refine lv_ior hx hb (dkP dF_128 DX12_unlikeAt (i := 35) rfl rfl) ?_
            refine lv_topi (fun v11 ev11 => ?_)
            refine lv_istore_n (lv' := [(3, .int v11), (4, .int (nI q4_30)), (0, .ref (ad 0)), (1, .int (nI pg)), (2, .int input)]) hx hb (dkP dF_62 DX12_unlikeAt (i := 36) rfl rfl) rfl hl (by decide) rfl (fun ls hl => ?_)
            refine lv_iinc (v := nI (q4_30 + 1)) (lv' := [(4, .int (nI (q4_30 + 1))), (3, .int v11), (0, .ref (ad 0)), (1, .int (nI pg)), (2, .int input)]) hx hb (dkI DX12_unlikeAt (i := 37) rfl rfl rfl rfl) hl (k := 1) rfl (nI_1 _) (by decide) rfl (fun ls hl => ?_)
            refine lv_goto (tgt := 30) hx hb (dkS dF_167 DX12_unlikeAt (i := 38) rfl rfl rfl) (by decide) ?_
            exact ih5 (q4_30 + 1) v11 _ _ _ (by omega) (by (try simp only [lg_cmp_lt, lg_cmp_le, lg_cmp_gt, lg_cmp_ge, lg_cmp_eq] at f2_0); (try simp (disch := omega) only [ta_lt, ta_le, ta_eq, tb_lt, tb_le, tb_eq, tw, tnI, tsub1, tsv, tn32 1 (by decide), tnj 1 (by decide), tl32 0 (by decide), tl64 0 (by decide), tl32 1 (by decide), tl64 1 (by decide), tl32 8 (by decide), tl64 8 (by decide), tl32 256 (by decide), tl64 256 (by decide)] at f2_0); (try simp only [lg_cmp_lt, lg_cmp_le, lg_cmp_gt, lg_cmp_ge, lg_cmp_eq] at f3_0); (try simp (disch := omega) only [ta_lt, ta_le, ta_eq, tb_lt, tb_le, tb_eq, tw, tnI, tsub1, tsv, tn32 1 (by decide), tnj 1 (by decide), tl32 0 (by decide), tl64 0 (by decide), tl32 1 (by decide), tl64 1 (by decide), tl32 8 (by decide), tl64 8 (by decide), tl32 256 (by decide), tl64 256 (by decide)] at f3_0); (try simp only [lg_cmp_lt, lg_cmp_le, lg_cmp_gt, lg_cmp_ge, lg_cmp_eq] at c4); (try simp (disch := omega) only [ta_lt, ta_le, ta_eq, tb_lt, tb_le, tb_eq, tw, tnI, tsub1, tsv, tn32 1 (by decide), tnj 1 (by decide), tl32 0 (by decide), tl64 0 (by decide), tl32 1 (by decide), tl64 1 (by decide), tl32 8 (by decide), tl64 8 (by decide), tl32 256 (by decide), tl64 256 (by decide)] at c4); (try simp only [lg_cmp_lt, lg_cmp_le, lg_cmp_gt, lg_cmp_ge, lg_cmp_eq] at c6); (try simp (disch := omega) only [ta_lt, ta_le, ta_eq, tb_lt, tb_le, tb_eq, tw, tnI, tsub1, tsv, tn32 1 (by decide), tnj 1 (by decide), tl32 0 (by decide), tl64 0 (by decide), tl32 1 (by decide), tl64 1 (by decide), tl32 8 (by decide), tl64 8 (by decide), tl32 256 (by decide), tl64 256 (by decide)] at c6); (try simp only [lg_cmp_lt, lg_cmp_le, lg_cmp_gt, lg_cmp_ge, lg_cmp_eq] at c9); (try simp (disch := omega) only [ta_lt, ta_le, ta_eq, tb_lt, tb_le, tb_eq, tw, tnI, tsub1, tsv, tn32 1 (by decide), tnj 1 (by decide), tl32 0 (by decide), tl64 0 (by decide), tl32 1 (by decide), tl64 1 (by decide), tl32 8 (by decide), tl64 8 (by decide), tl32 256 (by decide), tl64 256 (by decide)] at c9); (try simp (disch := omega) only [ta_lt, ta_le, ta_eq, tb_lt, tb_le, tb_eq, tw, tnI, tsub1, tsv, tn32 1 (by decide), tnj 1 (by decide), tl32 0 (by decide), tl64 0 (by decide), tl32 1 (by decide), tl64 1 (by decide), tl32 8 (by decide), tl64 8 (by decide), tl32 256 (by decide), tl64 256 (by decide)]); omega) hw (lv_sub hl [0, 1, 2, 3, 4] rfl)
    exact lp5 _ 0 256 _ _ _ (Nat.lt_succ_self _) (by (try simp only [lg_cmp_lt, lg_cmp_le, lg_cmp_gt, lg_cmp_ge, lg_cmp_eq] at f2_0); (try simp (disch := omega) only [ta_lt, ta_le, ta_eq, tb_lt, tb_le, tb_eq, tw, tnI, tsub1, tsv, tn32 1 (by decide), tnj 1 (by decide), tl32 0 (by decide), tl64 0 (by decide), tl32 1 (by decide), tl64 1 (by decide), tl32 8 (by decide), tl64 8 (by decide), tl32 256 (by decide), tl64 256 (by decide)] at f2_0); (try simp only [lg_cmp_lt, lg_cmp_le, lg_cmp_gt, lg_cmp_ge, lg_cmp_eq] at f3_0); (try simp (disch := omega) only [ta_lt, ta_le, ta_eq, tb_lt, tb_le, tb_eq, tw, tnI, tsub1, tsv, tn32 1 (by decide), tnj 1 (by decide), tl32 0 (by decide), tl64 0 (by decide), tl32 1 (by decide), tl64 1 (by decide), tl32 8 (by decide), tl64 8 (by decide), tl32 256 (by decide), tl64 256 (by decide)] at f3_0); (try simp only [lg_cmp_lt, lg_cmp_le, lg_cmp_gt, lg_cmp_ge, lg_cmp_eq] at c4); (try simp (disch := omega) only [ta_lt, ta_le, ta_eq, tb_lt, tb_le, tb_eq, tw, tnI, tsub1, tsv, tn32 1 (by decide), tnj 1 (by decide), tl32 0 (by decide), tl64 0 (by decide), tl32 1 (by decide), tl64 1 (by decide), tl32 8 (by decide), tl64 8 (by decide), tl32 256 (by decide), tl64 256 (by decide)] at c4); (try simp (disch := omega) only [ta_lt, ta_le, ta_eq, tb_lt, tb_le, tb_eq, tw, tnI, tsub1, tsv, tn32 1 (by decide), tnj 1 (by decide), tl32 0 (by decide), tl64 0 (by decide), tl32 1 (by decide), tl64 1 (by decide), tl32 8 (by decide), tl64 8 (by decide), tl32 256 (by decide), tl64 256 (by decide)]); omega) hw (lv_sub hl [0, 1, 2, 3, 4] rfl)
  · simp (disch := omega) only [ta_lt, ta_le, ta_eq, tnI] at c4
    refine lv_iconst (v := 0) hx hb (dkP dF_3 DX12_unlikeAt (i := 11) rfl rfl) (by decide) ?_
    refine lv_goto (tgt := 26) hx hb (dkS dF_167 DX12_unlikeAt (i := 12) rfl rfl rfl) (by decide) ?_
    refine lv_istore_n (lv' := [(3, .int 0), (0, .ref (ad 0)), (1, .int (nI pg)), (2, .int input)]) hx hb (dkP dF_62 DX12_unlikeAt (i := 14) rfl rfl) rfl hl (by decide) rfl (fun ls hl => ?_)
    refine lv_iconst (v := 0) hx hb (dkP dF_3 DX12_unlikeAt (i := 15) rfl rfl) (by decide) ?_
    refine lv_istore (lv' := [(4, .int 0), (3, .int 0), (0, .ref (ad 0)), (1, .int (nI pg)), (2, .int input)]) hx hb (dk1 dF_54 DX12_unlikeAt (i := 16) rfl rfl rfl) hl (by decide) rfl (fun ls hl => ?_)
    have lp12 : ∀ (nq : Nat) (q4_30 : Nat) (q3_30 : Int32) (H : Heap) (locs : List Loc) (ls : Array Slot), 8 - q4_30 < nq → (q4_30 ≤ 8) → St G kc A s.heap shM ad s3 H locs → lv_has ls 5 [(4, .int (nI q4_30)), (3, .int q3_30), (0, .ref (ad 0)), (1, .int (nI pg)), (2, .int input)] → W pr l e { frames := 4, cells := 0, slots := 0, locals := 89 } s m ([.ref (ad 0), .int (nI pg), .int input] : List Value).toArray below meth c H locs 0 0 (MQ below (va_Qi (fun r σ1 => TM σ1 ∧ fr true [11, 12, 13, 14] [23, 25] σ σ1) (PoC G kc shM ad A) A) ([.ref (ad 0), .int (nI pg), .int input] : List Value).toArray s 0 0 A) (F0 m 30 ls []) := by
      intro nq
      induction nq with
      | zero => intro q4_30 q3_30 H locs ls hmu; exact absurd hmu (Nat.not_lt_zero _)
      | succ nq ih12 =>
        intro q4_30 q3_30 H locs ls hmu hq4_30 hw hl
        refine lv_iload hx hb (dk1 dF_21 DX12_unlikeAt (i := 17) rfl rfl rfl) (lv_at hl 0 rfl) ?_
        refine lv_bipush (v := 8) hx hb (dks dF_16 DX12_unlikeAt (i := 18) rfl rfl rfl) (by decide) ?_
        refine lv_icmp_ge (tgt := 71) hx hb (dkS dF_162 DX12_unlikeAt (i := 19) rfl rfl rfl) (by decide) (fun c13 => ?_) (fun c13 => ?_)
        · simp (disch := omega) only [ta_lt, ta_le, ta_eq, tnI, tl32 8 (by decide)] at c13
          refine lv_iload_n hx hb (dkP dF_29 DX12_unlikeAt (i := 39) rfl rfl) rfl (lv_at hl 1 rfl) ?_
          exact z_iret C0 hr hlk hw (⟨hT3, hF3⟩) (dkP dF_172 DX12_unlikeAt (i := 40) rfl rfl)
        · simp (disch := omega) only [ta_lt, ta_le, ta_eq, tnI, tl32 8 (by decide)] at c13
          refine lv_iload_n hx hb (dkP dF_29 DX12_unlikeAt (i := 20) rfl rfl) rfl (lv_at hl 1 rfl) ?_
          refine lv_aload_n hx hb (dkP dF_42 DX12_unlikeAt (i := 21) rfl rfl) rfl (lv_at hl 2 rfl) ?_
          refine z_gr C0 hw 0 21 12 rfl fl_X12_60 (dk2 dF_180 DX12_unlikeAt (i := 22) rfl rfl rfl) ?_
          refine lv_iload hx hb (dk1 dF_21 DX12_unlikeAt (i := 23) rfl rfl rfl) (lv_at hl 0 rfl) ?_
          refine z_ialdN (n := 8) C0 hw 12 q4_30 rfl (by omega) (by decide) (dkP dF_46 DX12_unlikeAt (i := 24) rfl rfl) ?_
          obtain ⟨v14, ev14⟩ : ∃ y : Int32, s3.1 12 q4_30 = y := ⟨_, rfl⟩
          refine z_top (y := v14) ev14 ?_
          refine lv_aload_n hx hb (dkP dF_42 DX12_unlikeAt (i := 25) rfl rfl) rfl (lv_at hl 2 rfl) ?_
          refine z_gr C0 hw 0 24 14 rfl fl_X12_66 (dk2 dF_180 DX12_unlikeAt (i := 26) rfl rfl rfl) ?_
          refine lv_iload hx hb (dk1 dF_21 DX12_unlikeAt (i := 27) rfl rfl rfl) (lv_at hl 0 rfl) ?_
          refine z_ialdN (n := 8) C0 hw 14 q4_30 rfl (by omega) (by decide) (dkP dF_46 DX12_unlikeAt (i := 28) rfl rfl) ?_
          obtain ⟨v15, ev15⟩ : ∃ y : Int32, s3.1 14 q4_30 = y := ⟨_, rfl⟩
          refine z_top (y := v15) ev15 ?_
          refine lv_icmp_ne (tgt := 59) hx hb (dkS dF_160 DX12_unlikeAt (i := 29) rfl rfl rfl) (by decide) (fun c16 => ?_) (fun c16 => ?_)
          · (try simp (disch := omega) only [ta_lt, ta_le, ta_eq, tnI] at c16)
            refine lv_iconst (v := 1) hx hb (dkP dF_4 DX12_unlikeAt (i := 32) rfl rfl) (by decide) ?_
            refine lv_iload hx hb (dk1 dF_21 DX12_unlikeAt (i := 33) rfl rfl rfl) (lv_at hl 0 rfl) ?_
            refine lv_ishl hx hb (dkP dF_120 DX12_unlikeAt (i := 34) rfl rfl) ?_
            refine lv_ior hx hb (dkP dF_128 DX12_unlikeAt (i := 35) rfl rfl) ?_
            refine lv_topi (fun v17 ev17 => ?_)
            refine lv_istore_n (lv' := [(3, .int v17), (4, .int (nI q4_30)), (0, .ref (ad 0)), (1, .int (nI pg)), (2, .int input)]) hx hb (dkP dF_62 DX12_unlikeAt (i := 36) rfl rfl) rfl hl (by decide) rfl (fun ls hl => ?_)
            refine lv_iinc (v := nI (q4_30 + 1)) (lv' := [(4, .int (nI (q4_30 + 1))), (3, .int v17), (0, .ref (ad 0)), (1, .int (nI pg)), (2, .int input)]) hx hb (dkI DX12_unlikeAt (i := 37) rfl rfl rfl rfl) hl (k := 1) rfl (nI_1 _) (by decide) rfl (fun ls hl => ?_)
            refine lv_goto (tgt := 30) hx hb (dkS dF_167 DX12_unlikeAt (i := 38) rfl rfl rfl) (by decide) ?_
            exact ih12 (q4_30 + 1) v17 _ _ _ (by omega) (by (try simp only [lg_cmp_lt, lg_cmp_le, lg_cmp_gt, lg_cmp_ge, lg_cmp_eq] at f2_0); (try simp (disch := omega) only [ta_lt, ta_le, ta_eq, tb_lt, tb_le, tb_eq, tw, tnI, tsub1, tsv, tn32 1 (by decide), tnj 1 (by decide), tl32 0 (by decide), tl64 0 (by decide), tl32 1 (by decide), tl64 1 (by decide), tl32 8 (by decide), tl64 8 (by decide), tl32 256 (by decide), tl64 256 (by decide)] at f2_0); (try simp only [lg_cmp_lt, lg_cmp_le, lg_cmp_gt, lg_cmp_ge, lg_cmp_eq] at f3_0); (try simp (disch := omega) only [ta_lt, ta_le, ta_eq, tb_lt, tb_le, tb_eq, tw, tnI, tsub1, tsv, tn32 1 (by decide), tnj 1 (by decide), tl32 0 (by decide), tl64 0 (by decide), tl32 1 (by decide), tl64 1 (by decide), tl32 8 (by decide), tl64 8 (by decide), tl32 256 (by decide), tl64 256 (by decide)] at f3_0); (try simp only [lg_cmp_lt, lg_cmp_le, lg_cmp_gt, lg_cmp_ge, lg_cmp_eq] at c4); (try simp (disch := omega) only [ta_lt, ta_le, ta_eq, tb_lt, tb_le, tb_eq, tw, tnI, tsub1, tsv, tn32 1 (by decide), tnj 1 (by decide), tl32 0 (by decide), tl64 0 (by decide), tl32 1 (by decide), tl64 1 (by decide), tl32 8 (by decide), tl64 8 (by decide), tl32 256 (by decide), tl64 256 (by decide)] at c4); (try simp only [lg_cmp_lt, lg_cmp_le, lg_cmp_gt, lg_cmp_ge, lg_cmp_eq] at c13); (try simp (disch := omega) only [ta_lt, ta_le, ta_eq, tb_lt, tb_le, tb_eq, tw, tnI, tsub1, tsv, tn32 1 (by decide), tnj 1 (by decide), tl32 0 (by decide), tl64 0 (by decide), tl32 1 (by decide), tl64 1 (by decide), tl32 8 (by decide), tl64 8 (by decide), tl32 256 (by decide), tl64 256 (by decide)] at c13); (try simp only [lg_cmp_lt, lg_cmp_le, lg_cmp_gt, lg_cmp_ge, lg_cmp_eq] at c16); (try simp (disch := omega) only [ta_lt, ta_le, ta_eq, tb_lt, tb_le, tb_eq, tw, tnI, tsub1, tsv, tn32 1 (by decide), tnj 1 (by decide), tl32 0 (by decide), tl64 0 (by decide), tl32 1 (by decide), tl64 1 (by decide), tl32 8 (by decide), tl64 8 (by decide), tl32 256 (by decide), tl64 256 (by decide)] at c16); (try simp (disch := omega) only [ta_lt, ta_le, ta_eq, tb_lt, tb_le, tb_eq, tw, tnI, tsub1, tsv, tn32 1 (by decide), tnj 1 (by decide), tl32 0 (by decide), tl64 0 (by decide), tl32 1 (by decide), tl64 1 (by decide), tl32 8 (by decide), tl64 8 (by decide), tl32 256 (by decide), tl64 256 (by decide)]); omega) hw (lv_sub hl [0, 1, 2, 3, 4] rfl)
          · (try simp (disch := omega) only [ta_lt, ta_le, ta_eq, tnI] at c16)
            refine lv_iconst (v := 0) hx hb (dkP dF_3 DX12_unlikeAt (i := 30) rfl rfl) (by decide) ?_
            refine lv_goto (tgt := 63) hx hb (dkS dF_167 DX12_unlikeAt (i := 31) rfl rfl rfl) (by decide) ?_
            refine lv_ior hx hb (dkP dF_128 DX12_unlikeAt (i := 35) rfl rfl) ?_
            refine lv_topi (fun v18 ev18 => ?_)
            refine lv_istore_n (lv' := [(3, .int v18), (4, .int (nI q4_30)), (0, .ref (ad 0)), (1, .int (nI pg)), (2, .int input)]) hx hb (dkP dF_62 DX12_unlikeAt (i := 36) rfl rfl) rfl hl (by decide) rfl (fun ls hl => ?_)
            refine lv_iinc (v := nI (q4_30 + 1)) (lv' := [(4, .int (nI (q4_30 + 1))), (3, .int v18), (0, .ref (ad 0)), (1, .int (nI pg)), (2, .int input)]) hx hb (dkI DX12_unlikeAt (i := 37) rfl rfl rfl rfl) hl (k := 1) rfl (nI_1 _) (by decide) rfl (fun ls hl => ?_)
            refine lv_goto (tgt := 30) hx hb (dkS dF_167 DX12_unlikeAt (i := 38) rfl rfl rfl) (by decide) ?_
            exact ih12 (q4_30 + 1) v18 _ _ _ (by omega) (by (try simp only [lg_cmp_lt, lg_cmp_le, lg_cmp_gt, lg_cmp_ge, lg_cmp_eq] at f2_0); (try simp (disch := omega) only [ta_lt, ta_le, ta_eq, tb_lt, tb_le, tb_eq, tw, tnI, tsub1, tsv, tn32 1 (by decide), tnj 1 (by decide), tl32 0 (by decide), tl64 0 (by decide), tl32 1 (by decide), tl64 1 (by decide), tl32 8 (by decide), tl64 8 (by decide), tl32 256 (by decide), tl64 256 (by decide)] at f2_0); (try simp only [lg_cmp_lt, lg_cmp_le, lg_cmp_gt, lg_cmp_ge, lg_cmp_eq] at f3_0); (try simp (disch := omega) only [ta_lt, ta_le, ta_eq, tb_lt, tb_le, tb_eq, tw, tnI, tsub1, tsv, tn32 1 (by decide), tnj 1 (by decide), tl32 0 (by decide), tl64 0 (by decide), tl32 1 (by decide), tl64 1 (by decide), tl32 8 (by decide), tl64 8 (by decide), tl32 256 (by decide), tl64 256 (by decide)] at f3_0); (try simp only [lg_cmp_lt, lg_cmp_le, lg_cmp_gt, lg_cmp_ge, lg_cmp_eq] at c4); (try simp (disch := omega) only [ta_lt, ta_le, ta_eq, tb_lt, tb_le, tb_eq, tw, tnI, tsub1, tsv, tn32 1 (by decide), tnj 1 (by decide), tl32 0 (by decide), tl64 0 (by decide), tl32 1 (by decide), tl64 1 (by decide), tl32 8 (by decide), tl64 8 (by decide), tl32 256 (by decide), tl64 256 (by decide)] at c4); (try simp only [lg_cmp_lt, lg_cmp_le, lg_cmp_gt, lg_cmp_ge, lg_cmp_eq] at c13); (try simp (disch := omega) only [ta_lt, ta_le, ta_eq, tb_lt, tb_le, tb_eq, tw, tnI, tsub1, tsv, tn32 1 (by decide), tnj 1 (by decide), tl32 0 (by decide), tl64 0 (by decide), tl32 1 (by decide), tl64 1 (by decide), tl32 8 (by decide), tl64 8 (by decide), tl32 256 (by decide), tl64 256 (by decide)] at c13); (try simp only [lg_cmp_lt, lg_cmp_le, lg_cmp_gt, lg_cmp_ge, lg_cmp_eq] at c16); (try simp (disch := omega) only [ta_lt, ta_le, ta_eq, tb_lt, tb_le, tb_eq, tw, tnI, tsub1, tsv, tn32 1 (by decide), tnj 1 (by decide), tl32 0 (by decide), tl64 0 (by decide), tl32 1 (by decide), tl64 1 (by decide), tl32 8 (by decide), tl64 8 (by decide), tl32 256 (by decide), tl64 256 (by decide)] at c16); (try simp (disch := omega) only [ta_lt, ta_le, ta_eq, tb_lt, tb_le, tb_eq, tw, tnI, tsub1, tsv, tn32 1 (by decide), tnj 1 (by decide), tl32 0 (by decide), tl64 0 (by decide), tl32 1 (by decide), tl64 1 (by decide), tl32 8 (by decide), tl64 8 (by decide), tl32 256 (by decide), tl64 256 (by decide)]); omega) hw (lv_sub hl [0, 1, 2, 3, 4] rfl)
    exact lp12 _ 0 0 _ _ _ (Nat.lt_succ_self _) (by (try simp only [lg_cmp_lt, lg_cmp_le, lg_cmp_gt, lg_cmp_ge, lg_cmp_eq] at f2_0); (try simp (disch := omega) only [ta_lt, ta_le, ta_eq, tb_lt, tb_le, tb_eq, tw, tnI, tsub1, tsv, tn32 1 (by decide), tnj 1 (by decide), tl32 0 (by decide), tl64 0 (by decide), tl32 1 (by decide), tl64 1 (by decide), tl32 8 (by decide), tl64 8 (by decide), tl32 256 (by decide), tl64 256 (by decide)] at f2_0); (try simp only [lg_cmp_lt, lg_cmp_le, lg_cmp_gt, lg_cmp_ge, lg_cmp_eq] at f3_0); (try simp (disch := omega) only [ta_lt, ta_le, ta_eq, tb_lt, tb_le, tb_eq, tw, tnI, tsub1, tsv, tn32 1 (by decide), tnj 1 (by decide), tl32 0 (by decide), tl64 0 (by decide), tl32 1 (by decide), tl64 1 (by decide), tl32 8 (by decide), tl64 8 (by decide), tl32 256 (by decide), tl64 256 (by decide)] at f3_0); (try simp only [lg_cmp_lt, lg_cmp_le, lg_cmp_gt, lg_cmp_ge, lg_cmp_eq] at c4); (try simp (disch := omega) only [ta_lt, ta_le, ta_eq, tb_lt, tb_le, tb_eq, tw, tnI, tsub1, tsv, tn32 1 (by decide), tnj 1 (by decide), tl32 0 (by decide), tl64 0 (by decide), tl32 1 (by decide), tl64 1 (by decide), tl32 8 (by decide), tl64 8 (by decide), tl32 256 (by decide), tl64 256 (by decide)] at c4); (try simp (disch := omega) only [ta_lt, ta_le, ta_eq, tb_lt, tb_le, tb_eq, tw, tnI, tsub1, tsv, tn32 1 (by decide), tnj 1 (by decide), tl32 0 (by decide), tl64 0 (by decide), tl32 1 (by decide), tl64 1 (by decide), tl32 8 (by decide), tl64 8 (by decide), tl32 256 (by decide), tl64 256 (by decide)]); omega) hw (lv_sub hl [0, 1, 2, 3, 4] rfl)
set_option maxRecDepth 100000 in
set_option maxHeartbeats 8000000 in
theorem c_X12_unlike (l : Launch) (G : va_G) (kc : KC) (ad : Nat → Nat) (σ : Sg) (program : Int32) (hT : TM σ) : MI l G kc yX12_unlike cX12_unlike 4 (some .int) 5 113 [.ref (ad 0), .int program] shM ad σ (fun r σ1 => TM σ1 ∧ fr true [11, 12, 13, 14] [23, 25] σ σ1) := by
  intro sz
  refine z_body (y := yX12_unlike) (n := 4) (av := [.ref (ad 0), .int program]) (Qc := fun A => va_Qi (fun r σ1 => TM σ1 ∧ fr true [11, 12, 13, 14] [23, 25] σ σ1) (PoC G kc shM ad A) A) (plainFor_of_name (by decide)) (Nat.le_of_ble_eq_true rfl) (fun pr e s m below meth c A C0 hr hlk hnm hw hRo ls hl => ?_) sz
  have hx := C0.1
  have hb := C0.2.1
  have hown := C0.2.2.2.1
  have hts := C0.2.2.2.2.1
  have hl : lv_has ls 4 [(0, .ref (ad 0)), (1, .int program)] := hl
  refine lv_aload_n hx hb (dkP dF_42 DX12_unlike (i := 0) rfl rfl) rfl (lv_at hl 0 rfl) ?_
  refine lv_iload_n hx hb (dkP dF_27 DX12_unlike (i := 1) rfl rfl) rfl (lv_at hl 1 rfl) ?_
  refine zk_I hw (zr_V (As := [.int program]) (rest := []) C0 (c_X12_hasBoth l G kc ad σ program hT _) cv_X12_hasBoth lk_X12_435 (zp_V C0 hRo hw 0 rfl rfl rfl) rfl hl.1 rfl ⟨by decide, by decide⟩ (Nat.le_of_ble_eq_true rfl) (dk2 dF_182 DX12_unlike (i := 2) rfl rfl rfl) ⟨Nat.le_refl _, Nat.le_refl _⟩) (fun r1 s1 H locs hp hw => ?_)
  obtain ⟨f1_0, hs1⟩ := hp
  (rw [hs1] at hw)
  rcases f1_0 with ⟨rfl, hc1⟩ | ⟨rfl, hc1⟩
  · skip
    refine lv_if_ne (tgt := 11) hx hb (dkS dF_154 DX12_unlike (i := 3) rfl rfl rfl) (by decide) (fun _ => ?_) (fun h => absurd h (by decide))
    obtain ⟨pn, hpn, rfl⟩ := to_nat (x := program) (n := 8) (by (try simp only [lg_cmp_lt, lg_cmp_le, lg_cmp_gt, lg_cmp_ge, lg_cmp_eq] at f1_0); (try simp (disch := omega) only [ta_lt, ta_le, ta_eq, tb_lt, tb_le, tb_eq, tw, tnI, tsub1, tsv, tn32 1 (by decide), tnj 1 (by decide), tl32 0 (by decide), tl64 0 (by decide)] at f1_0); (try simp only [lg_cmp_lt, lg_cmp_le, lg_cmp_gt, lg_cmp_ge, lg_cmp_eq] at hc1); (try simp (disch := omega) only [ta_lt, ta_le, ta_eq, tb_lt, tb_le, tb_eq, tw, tnI, tsub1, tsv, tn32 1 (by decide), tnj 1 (by decide), tl32 0 (by decide), tl64 0 (by decide)] at hc1); (try simp (disch := omega) only [ta_lt, ta_le, ta_eq, tb_lt, tb_le, tb_eq, tw, tnI, tsub1, tsv, tn32 1 (by decide), tnj 1 (by decide), tl32 0 (by decide), tl64 0 (by decide)]); omega)
    refine lv_iconst (v := 0) hx hb (dkP dF_3 DX12_unlike (i := 6) rfl rfl) (by decide) ?_
    refine lv_istore_n (lv' := [(2, .int 0), (0, .ref (ad 0)), (1, .int (nI pn))]) hx hb (dkP dF_61 DX12_unlike (i := 7) rfl rfl) rfl hl (by decide) rfl (fun ls hl => ?_)
    refine lv_iconst (v := 0) hx hb (dkP dF_3 DX12_unlike (i := 8) rfl rfl) (by decide) ?_
    refine lv_istore_n (lv' := [(3, .int 0), (2, .int 0), (0, .ref (ad 0)), (1, .int (nI pn))]) hx hb (dkP dF_62 DX12_unlike (i := 9) rfl rfl) rfl hl (by decide) rfl (fun ls hl => ?_)
    have lp3 : ∀ (nq : Nat) (q3_15 : Nat) (q2_15 : Int32) (τ2 : Sg) (H : Heap) (locs : List Loc) (ls : Array Slot), 2147483647 - q3_15 < nq → (q3_15 ≤ 2147483647) → (TM τ2) → (fr true [11, 12, 13, 14] [23, 25] σ τ2) → St G kc A s.heap shM ad τ2 H locs → lv_has ls 4 [(3, .int (nI q3_15)), (2, .int q2_15), (0, .ref (ad 0)), (1, .int (nI pn))] → W pr l e { frames := 5, cells := 0, slots := 0, locals := 113 } s m ([.ref (ad 0), .int (nI pn)] : List Value).toArray below meth c H locs 0 0 (MQ below (va_Qi (fun r σ1 => TM σ1 ∧ fr true [11, 12, 13, 14] [23, 25] σ σ1) (PoC G kc shM ad A) A) ([.ref (ad 0), .int (nI pn)] : List Value).toArray s 0 0 A) (F0 m 15 ls []) := by
      intro nq
      induction nq with
      | zero => intro q3_15 q2_15 τ2 H locs ls hmu; exact absurd hmu (Nat.not_lt_zero _)
      | succ nq ih3 =>
        intro q3_15 q2_15 τ2 H locs ls hmu hq3_15 hT_τ2 hF_τ2 hw hl
        refine lv_iload_n hx hb (dkP dF_29 DX12_unlike (i := 10) rfl rfl) rfl (lv_at hl 0 rfl) ?_
        refine lv_aload_n hx hb (dkP dF_42 DX12_unlike (i := 11) rfl rfl) rfl (lv_at hl 2 rfl) ?_
        refine lv_iload_n hx hb (dkP dF_27 DX12_unlike (i := 12) rfl rfl) rfl (lv_at hl 3 rfl) ?_
        refine zk_I hw (zr_V (As := [.int (nI pn)]) (rest := [.int (nI q3_15)]) C0 (c_X12_inputsOf l G kc ad τ2 pn (by first | omega | assumption | decide | rfl) hT_τ2 _) cv_X12_inputsOf lk_X12_339 (zp_V C0 hRo hw 0 rfl rfl rfl) rfl hl.1 rfl ⟨by decide, by decide⟩ (Nat.le_of_ble_eq_true rfl) (dk2 dF_182 DX12_unlike (i := 13) rfl rfl rfl) ⟨Nat.le_refl _, Nat.le_refl _⟩) (fun r4 s4 H locs hp hw => ?_)
        have hs4 := hp
        (rw [hs4] at hw)
        refine lv_icmp_ge (tgt := 47) hx hb (dkS dF_162 DX12_unlike (i := 14) rfl rfl rfl) (by decide) (fun c5 => ?_) (fun c5 => ?_)
        · (try simp (disch := omega) only [ta_lt, ta_le, ta_eq, tnI] at c5); have hz5 := i32b r4
          refine lv_iload_n hx hb (dkP dF_28 DX12_unlike (i := 28) rfl rfl) rfl (lv_at hl 1 rfl) ?_
          exact z_iret C0 hr hlk hw (⟨hT_τ2, hF_τ2⟩) (dkP dF_172 DX12_unlike (i := 29) rfl rfl)
        · (try simp (disch := omega) only [ta_lt, ta_le, ta_eq, tnI] at c5); have hz5 := i32b r4
          refine lv_iload_n hx hb (dkP dF_28 DX12_unlike (i := 15) rfl rfl) rfl (lv_at hl 1 rfl) ?_
          refine lv_aload_n hx hb (dkP dF_42 DX12_unlike (i := 16) rfl rfl) rfl (lv_at hl 2 rfl) ?_
          refine lv_iload_n hx hb (dkP dF_27 DX12_unlike (i := 17) rfl rfl) rfl (lv_at hl 3 rfl) ?_
          refine lv_iload_n hx hb (dkP dF_29 DX12_unlike (i := 18) rfl rfl) rfl (lv_at hl 0 rfl) ?_
          refine zk_I hw (zr_V (As := [.int (nI pn), .int (nI q3_15)]) (rest := [.int q2_15]) C0 (c_X12_unlikeAt l G kc ad τ2 pn (nI q3_15) (by first | omega | assumption | decide | rfl) hT_τ2 _) cv_X12_unlikeAt lk_X12_438 (zp_V C0 hRo hw 0 rfl rfl rfl) rfl hl.1 rfl ⟨by decide, by decide⟩ (Nat.le_of_ble_eq_true rfl) (dk2 dF_182 DX12_unlike (i := 19) rfl rfl rfl) ⟨Nat.le_refl _, Nat.le_refl _⟩) (fun r6 s6 H locs hp hw => ?_)
          obtain ⟨hT6, hG6⟩ := hp
          have hF6 : fr true [11, 12, 13, 14] [23, 25] σ s6 := fr.t hF_τ2 hG6 (by decide) (by decide) (by decide)
          refine lv_if_ne (tgt := 38) hx hb (dkS dF_154 DX12_unlike (i := 20) rfl rfl rfl) (by decide) (fun c7 => ?_) (fun c7 => ?_)
          · (try simp (disch := omega) only [ta_lt, ta_le, ta_eq, tnI, tl32 0 (by decide)] at c7)
            refine lv_iconst (v := 1) hx hb (dkP dF_4 DX12_unlike (i := 23) rfl rfl) (by decide) ?_
            refine lv_iadd hx hb (dkP dF_96 DX12_unlike (i := 24) rfl rfl) ?_
            refine lv_topi (fun v8 ev8 => ?_)
            refine lv_istore_n (lv' := [(2, .int v8), (3, .int (nI q3_15)), (0, .ref (ad 0)), (1, .int (nI pn))]) hx hb (dkP dF_61 DX12_unlike (i := 25) rfl rfl) rfl hl (by decide) rfl (fun ls hl => ?_)
            refine lv_iinc (v := nI (q3_15 + 1)) (lv' := [(3, .int (nI (q3_15 + 1))), (2, .int v8), (0, .ref (ad 0)), (1, .int (nI pn))]) hx hb (dkI DX12_unlike (i := 26) rfl rfl rfl rfl) hl (k := 1) rfl (nI_1 _) (by decide) rfl (fun ls hl => ?_)
            refine lv_goto (tgt := 15) hx hb (dkS dF_167 DX12_unlike (i := 27) rfl rfl rfl) (by decide) ?_
            exact ih3 (q3_15 + 1) v8 s6 _ _ _ (by omega) (by (try simp only [lg_cmp_lt, lg_cmp_le, lg_cmp_gt, lg_cmp_ge, lg_cmp_eq] at f1_0); (try simp (disch := omega) only [ta_lt, ta_le, ta_eq, tb_lt, tb_le, tb_eq, tw, tnI, tsub1, tsv, tn32 1 (by decide), tnj 1 (by decide), tl32 0 (by decide), tl64 0 (by decide), tl32 1 (by decide), tl64 1 (by decide)] at f1_0); (try simp only [lg_cmp_lt, lg_cmp_le, lg_cmp_gt, lg_cmp_ge, lg_cmp_eq] at hc1); (try simp (disch := omega) only [ta_lt, ta_le, ta_eq, tb_lt, tb_le, tb_eq, tw, tnI, tsub1, tsv, tn32 1 (by decide), tnj 1 (by decide), tl32 0 (by decide), tl64 0 (by decide), tl32 1 (by decide), tl64 1 (by decide)] at hc1); (try simp only [lg_cmp_lt, lg_cmp_le, lg_cmp_gt, lg_cmp_ge, lg_cmp_eq] at c5); (try simp (disch := omega) only [ta_lt, ta_le, ta_eq, tb_lt, tb_le, tb_eq, tw, tnI, tsub1, tsv, tn32 1 (by decide), tnj 1 (by decide), tl32 0 (by decide), tl64 0 (by decide), tl32 1 (by decide), tl64 1 (by decide)] at c5); (try simp only [lg_cmp_lt, lg_cmp_le, lg_cmp_gt, lg_cmp_ge, lg_cmp_eq] at c7); (try simp (disch := omega) only [ta_lt, ta_le, ta_eq, tb_lt, tb_le, tb_eq, tw, tnI, tsub1, tsv, tn32 1 (by decide), tnj 1 (by decide), tl32 0 (by decide), tl64 0 (by decide), tl32 1 (by decide), tl64 1 (by decide)] at c7); (try simp (disch := omega) only [ta_lt, ta_le, ta_eq, tb_lt, tb_le, tb_eq, tw, tnI, tsub1, tsv, tn32 1 (by decide), tnj 1 (by decide), tl32 0 (by decide), tl64 0 (by decide), tl32 1 (by decide), tl64 1 (by decide)]); omega) hT6 hF6 hw (lv_sub hl [0, 1, 2, 3] rfl)
          · (try simp (disch := omega) only [ta_lt, ta_le, ta_eq, tnI, tl32 0 (by decide)] at c7)
            refine lv_iconst (v := 0) hx hb (dkP dF_3 DX12_unlike (i := 21) rfl rfl) (by decide) ?_
            refine lv_goto (tgt := 39) hx hb (dkS dF_167 DX12_unlike (i := 22) rfl rfl rfl) (by decide) ?_
            refine lv_iadd hx hb (dkP dF_96 DX12_unlike (i := 24) rfl rfl) ?_
            refine lv_topi (fun v9 ev9 => ?_)
            refine lv_istore_n (lv' := [(2, .int v9), (3, .int (nI q3_15)), (0, .ref (ad 0)), (1, .int (nI pn))]) hx hb (dkP dF_61 DX12_unlike (i := 25) rfl rfl) rfl hl (by decide) rfl (fun ls hl => ?_)
            refine lv_iinc (v := nI (q3_15 + 1)) (lv' := [(3, .int (nI (q3_15 + 1))), (2, .int v9), (0, .ref (ad 0)), (1, .int (nI pn))]) hx hb (dkI DX12_unlike (i := 26) rfl rfl rfl rfl) hl (k := 1) rfl (nI_1 _) (by decide) rfl (fun ls hl => ?_)
            refine lv_goto (tgt := 15) hx hb (dkS dF_167 DX12_unlike (i := 27) rfl rfl rfl) (by decide) ?_
            exact ih3 (q3_15 + 1) v9 s6 _ _ _ (by omega) (by (try simp only [lg_cmp_lt, lg_cmp_le, lg_cmp_gt, lg_cmp_ge, lg_cmp_eq] at f1_0); (try simp (disch := omega) only [ta_lt, ta_le, ta_eq, tb_lt, tb_le, tb_eq, tw, tnI, tsub1, tsv, tn32 1 (by decide), tnj 1 (by decide), tl32 0 (by decide), tl64 0 (by decide), tl32 1 (by decide), tl64 1 (by decide)] at f1_0); (try simp only [lg_cmp_lt, lg_cmp_le, lg_cmp_gt, lg_cmp_ge, lg_cmp_eq] at hc1); (try simp (disch := omega) only [ta_lt, ta_le, ta_eq, tb_lt, tb_le, tb_eq, tw, tnI, tsub1, tsv, tn32 1 (by decide), tnj 1 (by decide), tl32 0 (by decide), tl64 0 (by decide), tl32 1 (by decide), tl64 1 (by decide)] at hc1); (try simp only [lg_cmp_lt, lg_cmp_le, lg_cmp_gt, lg_cmp_ge, lg_cmp_eq] at c5); (try simp (disch := omega) only [ta_lt, ta_le, ta_eq, tb_lt, tb_le, tb_eq, tw, tnI, tsub1, tsv, tn32 1 (by decide), tnj 1 (by decide), tl32 0 (by decide), tl64 0 (by decide), tl32 1 (by decide), tl64 1 (by decide)] at c5); (try simp only [lg_cmp_lt, lg_cmp_le, lg_cmp_gt, lg_cmp_ge, lg_cmp_eq] at c7); (try simp (disch := omega) only [ta_lt, ta_le, ta_eq, tb_lt, tb_le, tb_eq, tw, tnI, tsub1, tsv, tn32 1 (by decide), tnj 1 (by decide), tl32 0 (by decide), tl64 0 (by decide), tl32 1 (by decide), tl64 1 (by decide)] at c7); (try simp (disch := omega) only [ta_lt, ta_le, ta_eq, tb_lt, tb_le, tb_eq, tw, tnI, tsub1, tsv, tn32 1 (by decide), tnj 1 (by decide), tl32 0 (by decide), tl64 0 (by decide), tl32 1 (by decide), tl64 1 (by decide)]); omega) hT6 hF6 hw (lv_sub hl [0, 1, 2, 3] rfl)
    exact lp3 _ 0 0 σ _ _ _ (Nat.lt_succ_self _) (by (try simp only [lg_cmp_lt, lg_cmp_le, lg_cmp_gt, lg_cmp_ge, lg_cmp_eq] at f1_0); (try simp (disch := omega) only [ta_lt, ta_le, ta_eq, tb_lt, tb_le, tb_eq, tw, tnI, tsub1, tsv, tn32 1 (by decide), tnj 1 (by decide), tl32 0 (by decide), tl64 0 (by decide), tl32 1 (by decide), tl64 1 (by decide)] at f1_0); (try simp only [lg_cmp_lt, lg_cmp_le, lg_cmp_gt, lg_cmp_ge, lg_cmp_eq] at hc1); (try simp (disch := omega) only [ta_lt, ta_le, ta_eq, tb_lt, tb_le, tb_eq, tw, tnI, tsub1, tsv, tn32 1 (by decide), tnj 1 (by decide), tl32 0 (by decide), tl64 0 (by decide), tl32 1 (by decide), tl64 1 (by decide)] at hc1); (try simp (disch := omega) only [ta_lt, ta_le, ta_eq, tb_lt, tb_le, tb_eq, tw, tnI, tsub1, tsv, tn32 1 (by decide), tnj 1 (by decide), tl32 0 (by decide), tl64 0 (by decide), tl32 1 (by decide), tl64 1 (by decide)]); omega) hT fr.refl hw (lv_sub hl [0, 1, 2, 3] rfl)
  · skip
    refine lv_if_ne (tgt := 11) hx hb (dkS dF_154 DX12_unlike (i := 3) rfl rfl rfl) (by decide) (fun h => absurd h (by decide)) (fun _ => ?_)
    refine lv_bipush (v := (-2)) hx hb (dks dF_16 DX12_unlike (i := 4) rfl rfl rfl) (by decide) ?_
    exact z_iret C0 hr hlk hw (⟨hT, fr.refl⟩) (dkP dF_172 DX12_unlike (i := 5) rfl rfl)
set_option maxRecDepth 100000 in
set_option maxHeartbeats 8000000 in
theorem c_X12_parts (l : Launch) (G : va_G) (kc : KC) (ad : Nat → Nat) (σ : Sg) (program : Int32) (from0 : Int32) (hT : TM σ) : MI l G kc yX12_parts cX12_parts 4 (some .int) 5 113 [.ref (ad 0), .int program, .int from0] shM ad σ (fun r σ1 => TM σ1 ∧ fr true [11, 12, 13, 14] [23, 25] σ σ1) := by
  intro sz
  refine z_body (y := yX12_parts) (n := 4) (av := [.ref (ad 0), .int program, .int from0]) (Qc := fun A => va_Qi (fun r σ1 => TM σ1 ∧ fr true [11, 12, 13, 14] [23, 25] σ σ1) (PoC G kc shM ad A) A) (plainFor_of_name (by decide)) (Nat.le_of_ble_eq_true rfl) (fun pr e s m below meth c A C0 hr hlk hnm hw hRo ls hl => ?_) sz
  have hx := C0.1
  have hb := C0.2.1
  have hown := C0.2.2.2.1
  have hts := C0.2.2.2.2.1
  have hl : lv_has ls 4 [(0, .ref (ad 0)), (1, .int program), (2, .int from0)] := hl
  refine lv_aload_n hx hb (dkP dF_42 DX12_parts (i := 0) rfl rfl) rfl (lv_at hl 0 rfl) ?_
  refine lv_iload_n hx hb (dkP dF_27 DX12_parts (i := 1) rfl rfl) rfl (lv_at hl 1 rfl) ?_
  refine zk_I hw (zr_V (As := [.int program]) (rest := []) C0 (c_X12_hasBoth l G kc ad σ program hT _) cv_X12_hasBoth lk_X12_435 (zp_V C0 hRo hw 0 rfl rfl rfl) rfl hl.1 rfl ⟨by decide, by decide⟩ (Nat.le_of_ble_eq_true rfl) (dk2 dF_182 DX12_parts (i := 2) rfl rfl rfl) ⟨Nat.le_refl _, Nat.le_refl _⟩) (fun r1 s1 H locs hp hw => ?_)
  obtain ⟨f1_0, hs1⟩ := hp
  (rw [hs1] at hw)
  rcases f1_0 with ⟨rfl, hc1⟩ | ⟨rfl, hc1⟩
  · skip
    refine lv_if_eq (tgt := 17) hx hb (dkS dF_153 DX12_parts (i := 3) rfl rfl rfl) (by decide) (fun h => absurd h (by decide)) (fun _ => ?_)
    obtain ⟨pn, hpn, rfl⟩ := to_nat (x := program) (n := 8) (by (try simp only [lg_cmp_lt, lg_cmp_le, lg_cmp_gt, lg_cmp_ge, lg_cmp_eq] at f1_0); (try simp (disch := omega) only [ta_lt, ta_le, ta_eq, tb_lt, tb_le, tb_eq, tw, tnI, tsub1, tsv, tn32 1 (by decide), tnj 1 (by decide), tl32 0 (by decide), tl64 0 (by decide)] at f1_0); (try simp only [lg_cmp_lt, lg_cmp_le, lg_cmp_gt, lg_cmp_ge, lg_cmp_eq] at hc1); (try simp (disch := omega) only [ta_lt, ta_le, ta_eq, tb_lt, tb_le, tb_eq, tw, tnI, tsub1, tsv, tn32 1 (by decide), tnj 1 (by decide), tl32 0 (by decide), tl64 0 (by decide)] at hc1); (try simp (disch := omega) only [ta_lt, ta_le, ta_eq, tb_lt, tb_le, tb_eq, tw, tnI, tsub1, tsv, tn32 1 (by decide), tnj 1 (by decide), tl32 0 (by decide), tl64 0 (by decide)]); omega)
    refine lv_aload_n hx hb (dkP dF_42 DX12_parts (i := 4) rfl rfl) rfl (lv_at hl 0 rfl) ?_
    refine lv_iload_n hx hb (dkP dF_27 DX12_parts (i := 5) rfl rfl) rfl (lv_at hl 1 rfl) ?_
    refine lv_iload_n hx hb (dkP dF_28 DX12_parts (i := 6) rfl rfl) rfl (lv_at hl 2 rfl) ?_
    refine zk_I hw (zr_V (As := [.int (nI pn), .int from0]) (rest := []) C0 (c_X12_isInput l G kc ad σ pn from0 (by first | omega | assumption | decide | rfl) hT _) cv_X12_isInput lk_X12_369 (zp_V C0 hRo hw 0 rfl rfl rfl) rfl hl.1 rfl ⟨by decide, by decide⟩ (Nat.le_of_ble_eq_true rfl) (dk2 dF_182 DX12_parts (i := 7) rfl rfl rfl) ⟨Nat.le_refl _, Nat.le_refl _⟩) (fun r2 s2 H locs hp hw => ?_)
    obtain ⟨f2_0, hs2⟩ := hp
    (rw [hs2] at hw)
    rcases f2_0 with ⟨rfl, hc2⟩ | ⟨rfl, hc2⟩
    · skip
      refine lv_if_ne (tgt := 20) hx hb (dkS dF_154 DX12_parts (i := 8) rfl rfl rfl) (by decide) (fun _ => ?_) (fun h => absurd h (by decide))
      obtain ⟨fn, hfn, rfl⟩ := to_nat (x := from0) (n := 2147483648) (by have hz0 := i32b from0; (try simp only [lg_cmp_lt, lg_cmp_le, lg_cmp_gt, lg_cmp_ge, lg_cmp_eq] at f1_0); (try simp (disch := omega) only [ta_lt, ta_le, ta_eq, tb_lt, tb_le, tb_eq, tw, tnI, tsub1, tsv, tn32 1 (by decide), tnj 1 (by decide), tl32 0 (by decide), tl64 0 (by decide)] at f1_0); (try simp only [lg_cmp_lt, lg_cmp_le, lg_cmp_gt, lg_cmp_ge, lg_cmp_eq] at hc1); (try simp (disch := omega) only [ta_lt, ta_le, ta_eq, tb_lt, tb_le, tb_eq, tw, tnI, tsub1, tsv, tn32 1 (by decide), tnj 1 (by decide), tl32 0 (by decide), tl64 0 (by decide)] at hc1); (try simp only [lg_cmp_lt, lg_cmp_le, lg_cmp_gt, lg_cmp_ge, lg_cmp_eq] at f2_0); (try simp (disch := omega) only [ta_lt, ta_le, ta_eq, tb_lt, tb_le, tb_eq, tw, tnI, tsub1, tsv, tn32 1 (by decide), tnj 1 (by decide), tl32 0 (by decide), tl64 0 (by decide)] at f2_0); (try simp only [lg_cmp_lt, lg_cmp_le, lg_cmp_gt, lg_cmp_ge, lg_cmp_eq] at hc2); (try simp (disch := omega) only [ta_lt, ta_le, ta_eq, tb_lt, tb_le, tb_eq, tw, tnI, tsub1, tsv, tn32 1 (by decide), tnj 1 (by decide), tl32 0 (by decide), tl64 0 (by decide)] at hc2); (try simp (disch := omega) only [ta_lt, ta_le, ta_eq, tb_lt, tb_le, tb_eq, tw, tnI, tsub1, tsv, tn32 1 (by decide), tnj 1 (by decide), tl32 0 (by decide), tl64 0 (by decide)]); omega)
      refine lv_iload_n hx hb (dkP dF_28 DX12_parts (i := 11) rfl rfl) rfl (lv_at hl 2 rfl) ?_
      refine lv_istore_n (lv' := [(3, .int (nI fn)), (0, .ref (ad 0)), (1, .int (nI pn)), (2, .int (nI fn))]) hx hb (dkP dF_62 DX12_parts (i := 12) rfl rfl) rfl hl (by decide) rfl (fun ls hl => ?_)
      have lp4 : ∀ (nq : Nat) (q3_22 : Nat) (τ3 : Sg) (H : Heap) (locs : List Loc) (ls : Array Slot), 2147483647 - q3_22 < nq → (q3_22 ≤ 2147483647) → (TM τ3) → (fr true [11, 12, 13, 14] [23, 25] σ τ3) → St G kc A s.heap shM ad τ3 H locs → lv_has ls 4 [(3, .int (nI q3_22)), (0, .ref (ad 0)), (1, .int (nI pn)), (2, .int (nI fn))] → W pr l e { frames := 5, cells := 0, slots := 0, locals := 113 } s m ([.ref (ad 0), .int (nI pn), .int (nI fn)] : List Value).toArray below meth c H locs 0 0 (MQ below (va_Qi (fun r σ1 => TM σ1 ∧ fr true [11, 12, 13, 14] [23, 25] σ σ1) (PoC G kc shM ad A) A) ([.ref (ad 0), .int (nI pn), .int (nI fn)] : List Value).toArray s 0 0 A) (F0 m 22 ls []) := by
        intro nq
        induction nq with
        | zero => intro q3_22 τ3 H locs ls hmu; exact absurd hmu (Nat.not_lt_zero _)
        | succ nq ih4 =>
          intro q3_22 τ3 H locs ls hmu hq3_22 hT_τ3 hF_τ3 hw hl
          refine lv_iload_n hx hb (dkP dF_29 DX12_parts (i := 13) rfl rfl) rfl (lv_at hl 0 rfl) ?_
          refine lv_aload_n hx hb (dkP dF_42 DX12_parts (i := 14) rfl rfl) rfl (lv_at hl 1 rfl) ?_
          refine lv_iload_n hx hb (dkP dF_27 DX12_parts (i := 15) rfl rfl) rfl (lv_at hl 2 rfl) ?_
          refine zk_I hw (zr_V (As := [.int (nI pn)]) (rest := [.int (nI q3_22)]) C0 (c_X12_inputsOf l G kc ad τ3 pn (by first | omega | assumption | decide | rfl) hT_τ3 _) cv_X12_inputsOf lk_X12_339 (zp_V C0 hRo hw 0 rfl rfl rfl) rfl hl.1 rfl ⟨by decide, by decide⟩ (Nat.le_of_ble_eq_true rfl) (dk2 dF_182 DX12_parts (i := 16) rfl rfl rfl) ⟨Nat.le_refl _, Nat.le_refl _⟩) (fun r5 s5 H locs hp hw => ?_)
          have hs5 := hp
          (rw [hs5] at hw)
          refine lv_icmp_ge (tgt := 48) hx hb (dkS dF_162 DX12_parts (i := 17) rfl rfl rfl) (by decide) (fun c6 => ?_) (fun c6 => ?_)
          · (try simp (disch := omega) only [ta_lt, ta_le, ta_eq, tnI] at c6); have hz6 := i32b r5
            refine lv_iconst (v := (-1)) hx hb (dkP dF_2 DX12_parts (i := 27) rfl rfl) (by decide) ?_
            exact z_iret C0 hr hlk hw (⟨hT_τ3, hF_τ3⟩) (dkP dF_172 DX12_parts (i := 28) rfl rfl)
          · (try simp (disch := omega) only [ta_lt, ta_le, ta_eq, tnI] at c6); have hz6 := i32b r5
            refine lv_aload_n hx hb (dkP dF_42 DX12_parts (i := 18) rfl rfl) rfl (lv_at hl 1 rfl) ?_
            refine lv_iload_n hx hb (dkP dF_27 DX12_parts (i := 19) rfl rfl) rfl (lv_at hl 2 rfl) ?_
            refine lv_iload_n hx hb (dkP dF_29 DX12_parts (i := 20) rfl rfl) rfl (lv_at hl 0 rfl) ?_
            refine zk_I hw (zr_V (As := [.int (nI pn), .int (nI q3_22)]) (rest := []) C0 (c_X12_unlikeAt l G kc ad τ3 pn (nI q3_22) (by first | omega | assumption | decide | rfl) hT_τ3 _) cv_X12_unlikeAt lk_X12_438 (zp_V C0 hRo hw 0 rfl rfl rfl) rfl hl.1 rfl ⟨by decide, by decide⟩ (Nat.le_of_ble_eq_true rfl) (dk2 dF_182 DX12_parts (i := 21) rfl rfl rfl) ⟨Nat.le_refl _, Nat.le_refl _⟩) (fun r7 s7 H locs hp hw => ?_)
            obtain ⟨hT7, hG7⟩ := hp
            have hF7 : fr true [11, 12, 13, 14] [23, 25] σ s7 := fr.t hF_τ3 hG7 (by decide) (by decide) (by decide)
            refine lv_if_eq (tgt := 42) hx hb (dkS dF_153 DX12_parts (i := 22) rfl rfl rfl) (by decide) (fun c8 => ?_) (fun c8 => ?_)
            · (try simp (disch := omega) only [ta_lt, ta_le, ta_eq, tnI, tl32 0 (by decide)] at c8)
              refine lv_iinc (v := nI (q3_22 + 1)) (lv' := [(3, .int (nI (q3_22 + 1))), (0, .ref (ad 0)), (1, .int (nI pn)), (2, .int (nI fn))]) hx hb (dkI DX12_parts (i := 25) rfl rfl rfl rfl) hl (k := 0) rfl (nI_1 _) (by decide) rfl (fun ls hl => ?_)
              refine lv_goto (tgt := 22) hx hb (dkS dF_167 DX12_parts (i := 26) rfl rfl rfl) (by decide) ?_
              exact ih4 (q3_22 + 1) s7 _ _ _ (by omega) (by (try simp only [lg_cmp_lt, lg_cmp_le, lg_cmp_gt, lg_cmp_ge, lg_cmp_eq] at f1_0); (try simp (disch := omega) only [ta_lt, ta_le, ta_eq, tb_lt, tb_le, tb_eq, tw, tnI, tsub1, tsv, tn32 1 (by decide), tnj 1 (by decide), tl32 0 (by decide), tl64 0 (by decide)] at f1_0); (try simp only [lg_cmp_lt, lg_cmp_le, lg_cmp_gt, lg_cmp_ge, lg_cmp_eq] at hc1); (try simp (disch := omega) only [ta_lt, ta_le, ta_eq, tb_lt, tb_le, tb_eq, tw, tnI, tsub1, tsv, tn32 1 (by decide), tnj 1 (by decide), tl32 0 (by decide), tl64 0 (by decide)] at hc1); (try simp only [lg_cmp_lt, lg_cmp_le, lg_cmp_gt, lg_cmp_ge, lg_cmp_eq] at f2_0); (try simp (disch := omega) only [ta_lt, ta_le, ta_eq, tb_lt, tb_le, tb_eq, tw, tnI, tsub1, tsv, tn32 1 (by decide), tnj 1 (by decide), tl32 0 (by decide), tl64 0 (by decide)] at f2_0); (try simp only [lg_cmp_lt, lg_cmp_le, lg_cmp_gt, lg_cmp_ge, lg_cmp_eq] at hc2); (try simp (disch := omega) only [ta_lt, ta_le, ta_eq, tb_lt, tb_le, tb_eq, tw, tnI, tsub1, tsv, tn32 1 (by decide), tnj 1 (by decide), tl32 0 (by decide), tl64 0 (by decide)] at hc2); (try simp only [lg_cmp_lt, lg_cmp_le, lg_cmp_gt, lg_cmp_ge, lg_cmp_eq] at c6); (try simp (disch := omega) only [ta_lt, ta_le, ta_eq, tb_lt, tb_le, tb_eq, tw, tnI, tsub1, tsv, tn32 1 (by decide), tnj 1 (by decide), tl32 0 (by decide), tl64 0 (by decide)] at c6); (try simp only [lg_cmp_lt, lg_cmp_le, lg_cmp_gt, lg_cmp_ge, lg_cmp_eq] at c8); (try simp (disch := omega) only [ta_lt, ta_le, ta_eq, tb_lt, tb_le, tb_eq, tw, tnI, tsub1, tsv, tn32 1 (by decide), tnj 1 (by decide), tl32 0 (by decide), tl64 0 (by decide)] at c8); (try simp (disch := omega) only [ta_lt, ta_le, ta_eq, tb_lt, tb_le, tb_eq, tw, tnI, tsub1, tsv, tn32 1 (by decide), tnj 1 (by decide), tl32 0 (by decide), tl64 0 (by decide)]); omega) hT7 hF7 hw (lv_sub hl [0, 1, 2, 3] rfl)
            · (try simp (disch := omega) only [ta_lt, ta_le, ta_eq, tnI, tl32 0 (by decide)] at c8)
              refine lv_iload_n hx hb (dkP dF_29 DX12_parts (i := 23) rfl rfl) rfl (lv_at hl 0 rfl) ?_
              exact z_iret C0 hr hlk hw (⟨hT7, hF7⟩) (dkP dF_172 DX12_parts (i := 24) rfl rfl)
      exact lp4 _ fn σ _ _ _ (Nat.lt_succ_self _) (by (try simp only [lg_cmp_lt, lg_cmp_le, lg_cmp_gt, lg_cmp_ge, lg_cmp_eq] at f1_0); (try simp (disch := omega) only [ta_lt, ta_le, ta_eq, tb_lt, tb_le, tb_eq, tw, tnI, tsub1, tsv, tn32 1 (by decide), tnj 1 (by decide), tl32 0 (by decide), tl64 0 (by decide)] at f1_0); (try simp only [lg_cmp_lt, lg_cmp_le, lg_cmp_gt, lg_cmp_ge, lg_cmp_eq] at hc1); (try simp (disch := omega) only [ta_lt, ta_le, ta_eq, tb_lt, tb_le, tb_eq, tw, tnI, tsub1, tsv, tn32 1 (by decide), tnj 1 (by decide), tl32 0 (by decide), tl64 0 (by decide)] at hc1); (try simp only [lg_cmp_lt, lg_cmp_le, lg_cmp_gt, lg_cmp_ge, lg_cmp_eq] at f2_0); (try simp (disch := omega) only [ta_lt, ta_le, ta_eq, tb_lt, tb_le, tb_eq, tw, tnI, tsub1, tsv, tn32 1 (by decide), tnj 1 (by decide), tl32 0 (by decide), tl64 0 (by decide)] at f2_0); (try simp only [lg_cmp_lt, lg_cmp_le, lg_cmp_gt, lg_cmp_ge, lg_cmp_eq] at hc2); (try simp (disch := omega) only [ta_lt, ta_le, ta_eq, tb_lt, tb_le, tb_eq, tw, tnI, tsub1, tsv, tn32 1 (by decide), tnj 1 (by decide), tl32 0 (by decide), tl64 0 (by decide)] at hc2); (try simp (disch := omega) only [ta_lt, ta_le, ta_eq, tb_lt, tb_le, tb_eq, tw, tnI, tsub1, tsv, tn32 1 (by decide), tnj 1 (by decide), tl32 0 (by decide), tl64 0 (by decide)]); omega) hT fr.refl hw (lv_sub hl [0, 1, 2, 3] rfl)
    · skip
      refine lv_if_ne (tgt := 20) hx hb (dkS dF_154 DX12_parts (i := 8) rfl rfl rfl) (by decide) (fun h => absurd h (by decide)) (fun _ => ?_)
      refine lv_bipush (v := (-2)) hx hb (dks dF_16 DX12_parts (i := 9) rfl rfl rfl) (by decide) ?_
      exact z_iret C0 hr hlk hw (⟨hT, fr.refl⟩) (dkP dF_172 DX12_parts (i := 10) rfl rfl)
  · skip
    refine lv_if_eq (tgt := 17) hx hb (dkS dF_153 DX12_parts (i := 3) rfl rfl rfl) (by decide) (fun _ => ?_) (fun h => absurd h (by decide))
    refine lv_bipush (v := (-2)) hx hb (dks dF_16 DX12_parts (i := 9) rfl rfl rfl) (by decide) ?_
    exact z_iret C0 hr hlk hw (⟨hT, fr.refl⟩) (dkP dF_172 DX12_parts (i := 10) rfl rfl)
set_option maxRecDepth 100000 in
set_option maxHeartbeats 8000000 in
theorem c_X12_where (l : Launch) (G : va_G) (kc : KC) (ad : Nat → Nat) (σ : Sg) (program : Int32) (input : Int32) (hT : TM σ) : MI l G kc yX12_where cX12_where 3 (some .int) 5 113 [.ref (ad 0), .int program, .int input] shM ad σ (fun r σ1 => TM σ1 ∧ fr true [11, 12, 13, 14] [23, 25] σ σ1) := by
  intro sz
  refine z_body (y := yX12_where) (n := 3) (av := [.ref (ad 0), .int program, .int input]) (Qc := fun A => va_Qi (fun r σ1 => TM σ1 ∧ fr true [11, 12, 13, 14] [23, 25] σ σ1) (PoC G kc shM ad A) A) (plainFor_of_name (by decide)) (Nat.le_of_ble_eq_true rfl) (fun pr e s m below meth c A C0 hr hlk hnm hw hRo ls hl => ?_) sz
  have hx := C0.1
  have hb := C0.2.1
  have hown := C0.2.2.2.1
  have hts := C0.2.2.2.2.1
  have hl : lv_has ls 3 [(0, .ref (ad 0)), (1, .int program), (2, .int input)] := hl
  refine lv_aload_n hx hb (dkP dF_42 DX12_where (i := 0) rfl rfl) rfl (lv_at hl 0 rfl) ?_
  refine lv_iload_n hx hb (dkP dF_27 DX12_where (i := 1) rfl rfl) rfl (lv_at hl 1 rfl) ?_
  refine zk_I hw (zr_V (As := [.int program]) (rest := []) C0 (c_X12_hasBoth l G kc ad σ program hT _) cv_X12_hasBoth lk_X12_435 (zp_V C0 hRo hw 0 rfl rfl rfl) rfl hl.1 rfl ⟨by decide, by decide⟩ (Nat.le_of_ble_eq_true rfl) (dk2 dF_182 DX12_where (i := 2) rfl rfl rfl) ⟨Nat.le_refl _, Nat.le_refl _⟩) (fun r1 s1 H locs hp hw => ?_)
  obtain ⟨f1_0, hs1⟩ := hp
  (rw [hs1] at hw)
  rcases f1_0 with ⟨rfl, hc1⟩ | ⟨rfl, hc1⟩
  · skip
    refine lv_if_eq (tgt := 26) hx hb (dkS dF_153 DX12_where (i := 3) rfl rfl rfl) (by decide) (fun h => absurd h (by decide)) (fun _ => ?_)
    obtain ⟨pn, hpn, rfl⟩ := to_nat (x := program) (n := 8) (by (try simp only [lg_cmp_lt, lg_cmp_le, lg_cmp_gt, lg_cmp_ge, lg_cmp_eq] at f1_0); (try simp (disch := omega) only [ta_lt, ta_le, ta_eq, tb_lt, tb_le, tb_eq, tw, tnI, tsub1, tsv, tn32 1 (by decide), tnj 1 (by decide), tl32 0 (by decide), tl64 0 (by decide)] at f1_0); (try simp only [lg_cmp_lt, lg_cmp_le, lg_cmp_gt, lg_cmp_ge, lg_cmp_eq] at hc1); (try simp (disch := omega) only [ta_lt, ta_le, ta_eq, tb_lt, tb_le, tb_eq, tw, tnI, tsub1, tsv, tn32 1 (by decide), tnj 1 (by decide), tl32 0 (by decide), tl64 0 (by decide)] at hc1); (try simp (disch := omega) only [ta_lt, ta_le, ta_eq, tb_lt, tb_le, tb_eq, tw, tnI, tsub1, tsv, tn32 1 (by decide), tnj 1 (by decide), tl32 0 (by decide), tl64 0 (by decide)]); omega)
    refine lv_aload_n hx hb (dkP dF_42 DX12_where (i := 4) rfl rfl) rfl (lv_at hl 0 rfl) ?_
    refine lv_iload_n hx hb (dkP dF_27 DX12_where (i := 5) rfl rfl) rfl (lv_at hl 1 rfl) ?_
    refine lv_iload_n hx hb (dkP dF_28 DX12_where (i := 6) rfl rfl) rfl (lv_at hl 2 rfl) ?_
    refine zk_I hw (zr_V (As := [.int (nI pn), .int input]) (rest := []) C0 (c_X12_isInput l G kc ad σ pn input (by first | omega | assumption | decide | rfl) hT _) cv_X12_isInput lk_X12_369 (zp_V C0 hRo hw 0 rfl rfl rfl) rfl hl.1 rfl ⟨by decide, by decide⟩ (Nat.le_of_ble_eq_true rfl) (dk2 dF_182 DX12_where (i := 7) rfl rfl rfl) ⟨Nat.le_refl _, Nat.le_refl _⟩) (fun r2 s2 H locs hp hw => ?_)
    obtain ⟨f2_0, hs2⟩ := hp
    (rw [hs2] at hw)
    rcases f2_0 with ⟨rfl, hc2⟩ | ⟨rfl, hc2⟩
    · skip
      refine lv_if_eq (tgt := 26) hx hb (dkS dF_153 DX12_where (i := 8) rfl rfl rfl) (by decide) (fun h => absurd h (by decide)) (fun _ => ?_)
      refine lv_aload_n hx hb (dkP dF_42 DX12_where (i := 9) rfl rfl) rfl (lv_at hl 0 rfl) ?_
      refine lv_iload_n hx hb (dkP dF_27 DX12_where (i := 10) rfl rfl) rfl (lv_at hl 1 rfl) ?_
      refine lv_iload_n hx hb (dkP dF_28 DX12_where (i := 11) rfl rfl) rfl (lv_at hl 2 rfl) ?_
      refine zk_I hw (zr_V (As := [.int (nI pn), .int input]) (rest := []) C0 (c_X12_unlikeAt l G kc ad σ pn input (by first | omega | assumption | decide | rfl) hT _) cv_X12_unlikeAt lk_X12_438 (zp_V C0 hRo hw 0 rfl rfl rfl) rfl hl.1 rfl ⟨by decide, by decide⟩ (Nat.le_of_ble_eq_true rfl) (dk2 dF_182 DX12_where (i := 12) rfl rfl rfl) ⟨Nat.le_refl _, Nat.le_refl _⟩) (fun r3 s3 H locs hp hw => ?_)
      obtain ⟨hT3, hG3⟩ := hp
      have hF3 : fr true [11, 12, 13, 14] [23, 25] σ s3 := fr.t fr.refl hG3 (by decide) (by decide) (by decide)
      refine lv_goto (tgt := 28) hx hb (dkS dF_167 DX12_where (i := 13) rfl rfl rfl) (by decide) ?_
      exact z_iret C0 hr hlk hw (⟨hT3, hF3⟩) (dkP dF_172 DX12_where (i := 15) rfl rfl)
    · skip
      refine lv_if_eq (tgt := 26) hx hb (dkS dF_153 DX12_where (i := 8) rfl rfl rfl) (by decide) (fun _ => ?_) (fun h => absurd h (by decide))
      refine lv_bipush (v := (-2)) hx hb (dks dF_16 DX12_where (i := 14) rfl rfl rfl) (by decide) ?_
      exact z_iret C0 hr hlk hw (⟨hT, fr.refl⟩) (dkP dF_172 DX12_where (i := 15) rfl rfl)
  · skip
    refine lv_if_eq (tgt := 26) hx hb (dkS dF_153 DX12_where (i := 3) rfl rfl rfl) (by decide) (fun _ => ?_) (fun h => absurd h (by decide))
    refine lv_bipush (v := (-2)) hx hb (dks dF_16 DX12_where (i := 14) rfl rfl rfl) (by decide) ?_
    exact z_iret C0 hr hlk hw (⟨hT, fr.refl⟩) (dkP dF_172 DX12_where (i := 15) rfl rfl)
set_option maxRecDepth 100000 in
set_option maxHeartbeats 8000000 in
theorem c_X12_heapFor (l : Launch) (G : va_G) (kc : KC) (ad : Nat → Nat) (σ : Sg) (pg : Nat) (line : Int32) (cs : Int32) (bits : Int32) (input : Int32) (hp8 : pg < 8) (hT : TM σ) : MI l G kc yX12_heapFor cX12_heapFor 8 (some .int) 0 0 [.ref (ad 0), .int (nI pg), .int line, .int cs, .int bits, .int input] shM ad σ (fun r σ1 => (-1 ≤ r.toInt ∧ r.toInt ≤ 59) ∧ TM σ1 ∧ fr true [1] [] σ σ1) := by
  intro sz
  refine z_body (y := yX12_heapFor) (n := 8) (av := [.ref (ad 0), .int (nI pg), .int line, .int cs, .int bits, .int input]) (Qc := fun A => va_Qi (fun r σ1 => (-1 ≤ r.toInt ∧ r.toInt ≤ 59) ∧ TM σ1 ∧ fr true [1] [] σ σ1) (PoC G kc shM ad A) A) (plainFor_of_name (by decide)) (Nat.le_of_ble_eq_true rfl) (fun pr e s m below meth c A C0 hr hlk hnm hw hRo ls hl => ?_) sz
  have hx := C0.1
  have hb := C0.2.1
  have hown := C0.2.2.2.1
  have hts := C0.2.2.2.2.1
  have hl : lv_has ls 8 [(0, .ref (ad 0)), (1, .int (nI pg)), (2, .int line), (3, .int cs), (4, .int bits), (5, .int input)] := hl
  refine lv_iconst (v := 0) hx hb (dkP dF_3 DX12_heapFor (i := 0) rfl rfl) (by decide) ?_
  refine lv_istore (lv' := [(6, .int 0), (0, .ref (ad 0)), (1, .int (nI pg)), (2, .int line), (3, .int cs), (4, .int bits), (5, .int input)]) hx hb (dk1 dF_54 DX12_heapFor (i := 1) rfl rfl rfl) hl (by decide) rfl (fun ls hl => ?_)
  have lp1 : ∀ (nq : Nat) (q6_3 : Nat) (H : Heap) (locs : List Loc) (ls : Array Slot), 60 - q6_3 < nq → (q6_3 ≤ 60) → St G kc A s.heap shM ad σ H locs → lv_has ls 8 [(6, .int (nI q6_3)), (0, .ref (ad 0)), (1, .int (nI pg)), (2, .int line), (3, .int cs), (4, .int bits), (5, .int input)] → W pr l e { frames := 0, cells := 0, slots := 0, locals := 0 } s m ([.ref (ad 0), .int (nI pg), .int line, .int cs, .int bits, .int input] : List Value).toArray below meth c H locs 0 0 (MQ below (va_Qi (fun r σ1 => (-1 ≤ r.toInt ∧ r.toInt ≤ 59) ∧ TM σ1 ∧ fr true [1] [] σ σ1) (PoC G kc shM ad A) A) ([.ref (ad 0), .int (nI pg), .int line, .int cs, .int bits, .int input] : List Value).toArray s 0 0 A) (F0 m 3 ls []) := by
    intro nq
    induction nq with
    | zero => intro q6_3 H locs ls hmu; exact absurd hmu (Nat.not_lt_zero _)
    | succ nq ih1 =>
      intro q6_3 H locs ls hmu hq6_3 hw hl
      refine lv_iload hx hb (dk1 dF_21 DX12_heapFor (i := 2) rfl rfl rfl) (lv_at hl 0 rfl) ?_
      refine lv_aload_n hx hb (dkP dF_42 DX12_heapFor (i := 3) rfl rfl) rfl (lv_at hl 1 rfl) ?_
      refine z_gr C0 hw 0 1 1 rfl fl_X12_20 (dk2 dF_180 DX12_heapFor (i := 4) rfl rfl rfl) ?_
      refine lv_iconst (v := 2) hx hb (dkP dF_5 DX12_heapFor (i := 5) rfl rfl) (by decide) ?_
      refine z_ialdN (n := 414128) C0 hw 1 2 rfl (by omega) (by decide) (dkP dF_46 DX12_heapFor (i := 6) rfl rfl) ?_
      obtain ⟨n2, hn2, en2⟩ := rngN (x := σ.1 1 2) (h := 60) (show 0 ≤ _ ∧ _ ≤ 60 from hT 1 2)
      refine z_top (y := nI n2) en2 ?_
      refine lv_icmp_ge (tgt := 85) hx hb (dkS dF_162 DX12_heapFor (i := 7) rfl rfl rfl) (by decide) (fun c3 => ?_) (fun c3 => ?_)
      · simp (disch := omega) only [ta_lt, ta_le, ta_eq, tnI] at c3
        refine lv_aload_n hx hb (dkP dF_42 DX12_heapFor (i := 48) rfl rfl) rfl (lv_at hl 1 rfl) ?_
        refine z_gr C0 hw 0 1 1 rfl fl_X12_20 (dk2 dF_180 DX12_heapFor (i := 49) rfl rfl rfl) ?_
        refine lv_iconst (v := 2) hx hb (dkP dF_5 DX12_heapFor (i := 50) rfl rfl) (by decide) ?_
        refine z_ialdN (n := 414128) C0 hw 1 2 rfl (by omega) (by decide) (dkP dF_46 DX12_heapFor (i := 51) rfl rfl) ?_
        refine z_top (y := (nI n2)) en2 ?_
        refine lv_bipush (v := 60) hx hb (dks dF_16 DX12_heapFor (i := 52) rfl rfl rfl) (by decide) ?_
        refine lv_icmp_ne (tgt := 98) hx hb (dkS dF_160 DX12_heapFor (i := 53) rfl rfl rfl) (by decide) (fun c4 => ?_) (fun c4 => ?_)
        · simp (disch := omega) only [ta_lt, ta_le, ta_eq, tnI, tl32 60 (by decide)] at c4
          refine lv_ldcw hx hb hown (hts _ kn_X12_441) (dk2 dF_19 DX12_heapFor (i := 56) rfl rfl rfl) ?_
          refine lv_bipush (v := 7) hx hb (dks dF_16 DX12_heapFor (i := 57) rfl rfl rfl) (by decide) ?_
          refine lv_aload_n hx hb (dkP dF_42 DX12_heapFor (i := 58) rfl rfl) rfl (lv_at hl 1 rfl) ?_
          refine z_gr C0 hw 0 1 1 rfl fl_X12_20 (dk2 dF_180 DX12_heapFor (i := 59) rfl rfl rfl) ?_
          refine lv_iconst (v := 2) hx hb (dkP dF_5 DX12_heapFor (i := 60) rfl rfl) (by decide) ?_
          refine z_ialdN (n := 414128) C0 hw 1 2 rfl (by omega) (by decide) (dkP dF_46 DX12_heapFor (i := 61) rfl rfl) ?_
          refine z_top (y := (nI n2)) en2 ?_
          refine lv_imul hx hb (dkP dF_104 DX12_heapFor (i := 62) rfl rfl) ?_
          refine z_top (y := nI (7 * n2)) (by simp only [fa_lit, nI_add, pk_mul]) ?_
          refine lv_iadd hx hb (dkP dF_96 DX12_heapFor (i := 63) rfl rfl) ?_
          refine z_top (y := nI (413608 + (7 * n2))) (by simp only [fa_lit, nI_add, pk_mul]) ?_
          refine lv_istore (lv' := [(6, .int (nI (413608 + (7 * n2)))), (0, .ref (ad 0)), (1, .int (nI pg)), (2, .int line), (3, .int cs), (4, .int bits), (5, .int input)]) hx hb (dk1 dF_54 DX12_heapFor (i := 64) rfl rfl rfl) hl (by decide) rfl (fun ls hl => ?_)
          refine lv_aload_n hx hb (dkP dF_42 DX12_heapFor (i := 65) rfl rfl) rfl (lv_at hl 1 rfl) ?_
          refine z_gr C0 hw 0 1 1 rfl fl_X12_20 (dk2 dF_180 DX12_heapFor (i := 66) rfl rfl rfl) ?_
          refine lv_iload hx hb (dk1 dF_21 DX12_heapFor (i := 67) rfl rfl rfl) (lv_at hl 0 rfl) ?_
          refine lv_iload_n hx hb (dkP dF_27 DX12_heapFor (i := 68) rfl rfl) rfl (lv_at hl 2 rfl) ?_
          refine z_iastN (n := 414128) C0 hw 1 (413608 + (7 * n2)) rfl (by omega) (by decide) (dkP dF_79 DX12_heapFor (i := 69) rfl rfl) (fun H locs hw => ?_)
          have hT5 : TM (sI σ 1 (413608 + (7 * n2)) (nI pg)) := TM.w hT (ty_hi (by omega))
          have hF5 : fr true [1] [] σ (sI σ 1 (413608 + (7 * n2)) (nI pg)) := fr.w fr.refl (Or.inl ⟨by decide, by decide⟩) (fun _ _ => by unfold KR; omega)
          refine lv_aload_n hx hb (dkP dF_42 DX12_heapFor (i := 70) rfl rfl) rfl (lv_at hl 1 rfl) ?_
          refine z_gr C0 hw 0 1 1 rfl fl_X12_20 (dk2 dF_180 DX12_heapFor (i := 71) rfl rfl rfl) ?_
          refine lv_iload hx hb (dk1 dF_21 DX12_heapFor (i := 72) rfl rfl rfl) (lv_at hl 0 rfl) ?_
          refine lv_iconst (v := 1) hx hb (dkP dF_4 DX12_heapFor (i := 73) rfl rfl) (by decide) ?_
          refine lv_iadd hx hb (dkP dF_96 DX12_heapFor (i := 74) rfl rfl) ?_
          refine z_top (y := nI ((413608 + (7 * n2)) + 1)) (by simp only [fa_lit, nI_add, pk_mul]) ?_
          refine lv_iload_n hx hb (dkP dF_28 DX12_heapFor (i := 75) rfl rfl) rfl (lv_at hl 3 rfl) ?_
          refine z_iastN (n := 414128) C0 hw 1 ((413608 + (7 * n2)) + 1) rfl (by omega) (by decide) (dkP dF_79 DX12_heapFor (i := 76) rfl rfl) (fun H locs hw => ?_)
          have hT6 : TM (sI (sI σ 1 (413608 + (7 * n2)) (nI pg)) 1 ((413608 + (7 * n2)) + 1) line) := TM.w hT5 (ty_hi (by omega))
          have hF6 : fr true [1] [] σ (sI (sI σ 1 (413608 + (7 * n2)) (nI pg)) 1 ((413608 + (7 * n2)) + 1) line) := fr.w hF5 (Or.inl ⟨by decide, by decide⟩) (fun _ _ => by unfold KR; omega)
          refine lv_aload_n hx hb (dkP dF_42 DX12_heapFor (i := 77) rfl rfl) rfl (lv_at hl 1 rfl) ?_
          refine z_gr C0 hw 0 1 1 rfl fl_X12_20 (dk2 dF_180 DX12_heapFor (i := 78) rfl rfl rfl) ?_
          refine lv_iload hx hb (dk1 dF_21 DX12_heapFor (i := 79) rfl rfl rfl) (lv_at hl 0 rfl) ?_
          refine lv_iconst (v := 2) hx hb (dkP dF_5 DX12_heapFor (i := 80) rfl rfl) (by decide) ?_
          refine lv_iadd hx hb (dkP dF_96 DX12_heapFor (i := 81) rfl rfl) ?_
          refine z_top (y := nI ((413608 + (7 * n2)) + 2)) (by simp only [fa_lit, nI_add, pk_mul]) ?_
          refine lv_iload_n hx hb (dkP dF_29 DX12_heapFor (i := 82) rfl rfl) rfl (lv_at hl 4 rfl) ?_
          refine z_iastN (n := 414128) C0 hw 1 ((413608 + (7 * n2)) + 2) rfl (by omega) (by decide) (dkP dF_79 DX12_heapFor (i := 83) rfl rfl) (fun H locs hw => ?_)
          have hT7 : TM (sI (sI (sI σ 1 (413608 + (7 * n2)) (nI pg)) 1 ((413608 + (7 * n2)) + 1) line) 1 ((413608 + (7 * n2)) + 2) cs) := TM.w hT6 (ty_hi (by omega))
          have hF7 : fr true [1] [] σ (sI (sI (sI σ 1 (413608 + (7 * n2)) (nI pg)) 1 ((413608 + (7 * n2)) + 1) line) 1 ((413608 + (7 * n2)) + 2) cs) := fr.w hF6 (Or.inl ⟨by decide, by decide⟩) (fun _ _ => by unfold KR; omega)
          refine lv_aload_n hx hb (dkP dF_42 DX12_heapFor (i := 84) rfl rfl) rfl (lv_at hl 1 rfl) ?_
          refine z_gr C0 hw 0 1 1 rfl fl_X12_20 (dk2 dF_180 DX12_heapFor (i := 85) rfl rfl rfl) ?_
          refine lv_iload hx hb (dk1 dF_21 DX12_heapFor (i := 86) rfl rfl rfl) (lv_at hl 0 rfl) ?_
          refine lv_iconst (v := 3) hx hb (dkP dF_6 DX12_heapFor (i := 87) rfl rfl) (by decide) ?_
          refine lv_iadd hx hb (dkP dF_96 DX12_heapFor (i := 88) rfl rfl) ?_
          refine z_top (y := nI ((413608 + (7 * n2)) + 3)) (by simp only [fa_lit, nI_add, pk_mul]) ?_
          refine lv_iload hx hb (dk1 dF_21 DX12_heapFor (i := 89) rfl rfl rfl) (lv_at hl 5 rfl) ?_
          refine z_iastN (n := 414128) C0 hw 1 ((413608 + (7 * n2)) + 3) rfl (by omega) (by decide) (dkP dF_79 DX12_heapFor (i := 90) rfl rfl) (fun H locs hw => ?_)
          have hT8 : TM (sI (sI (sI (sI σ 1 (413608 + (7 * n2)) (nI pg)) 1 ((413608 + (7 * n2)) + 1) line) 1 ((413608 + (7 * n2)) + 2) cs) 1 ((413608 + (7 * n2)) + 3) bits) := TM.w hT7 (ty_hi (by omega))
          have hF8 : fr true [1] [] σ (sI (sI (sI (sI σ 1 (413608 + (7 * n2)) (nI pg)) 1 ((413608 + (7 * n2)) + 1) line) 1 ((413608 + (7 * n2)) + 2) cs) 1 ((413608 + (7 * n2)) + 3) bits) := fr.w hF7 (Or.inl ⟨by decide, by decide⟩) (fun _ _ => by unfold KR; omega)
          refine lv_aload_n hx hb (dkP dF_42 DX12_heapFor (i := 91) rfl rfl) rfl (lv_at hl 1 rfl) ?_
          refine z_gr C0 hw 0 1 1 rfl fl_X12_20 (dk2 dF_180 DX12_heapFor (i := 92) rfl rfl rfl) ?_
          refine lv_iload hx hb (dk1 dF_21 DX12_heapFor (i := 93) rfl rfl rfl) (lv_at hl 0 rfl) ?_
          refine lv_iconst (v := 4) hx hb (dkP dF_7 DX12_heapFor (i := 94) rfl rfl) (by decide) ?_
          refine lv_iadd hx hb (dkP dF_96 DX12_heapFor (i := 95) rfl rfl) ?_
          refine z_top (y := nI ((413608 + (7 * n2)) + 4)) (by simp only [fa_lit, nI_add, pk_mul]) ?_
          refine lv_iconst (v := 0) hx hb (dkP dF_3 DX12_heapFor (i := 96) rfl rfl) (by decide) ?_
          refine z_iastN (n := 414128) C0 hw 1 ((413608 + (7 * n2)) + 4) rfl (by omega) (by decide) (dkP dF_79 DX12_heapFor (i := 97) rfl rfl) (fun H locs hw => ?_)
          have hT9 : TM (sI (sI (sI (sI (sI σ 1 (413608 + (7 * n2)) (nI pg)) 1 ((413608 + (7 * n2)) + 1) line) 1 ((413608 + (7 * n2)) + 2) cs) 1 ((413608 + (7 * n2)) + 3) bits) 1 ((413608 + (7 * n2)) + 4) 0) := TM.w hT8 (ty_hi (by omega))
          have hF9 : fr true [1] [] σ (sI (sI (sI (sI (sI σ 1 (413608 + (7 * n2)) (nI pg)) 1 ((413608 + (7 * n2)) + 1) line) 1 ((413608 + (7 * n2)) + 2) cs) 1 ((413608 + (7 * n2)) + 3) bits) 1 ((413608 + (7 * n2)) + 4) 0) := fr.w hF8 (Or.inl ⟨by decide, by decide⟩) (fun _ _ => by unfold KR; omega)
          refine lv_aload_n hx hb (dkP dF_42 DX12_heapFor (i := 98) rfl rfl) rfl (lv_at hl 1 rfl) ?_
          refine z_gr C0 hw 0 1 1 rfl fl_X12_20 (dk2 dF_180 DX12_heapFor (i := 99) rfl rfl rfl) ?_
          refine lv_iload hx hb (dk1 dF_21 DX12_heapFor (i := 100) rfl rfl rfl) (lv_at hl 0 rfl) ?_
          refine lv_iconst (v := 5) hx hb (dkP dF_8 DX12_heapFor (i := 101) rfl rfl) (by decide) ?_
          refine lv_iadd hx hb (dkP dF_96 DX12_heapFor (i := 102) rfl rfl) ?_
          refine z_top (y := nI ((413608 + (7 * n2)) + 5)) (by simp only [fa_lit, nI_add, pk_mul]) ?_
          refine lv_iconst (v := 0) hx hb (dkP dF_3 DX12_heapFor (i := 103) rfl rfl) (by decide) ?_
          refine z_iastN (n := 414128) C0 hw 1 ((413608 + (7 * n2)) + 5) rfl (by omega) (by decide) (dkP dF_79 DX12_heapFor (i := 104) rfl rfl) (fun H locs hw => ?_)
          have hT10 : TM (sI (sI (sI (sI (sI (sI σ 1 (413608 + (7 * n2)) (nI pg)) 1 ((413608 + (7 * n2)) + 1) line) 1 ((413608 + (7 * n2)) + 2) cs) 1 ((413608 + (7 * n2)) + 3) bits) 1 ((413608 + (7 * n2)) + 4) 0) 1 ((413608 + (7 * n2)) + 5) 0) := TM.w hT9 (ty_hi (by omega))
          have hF10 : fr true [1] [] σ (sI (sI (sI (sI (sI (sI σ 1 (413608 + (7 * n2)) (nI pg)) 1 ((413608 + (7 * n2)) + 1) line) 1 ((413608 + (7 * n2)) + 2) cs) 1 ((413608 + (7 * n2)) + 3) bits) 1 ((413608 + (7 * n2)) + 4) 0) 1 ((413608 + (7 * n2)) + 5) 0) := fr.w hF9 (Or.inl ⟨by decide, by decide⟩) (fun _ _ => by unfold KR; omega)
          refine lv_aload_n hx hb (dkP dF_42 DX12_heapFor (i := 105) rfl rfl) rfl (lv_at hl 1 rfl) ?_
          refine z_gr C0 hw 0 1 1 rfl fl_X12_20 (dk2 dF_180 DX12_heapFor (i := 106) rfl rfl rfl) ?_
          refine lv_iload hx hb (dk1 dF_21 DX12_heapFor (i := 107) rfl rfl rfl) (lv_at hl 0 rfl) ?_
          refine lv_bipush (v := 6) hx hb (dks dF_16 DX12_heapFor (i := 108) rfl rfl rfl) (by decide) ?_
          refine lv_iadd hx hb (dkP dF_96 DX12_heapFor (i := 109) rfl rfl) ?_
          refine z_top (y := nI ((413608 + (7 * n2)) + 6)) (by simp only [fa_lit, nI_add, pk_mul]) ?_
          refine lv_iload hx hb (dk1 dF_21 DX12_heapFor (i := 110) rfl rfl rfl) (lv_at hl 6 rfl) ?_
          refine z_iastN (n := 414128) C0 hw 1 ((413608 + (7 * n2)) + 6) rfl (by omega) (by decide) (dkP dF_79 DX12_heapFor (i := 111) rfl rfl) (fun H locs hw => ?_)
          have hT11 : TM (sI (sI (sI (sI (sI (sI (sI σ 1 (413608 + (7 * n2)) (nI pg)) 1 ((413608 + (7 * n2)) + 1) line) 1 ((413608 + (7 * n2)) + 2) cs) 1 ((413608 + (7 * n2)) + 3) bits) 1 ((413608 + (7 * n2)) + 4) 0) 1 ((413608 + (7 * n2)) + 5) 0) 1 ((413608 + (7 * n2)) + 6) input) := TM.w hT10 (ty_hi (by omega))
          have hF11 : fr true [1] [] σ (sI (sI (sI (sI (sI (sI (sI σ 1 (413608 + (7 * n2)) (nI pg)) 1 ((413608 + (7 * n2)) + 1) line) 1 ((413608 + (7 * n2)) + 2) cs) 1 ((413608 + (7 * n2)) + 3) bits) 1 ((413608 + (7 * n2)) + 4) 0) 1 ((413608 + (7 * n2)) + 5) 0) 1 ((413608 + (7 * n2)) + 6) input) := fr.w hF10 (Or.inl ⟨by decide, by decide⟩) (fun _ _ => by unfold KR; omega)
          refine lv_aload_n hx hb (dkP dF_42 DX12_heapFor (i := 112) rfl rfl) rfl (lv_at hl 1 rfl) ?_
          refine z_gr C0 hw 0 1 1 rfl fl_X12_20 (dk2 dF_180 DX12_heapFor (i := 113) rfl rfl rfl) ?_
          refine lv_iconst (v := 2) hx hb (dkP dF_5 DX12_heapFor (i := 114) rfl rfl) (by decide) ?_
          refine lv_dup2_11 hx hb (dkP dF_92 DX12_heapFor (i := 115) rfl rfl) rfl rfl ?_
          refine z_ialdN (n := 414128) C0 hw 1 2 rfl (by omega) (by decide) (dkP dF_46 DX12_heapFor (i := 116) rfl rfl) ?_
          refine z_top (y := (nI n2)) ((rd_n (by omega)).trans ((rd_n (by omega)).trans ((rd_n (by omega)).trans ((rd_n (by omega)).trans ((rd_n (by omega)).trans ((rd_n (by omega)).trans ((rd_n (by omega)).trans en2))))))) ?_
          refine lv_iconst (v := 1) hx hb (dkP dF_4 DX12_heapFor (i := 117) rfl rfl) (by decide) ?_
          refine lv_iadd hx hb (dkP dF_96 DX12_heapFor (i := 118) rfl rfl) ?_
          refine z_top (y := nI (n2 + 1)) (by simp only [fa_lit, nI_add, pk_mul]) ?_
          refine z_iastN (n := 414128) C0 hw 1 2 rfl (by omega) (by decide) (dkP dF_79 DX12_heapFor (i := 119) rfl rfl) (fun H locs hw => ?_)
          have hT12 : TM (sI (sI (sI (sI (sI (sI (sI (sI σ 1 (413608 + (7 * n2)) (nI pg)) 1 ((413608 + (7 * n2)) + 1) line) 1 ((413608 + (7 * n2)) + 2) cs) 1 ((413608 + (7 * n2)) + 3) bits) 1 ((413608 + (7 * n2)) + 4) 0) 1 ((413608 + (7 * n2)) + 5) 0) 1 ((413608 + (7 * n2)) + 6) input) 1 2 (nI (n2 + 1))) := TM.w hT11 (show 0 ≤ _ ∧ _ ≤ 60 from by (try simp only [lg_cmp_lt, lg_cmp_le, lg_cmp_gt, lg_cmp_ge, lg_cmp_eq] at c3); (try simp (disch := omega) only [ta_lt, ta_le, ta_eq, tb_lt, tb_le, tb_eq, tw, tnI, tsub1, tsv, tn32 1 (by decide), tnj 1 (by decide), tl32 0 (by decide), tl64 0 (by decide), tl32 1 (by decide), tl64 1 (by decide), tl32 2 (by decide), tl64 2 (by decide), tl32 3 (by decide), tl64 3 (by decide), tl32 4 (by decide), tl64 4 (by decide), tl32 5 (by decide), tl64 5 (by decide), tl32 6 (by decide), tl64 6 (by decide), tl32 7 (by decide), tl64 7 (by decide), tl32 60 (by decide), tl64 60 (by decide), tl32 413608 (by decide), tl64 413608 (by decide)] at c3); (try simp only [lg_cmp_lt, lg_cmp_le, lg_cmp_gt, lg_cmp_ge, lg_cmp_eq] at c4); (try simp (disch := omega) only [ta_lt, ta_le, ta_eq, tb_lt, tb_le, tb_eq, tw, tnI, tsub1, tsv, tn32 1 (by decide), tnj 1 (by decide), tl32 0 (by decide), tl64 0 (by decide), tl32 1 (by decide), tl64 1 (by decide), tl32 2 (by decide), tl64 2 (by decide), tl32 3 (by decide), tl64 3 (by decide), tl32 4 (by decide), tl64 4 (by decide), tl32 5 (by decide), tl64 5 (by decide), tl32 6 (by decide), tl64 6 (by decide), tl32 7 (by decide), tl64 7 (by decide), tl32 60 (by decide), tl64 60 (by decide), tl32 413608 (by decide), tl64 413608 (by decide)] at c4); (try simp (disch := omega) only [ta_lt, ta_le, ta_eq, tb_lt, tb_le, tb_eq, tw, tnI, tsub1, tsv, tn32 1 (by decide), tnj 1 (by decide), tl32 0 (by decide), tl64 0 (by decide), tl32 1 (by decide), tl64 1 (by decide), tl32 2 (by decide), tl64 2 (by decide), tl32 3 (by decide), tl64 3 (by decide), tl32 4 (by decide), tl64 4 (by decide), tl32 5 (by decide), tl64 5 (by decide), tl32 6 (by decide), tl64 6 (by decide), tl32 7 (by decide), tl64 7 (by decide), tl32 60 (by decide), tl64 60 (by decide), tl32 413608 (by decide), tl64 413608 (by decide)]); omega)
          have hF12 : fr true [1] [] σ (sI (sI (sI (sI (sI (sI (sI (sI σ 1 (413608 + (7 * n2)) (nI pg)) 1 ((413608 + (7 * n2)) + 1) line) 1 ((413608 + (7 * n2)) + 2) cs) 1 ((413608 + (7 * n2)) + 3) bits) 1 ((413608 + (7 * n2)) + 4) 0) 1 ((413608 + (7 * n2)) + 5) 0) 1 ((413608 + (7 * n2)) + 6) input) 1 2 (nI (n2 + 1))) := fr.w hF11 (Or.inl ⟨by decide, by decide⟩) (fun _ _ => by unfold KR; omega)
          refine lv_aload_n hx hb (dkP dF_42 DX12_heapFor (i := 120) rfl rfl) rfl (lv_at hl 1 rfl) ?_
          refine z_gr C0 hw 0 1 1 rfl fl_X12_20 (dk2 dF_180 DX12_heapFor (i := 121) rfl rfl rfl) ?_
          refine lv_iconst (v := 2) hx hb (dkP dF_5 DX12_heapFor (i := 122) rfl rfl) (by decide) ?_
          refine z_ialdN (n := 414128) C0 hw 1 2 rfl (by omega) (by decide) (dkP dF_46 DX12_heapFor (i := 123) rfl rfl) ?_
          refine z_top (y := (nI (n2 + 1))) rd_s ?_
          refine lv_iconst (v := 1) hx hb (dkP dF_4 DX12_heapFor (i := 124) rfl rfl) (by decide) ?_
          refine lv_isub hx hb (dkP dF_100 DX12_heapFor (i := 125) rfl rfl) ?_
          refine z_top (y := nI ((n2 + 1) - 1)) (by simp only [fa_lit]; exact nI_sub (by omega)) ?_
          exact z_iret C0 hr hlk hw (⟨(show -1 ≤ _ ∧ _ ≤ 59 from by (try simp (disch := omega) only [tnI, tn32 1 (by decide), tl32 0 (by decide), tl32 1 (by decide), tl32 2 (by decide), tl32 3 (by decide), tl32 4 (by decide), tl32 5 (by decide), tl32 6 (by decide), tl32 7 (by decide), tl32 60 (by decide), tl32 413608 (by decide)]); omega), hT12, hF12⟩) (dkP dF_172 DX12_heapFor (i := 126) rfl rfl)
        · simp (disch := omega) only [ta_lt, ta_le, ta_eq, tnI, tl32 60 (by decide)] at c4
          refine lv_iconst (v := (-1)) hx hb (dkP dF_2 DX12_heapFor (i := 54) rfl rfl) (by decide) ?_
          exact z_iret C0 hr hlk hw (⟨(show -1 ≤ _ ∧ _ ≤ 59 from by (try simp (disch := omega) only [tnI, tn32 1 (by decide), tl32 0 (by decide), tl32 1 (by decide), tl32 2 (by decide), tl32 3 (by decide), tl32 4 (by decide), tl32 5 (by decide), tl32 6 (by decide), tl32 7 (by decide), tl32 60 (by decide), tl32 413608 (by decide)]); omega), hT, fr.refl⟩) (dkP dF_172 DX12_heapFor (i := 55) rfl rfl)
      · simp (disch := omega) only [ta_lt, ta_le, ta_eq, tnI] at c3
        refine lv_ldcw hx hb hown (hts _ kn_X12_441) (dk2 dF_19 DX12_heapFor (i := 8) rfl rfl rfl) ?_
        refine lv_bipush (v := 7) hx hb (dks dF_16 DX12_heapFor (i := 9) rfl rfl rfl) (by decide) ?_
        refine lv_iload hx hb (dk1 dF_21 DX12_heapFor (i := 10) rfl rfl rfl) (lv_at hl 0 rfl) ?_
        refine lv_imul hx hb (dkP dF_104 DX12_heapFor (i := 11) rfl rfl) ?_
        refine z_top (y := nI (7 * q6_3)) (by simp only [fa_lit, nI_add, pk_mul]) ?_
        refine lv_iadd hx hb (dkP dF_96 DX12_heapFor (i := 12) rfl rfl) ?_
        refine z_top (y := nI (413608 + (7 * q6_3))) (by simp only [fa_lit, nI_add, pk_mul]) ?_
        refine lv_istore (lv' := [(7, .int (nI (413608 + (7 * q6_3)))), (6, .int (nI q6_3)), (0, .ref (ad 0)), (1, .int (nI pg)), (2, .int line), (3, .int cs), (4, .int bits), (5, .int input)]) hx hb (dk1 dF_54 DX12_heapFor (i := 13) rfl rfl rfl) hl (by decide) rfl (fun ls hl => ?_)
        refine lv_aload_n hx hb (dkP dF_42 DX12_heapFor (i := 14) rfl rfl) rfl (lv_at hl 2 rfl) ?_
        refine z_gr C0 hw 0 1 1 rfl fl_X12_20 (dk2 dF_180 DX12_heapFor (i := 15) rfl rfl rfl) ?_
        refine lv_iload hx hb (dk1 dF_21 DX12_heapFor (i := 16) rfl rfl rfl) (lv_at hl 0 rfl) ?_
        refine z_ialdN (n := 414128) C0 hw 1 (413608 + (7 * q6_3)) rfl (by omega) (by decide) (dkP dF_46 DX12_heapFor (i := 17) rfl rfl) ?_
        obtain ⟨v13, ev13⟩ : ∃ y : Int32, σ.1 1 (413608 + (7 * q6_3)) = y := ⟨_, rfl⟩
        refine z_top (y := v13) ev13 ?_
        refine lv_iload_n hx hb (dkP dF_27 DX12_heapFor (i := 18) rfl rfl) rfl (lv_at hl 3 rfl) ?_
        refine lv_icmp_ne (tgt := 79) hx hb (dkS dF_160 DX12_heapFor (i := 19) rfl rfl rfl) (by decide) (fun c14 => ?_) (fun c14 => ?_)
        · (try simp (disch := omega) only [ta_lt, ta_le, ta_eq, tnI] at c14); have hz14 := i32b v13
          refine lv_iinc (v := nI (q6_3 + 1)) (lv' := [(6, .int (nI (q6_3 + 1))), (7, .int (nI (413608 + (7 * q6_3)))), (0, .ref (ad 0)), (1, .int (nI pg)), (2, .int line), (3, .int cs), (4, .int bits), (5, .int input)]) hx hb (dkI DX12_heapFor (i := 46) rfl rfl rfl rfl) hl (k := 1) rfl (nI_1 _) (by decide) rfl (fun ls hl => ?_)
          refine lv_goto (tgt := 3) hx hb (dkS dF_167 DX12_heapFor (i := 47) rfl rfl rfl) (by decide) ?_
          exact ih1 (q6_3 + 1) _ _ _ (by omega) (by (try simp only [lg_cmp_lt, lg_cmp_le, lg_cmp_gt, lg_cmp_ge, lg_cmp_eq] at c3); (try simp (disch := omega) only [ta_lt, ta_le, ta_eq, tb_lt, tb_le, tb_eq, tw, tnI, tsub1, tsv, tn32 1 (by decide), tnj 1 (by decide), tl32 0 (by decide), tl64 0 (by decide), tl32 1 (by decide), tl64 1 (by decide), tl32 2 (by decide), tl64 2 (by decide), tl32 3 (by decide), tl64 3 (by decide), tl32 4 (by decide), tl64 4 (by decide), tl32 5 (by decide), tl64 5 (by decide), tl32 6 (by decide), tl64 6 (by decide), tl32 7 (by decide), tl64 7 (by decide), tl32 60 (by decide), tl64 60 (by decide), tl32 413608 (by decide), tl64 413608 (by decide)] at c3); (try simp only [lg_cmp_lt, lg_cmp_le, lg_cmp_gt, lg_cmp_ge, lg_cmp_eq] at c14); (try simp (disch := omega) only [ta_lt, ta_le, ta_eq, tb_lt, tb_le, tb_eq, tw, tnI, tsub1, tsv, tn32 1 (by decide), tnj 1 (by decide), tl32 0 (by decide), tl64 0 (by decide), tl32 1 (by decide), tl64 1 (by decide), tl32 2 (by decide), tl64 2 (by decide), tl32 3 (by decide), tl64 3 (by decide), tl32 4 (by decide), tl64 4 (by decide), tl32 5 (by decide), tl64 5 (by decide), tl32 6 (by decide), tl64 6 (by decide), tl32 7 (by decide), tl64 7 (by decide), tl32 60 (by decide), tl64 60 (by decide), tl32 413608 (by decide), tl64 413608 (by decide)] at c14); (try simp (disch := omega) only [ta_lt, ta_le, ta_eq, tb_lt, tb_le, tb_eq, tw, tnI, tsub1, tsv, tn32 1 (by decide), tnj 1 (by decide), tl32 0 (by decide), tl64 0 (by decide), tl32 1 (by decide), tl64 1 (by decide), tl32 2 (by decide), tl64 2 (by decide), tl32 3 (by decide), tl64 3 (by decide), tl32 4 (by decide), tl64 4 (by decide), tl32 5 (by decide), tl64 5 (by decide), tl32 6 (by decide), tl64 6 (by decide), tl32 7 (by decide), tl64 7 (by decide), tl32 60 (by decide), tl64 60 (by decide), tl32 413608 (by decide), tl64 413608 (by decide)]); omega) hw (lv_sub hl [0, 2, 3, 4, 5, 6, 7] rfl)
        · (try simp (disch := omega) only [ta_lt, ta_le, ta_eq, tnI] at c14); have hz14 := i32b v13
          refine lv_aload_n hx hb (dkP dF_42 DX12_heapFor (i := 20) rfl rfl) rfl (lv_at hl 2 rfl) ?_
          refine z_gr C0 hw 0 1 1 rfl fl_X12_20 (dk2 dF_180 DX12_heapFor (i := 21) rfl rfl rfl) ?_
          refine lv_iload hx hb (dk1 dF_21 DX12_heapFor (i := 22) rfl rfl rfl) (lv_at hl 0 rfl) ?_
          refine lv_iconst (v := 1) hx hb (dkP dF_4 DX12_heapFor (i := 23) rfl rfl) (by decide) ?_
          refine lv_iadd hx hb (dkP dF_96 DX12_heapFor (i := 24) rfl rfl) ?_
          refine z_top (y := nI ((413608 + (7 * q6_3)) + 1)) (by simp only [fa_lit, nI_add, pk_mul]) ?_
          refine z_ialdN (n := 414128) C0 hw 1 ((413608 + (7 * q6_3)) + 1) rfl (by omega) (by decide) (dkP dF_46 DX12_heapFor (i := 25) rfl rfl) ?_
          obtain ⟨v15, ev15⟩ : ∃ y : Int32, σ.1 1 ((413608 + (7 * q6_3)) + 1) = y := ⟨_, rfl⟩
          refine z_top (y := v15) ev15 ?_
          refine lv_iload_n hx hb (dkP dF_28 DX12_heapFor (i := 26) rfl rfl) rfl (lv_at hl 4 rfl) ?_
          refine lv_icmp_ne (tgt := 79) hx hb (dkS dF_160 DX12_heapFor (i := 27) rfl rfl rfl) (by decide) (fun c16 => ?_) (fun c16 => ?_)
          · (try simp (disch := omega) only [ta_lt, ta_le, ta_eq, tnI] at c16)
            refine lv_iinc (v := nI (q6_3 + 1)) (lv' := [(6, .int (nI (q6_3 + 1))), (7, .int (nI (413608 + (7 * q6_3)))), (0, .ref (ad 0)), (1, .int (nI pg)), (2, .int line), (3, .int cs), (4, .int bits), (5, .int input)]) hx hb (dkI DX12_heapFor (i := 46) rfl rfl rfl rfl) hl (k := 1) rfl (nI_1 _) (by decide) rfl (fun ls hl => ?_)
            refine lv_goto (tgt := 3) hx hb (dkS dF_167 DX12_heapFor (i := 47) rfl rfl rfl) (by decide) ?_
            exact ih1 (q6_3 + 1) _ _ _ (by omega) (by (try simp only [lg_cmp_lt, lg_cmp_le, lg_cmp_gt, lg_cmp_ge, lg_cmp_eq] at c3); (try simp (disch := omega) only [ta_lt, ta_le, ta_eq, tb_lt, tb_le, tb_eq, tw, tnI, tsub1, tsv, tn32 1 (by decide), tnj 1 (by decide), tl32 0 (by decide), tl64 0 (by decide), tl32 1 (by decide), tl64 1 (by decide), tl32 2 (by decide), tl64 2 (by decide), tl32 3 (by decide), tl64 3 (by decide), tl32 4 (by decide), tl64 4 (by decide), tl32 5 (by decide), tl64 5 (by decide), tl32 6 (by decide), tl64 6 (by decide), tl32 7 (by decide), tl64 7 (by decide), tl32 60 (by decide), tl64 60 (by decide), tl32 413608 (by decide), tl64 413608 (by decide)] at c3); (try simp only [lg_cmp_lt, lg_cmp_le, lg_cmp_gt, lg_cmp_ge, lg_cmp_eq] at c14); (try simp (disch := omega) only [ta_lt, ta_le, ta_eq, tb_lt, tb_le, tb_eq, tw, tnI, tsub1, tsv, tn32 1 (by decide), tnj 1 (by decide), tl32 0 (by decide), tl64 0 (by decide), tl32 1 (by decide), tl64 1 (by decide), tl32 2 (by decide), tl64 2 (by decide), tl32 3 (by decide), tl64 3 (by decide), tl32 4 (by decide), tl64 4 (by decide), tl32 5 (by decide), tl64 5 (by decide), tl32 6 (by decide), tl64 6 (by decide), tl32 7 (by decide), tl64 7 (by decide), tl32 60 (by decide), tl64 60 (by decide), tl32 413608 (by decide), tl64 413608 (by decide)] at c14); (try simp only [lg_cmp_lt, lg_cmp_le, lg_cmp_gt, lg_cmp_ge, lg_cmp_eq] at c16); (try simp (disch := omega) only [ta_lt, ta_le, ta_eq, tb_lt, tb_le, tb_eq, tw, tnI, tsub1, tsv, tn32 1 (by decide), tnj 1 (by decide), tl32 0 (by decide), tl64 0 (by decide), tl32 1 (by decide), tl64 1 (by decide), tl32 2 (by decide), tl64 2 (by decide), tl32 3 (by decide), tl64 3 (by decide), tl32 4 (by decide), tl64 4 (by decide), tl32 5 (by decide), tl64 5 (by decide), tl32 6 (by decide), tl64 6 (by decide), tl32 7 (by decide), tl64 7 (by decide), tl32 60 (by decide), tl64 60 (by decide), tl32 413608 (by decide), tl64 413608 (by decide)] at c16); (try simp (disch := omega) only [ta_lt, ta_le, ta_eq, tb_lt, tb_le, tb_eq, tw, tnI, tsub1, tsv, tn32 1 (by decide), tnj 1 (by decide), tl32 0 (by decide), tl64 0 (by decide), tl32 1 (by decide), tl64 1 (by decide), tl32 2 (by decide), tl64 2 (by decide), tl32 3 (by decide), tl64 3 (by decide), tl32 4 (by decide), tl64 4 (by decide), tl32 5 (by decide), tl64 5 (by decide), tl32 6 (by decide), tl64 6 (by decide), tl32 7 (by decide), tl64 7 (by decide), tl32 60 (by decide), tl64 60 (by decide), tl32 413608 (by decide), tl64 413608 (by decide)]); omega) hw (lv_sub hl [0, 2, 3, 4, 5, 6, 7] rfl)
          · (try simp (disch := omega) only [ta_lt, ta_le, ta_eq, tnI] at c16)
            refine lv_aload_n hx hb (dkP dF_42 DX12_heapFor (i := 28) rfl rfl) rfl (lv_at hl 2 rfl) ?_
            refine z_gr C0 hw 0 1 1 rfl fl_X12_20 (dk2 dF_180 DX12_heapFor (i := 29) rfl rfl rfl) ?_
            refine lv_iload hx hb (dk1 dF_21 DX12_heapFor (i := 30) rfl rfl rfl) (lv_at hl 0 rfl) ?_
            refine lv_iconst (v := 2) hx hb (dkP dF_5 DX12_heapFor (i := 31) rfl rfl) (by decide) ?_
            refine lv_iadd hx hb (dkP dF_96 DX12_heapFor (i := 32) rfl rfl) ?_
            refine z_top (y := nI ((413608 + (7 * q6_3)) + 2)) (by simp only [fa_lit, nI_add, pk_mul]) ?_
            refine z_ialdN (n := 414128) C0 hw 1 ((413608 + (7 * q6_3)) + 2) rfl (by omega) (by decide) (dkP dF_46 DX12_heapFor (i := 33) rfl rfl) ?_
            obtain ⟨v17, ev17⟩ : ∃ y : Int32, σ.1 1 ((413608 + (7 * q6_3)) + 2) = y := ⟨_, rfl⟩
            refine z_top (y := v17) ev17 ?_
            refine lv_iload_n hx hb (dkP dF_29 DX12_heapFor (i := 34) rfl rfl) rfl (lv_at hl 5 rfl) ?_
            refine lv_icmp_ne (tgt := 79) hx hb (dkS dF_160 DX12_heapFor (i := 35) rfl rfl rfl) (by decide) (fun c18 => ?_) (fun c18 => ?_)
            · (try simp (disch := omega) only [ta_lt, ta_le, ta_eq, tnI] at c18)
              refine lv_iinc (v := nI (q6_3 + 1)) (lv' := [(6, .int (nI (q6_3 + 1))), (7, .int (nI (413608 + (7 * q6_3)))), (0, .ref (ad 0)), (1, .int (nI pg)), (2, .int line), (3, .int cs), (4, .int bits), (5, .int input)]) hx hb (dkI DX12_heapFor (i := 46) rfl rfl rfl rfl) hl (k := 1) rfl (nI_1 _) (by decide) rfl (fun ls hl => ?_)
              refine lv_goto (tgt := 3) hx hb (dkS dF_167 DX12_heapFor (i := 47) rfl rfl rfl) (by decide) ?_
              exact ih1 (q6_3 + 1) _ _ _ (by omega) (by (try simp only [lg_cmp_lt, lg_cmp_le, lg_cmp_gt, lg_cmp_ge, lg_cmp_eq] at c3); (try simp (disch := omega) only [ta_lt, ta_le, ta_eq, tb_lt, tb_le, tb_eq, tw, tnI, tsub1, tsv, tn32 1 (by decide), tnj 1 (by decide), tl32 0 (by decide), tl64 0 (by decide), tl32 1 (by decide), tl64 1 (by decide), tl32 2 (by decide), tl64 2 (by decide), tl32 3 (by decide), tl64 3 (by decide), tl32 4 (by decide), tl64 4 (by decide), tl32 5 (by decide), tl64 5 (by decide), tl32 6 (by decide), tl64 6 (by decide), tl32 7 (by decide), tl64 7 (by decide), tl32 60 (by decide), tl64 60 (by decide), tl32 413608 (by decide), tl64 413608 (by decide)] at c3); (try simp only [lg_cmp_lt, lg_cmp_le, lg_cmp_gt, lg_cmp_ge, lg_cmp_eq] at c14); (try simp (disch := omega) only [ta_lt, ta_le, ta_eq, tb_lt, tb_le, tb_eq, tw, tnI, tsub1, tsv, tn32 1 (by decide), tnj 1 (by decide), tl32 0 (by decide), tl64 0 (by decide), tl32 1 (by decide), tl64 1 (by decide), tl32 2 (by decide), tl64 2 (by decide), tl32 3 (by decide), tl64 3 (by decide), tl32 4 (by decide), tl64 4 (by decide), tl32 5 (by decide), tl64 5 (by decide), tl32 6 (by decide), tl64 6 (by decide), tl32 7 (by decide), tl64 7 (by decide), tl32 60 (by decide), tl64 60 (by decide), tl32 413608 (by decide), tl64 413608 (by decide)] at c14); (try simp only [lg_cmp_lt, lg_cmp_le, lg_cmp_gt, lg_cmp_ge, lg_cmp_eq] at c16); (try simp (disch := omega) only [ta_lt, ta_le, ta_eq, tb_lt, tb_le, tb_eq, tw, tnI, tsub1, tsv, tn32 1 (by decide), tnj 1 (by decide), tl32 0 (by decide), tl64 0 (by decide), tl32 1 (by decide), tl64 1 (by decide), tl32 2 (by decide), tl64 2 (by decide), tl32 3 (by decide), tl64 3 (by decide), tl32 4 (by decide), tl64 4 (by decide), tl32 5 (by decide), tl64 5 (by decide), tl32 6 (by decide), tl64 6 (by decide), tl32 7 (by decide), tl64 7 (by decide), tl32 60 (by decide), tl64 60 (by decide), tl32 413608 (by decide), tl64 413608 (by decide)] at c16); (try simp only [lg_cmp_lt, lg_cmp_le, lg_cmp_gt, lg_cmp_ge, lg_cmp_eq] at c18); (try simp (disch := omega) only [ta_lt, ta_le, ta_eq, tb_lt, tb_le, tb_eq, tw, tnI, tsub1, tsv, tn32 1 (by decide), tnj 1 (by decide), tl32 0 (by decide), tl64 0 (by decide), tl32 1 (by decide), tl64 1 (by decide), tl32 2 (by decide), tl64 2 (by decide), tl32 3 (by decide), tl64 3 (by decide), tl32 4 (by decide), tl64 4 (by decide), tl32 5 (by decide), tl64 5 (by decide), tl32 6 (by decide), tl64 6 (by decide), tl32 7 (by decide), tl64 7 (by decide), tl32 60 (by decide), tl64 60 (by decide), tl32 413608 (by decide), tl64 413608 (by decide)] at c18); (try simp (disch := omega) only [ta_lt, ta_le, ta_eq, tb_lt, tb_le, tb_eq, tw, tnI, tsub1, tsv, tn32 1 (by decide), tnj 1 (by decide), tl32 0 (by decide), tl64 0 (by decide), tl32 1 (by decide), tl64 1 (by decide), tl32 2 (by decide), tl64 2 (by decide), tl32 3 (by decide), tl64 3 (by decide), tl32 4 (by decide), tl64 4 (by decide), tl32 5 (by decide), tl64 5 (by decide), tl32 6 (by decide), tl64 6 (by decide), tl32 7 (by decide), tl64 7 (by decide), tl32 60 (by decide), tl64 60 (by decide), tl32 413608 (by decide), tl64 413608 (by decide)]); omega) hw (lv_sub hl [0, 2, 3, 4, 5, 6, 7] rfl)
            · (try simp (disch := omega) only [ta_lt, ta_le, ta_eq, tnI] at c18)
              refine lv_aload_n hx hb (dkP dF_42 DX12_heapFor (i := 36) rfl rfl) rfl (lv_at hl 2 rfl) ?_
              refine z_gr C0 hw 0 1 1 rfl fl_X12_20 (dk2 dF_180 DX12_heapFor (i := 37) rfl rfl rfl) ?_
              refine lv_iload hx hb (dk1 dF_21 DX12_heapFor (i := 38) rfl rfl rfl) (lv_at hl 0 rfl) ?_
              refine lv_iconst (v := 3) hx hb (dkP dF_6 DX12_heapFor (i := 39) rfl rfl) (by decide) ?_
              refine lv_iadd hx hb (dkP dF_96 DX12_heapFor (i := 40) rfl rfl) ?_
              refine z_top (y := nI ((413608 + (7 * q6_3)) + 3)) (by simp only [fa_lit, nI_add, pk_mul]) ?_
              refine z_ialdN (n := 414128) C0 hw 1 ((413608 + (7 * q6_3)) + 3) rfl (by omega) (by decide) (dkP dF_46 DX12_heapFor (i := 41) rfl rfl) ?_
              obtain ⟨v19, ev19⟩ : ∃ y : Int32, σ.1 1 ((413608 + (7 * q6_3)) + 3) = y := ⟨_, rfl⟩
              refine z_top (y := v19) ev19 ?_
              refine lv_iload hx hb (dk1 dF_21 DX12_heapFor (i := 42) rfl rfl rfl) (lv_at hl 6 rfl) ?_
              refine lv_icmp_ne (tgt := 79) hx hb (dkS dF_160 DX12_heapFor (i := 43) rfl rfl rfl) (by decide) (fun c20 => ?_) (fun c20 => ?_)
              · (try simp (disch := omega) only [ta_lt, ta_le, ta_eq, tnI] at c20)
                refine lv_iinc (v := nI (q6_3 + 1)) (lv' := [(6, .int (nI (q6_3 + 1))), (7, .int (nI (413608 + (7 * q6_3)))), (0, .ref (ad 0)), (1, .int (nI pg)), (2, .int line), (3, .int cs), (4, .int bits), (5, .int input)]) hx hb (dkI DX12_heapFor (i := 46) rfl rfl rfl rfl) hl (k := 1) rfl (nI_1 _) (by decide) rfl (fun ls hl => ?_)
                refine lv_goto (tgt := 3) hx hb (dkS dF_167 DX12_heapFor (i := 47) rfl rfl rfl) (by decide) ?_
                exact ih1 (q6_3 + 1) _ _ _ (by omega) (by (try simp only [lg_cmp_lt, lg_cmp_le, lg_cmp_gt, lg_cmp_ge, lg_cmp_eq] at c3); (try simp (disch := omega) only [ta_lt, ta_le, ta_eq, tb_lt, tb_le, tb_eq, tw, tnI, tsub1, tsv, tn32 1 (by decide), tnj 1 (by decide), tl32 0 (by decide), tl64 0 (by decide), tl32 1 (by decide), tl64 1 (by decide), tl32 2 (by decide), tl64 2 (by decide), tl32 3 (by decide), tl64 3 (by decide), tl32 4 (by decide), tl64 4 (by decide), tl32 5 (by decide), tl64 5 (by decide), tl32 6 (by decide), tl64 6 (by decide), tl32 7 (by decide), tl64 7 (by decide), tl32 60 (by decide), tl64 60 (by decide), tl32 413608 (by decide), tl64 413608 (by decide)] at c3); (try simp only [lg_cmp_lt, lg_cmp_le, lg_cmp_gt, lg_cmp_ge, lg_cmp_eq] at c14); (try simp (disch := omega) only [ta_lt, ta_le, ta_eq, tb_lt, tb_le, tb_eq, tw, tnI, tsub1, tsv, tn32 1 (by decide), tnj 1 (by decide), tl32 0 (by decide), tl64 0 (by decide), tl32 1 (by decide), tl64 1 (by decide), tl32 2 (by decide), tl64 2 (by decide), tl32 3 (by decide), tl64 3 (by decide), tl32 4 (by decide), tl64 4 (by decide), tl32 5 (by decide), tl64 5 (by decide), tl32 6 (by decide), tl64 6 (by decide), tl32 7 (by decide), tl64 7 (by decide), tl32 60 (by decide), tl64 60 (by decide), tl32 413608 (by decide), tl64 413608 (by decide)] at c14); (try simp only [lg_cmp_lt, lg_cmp_le, lg_cmp_gt, lg_cmp_ge, lg_cmp_eq] at c16); (try simp (disch := omega) only [ta_lt, ta_le, ta_eq, tb_lt, tb_le, tb_eq, tw, tnI, tsub1, tsv, tn32 1 (by decide), tnj 1 (by decide), tl32 0 (by decide), tl64 0 (by decide), tl32 1 (by decide), tl64 1 (by decide), tl32 2 (by decide), tl64 2 (by decide), tl32 3 (by decide), tl64 3 (by decide), tl32 4 (by decide), tl64 4 (by decide), tl32 5 (by decide), tl64 5 (by decide), tl32 6 (by decide), tl64 6 (by decide), tl32 7 (by decide), tl64 7 (by decide), tl32 60 (by decide), tl64 60 (by decide), tl32 413608 (by decide), tl64 413608 (by decide)] at c16); (try simp only [lg_cmp_lt, lg_cmp_le, lg_cmp_gt, lg_cmp_ge, lg_cmp_eq] at c18); (try simp (disch := omega) only [ta_lt, ta_le, ta_eq, tb_lt, tb_le, tb_eq, tw, tnI, tsub1, tsv, tn32 1 (by decide), tnj 1 (by decide), tl32 0 (by decide), tl64 0 (by decide), tl32 1 (by decide), tl64 1 (by decide), tl32 2 (by decide), tl64 2 (by decide), tl32 3 (by decide), tl64 3 (by decide), tl32 4 (by decide), tl64 4 (by decide), tl32 5 (by decide), tl64 5 (by decide), tl32 6 (by decide), tl64 6 (by decide), tl32 7 (by decide), tl64 7 (by decide), tl32 60 (by decide), tl64 60 (by decide), tl32 413608 (by decide), tl64 413608 (by decide)] at c18); (try simp only [lg_cmp_lt, lg_cmp_le, lg_cmp_gt, lg_cmp_ge, lg_cmp_eq] at c20); (try simp (disch := omega) only [ta_lt, ta_le, ta_eq, tb_lt, tb_le, tb_eq, tw, tnI, tsub1, tsv, tn32 1 (by decide), tnj 1 (by decide), tl32 0 (by decide), tl64 0 (by decide), tl32 1 (by decide), tl64 1 (by decide), tl32 2 (by decide), tl64 2 (by decide), tl32 3 (by decide), tl64 3 (by decide), tl32 4 (by decide), tl64 4 (by decide), tl32 5 (by decide), tl64 5 (by decide), tl32 6 (by decide), tl64 6 (by decide), tl32 7 (by decide), tl64 7 (by decide), tl32 60 (by decide), tl64 60 (by decide), tl32 413608 (by decide), tl64 413608 (by decide)] at c20); (try simp (disch := omega) only [ta_lt, ta_le, ta_eq, tb_lt, tb_le, tb_eq, tw, tnI, tsub1, tsv, tn32 1 (by decide), tnj 1 (by decide), tl32 0 (by decide), tl64 0 (by decide), tl32 1 (by decide), tl64 1 (by decide), tl32 2 (by decide), tl64 2 (by decide), tl32 3 (by decide), tl64 3 (by decide), tl32 4 (by decide), tl64 4 (by decide), tl32 5 (by decide), tl64 5 (by decide), tl32 6 (by decide), tl64 6 (by decide), tl32 7 (by decide), tl64 7 (by decide), tl32 60 (by decide), tl64 60 (by decide), tl32 413608 (by decide), tl64 413608 (by decide)]); omega) hw (lv_sub hl [0, 2, 3, 4, 5, 6, 7] rfl)
              · (try simp (disch := omega) only [ta_lt, ta_le, ta_eq, tnI] at c20)
                refine lv_iload hx hb (dk1 dF_21 DX12_heapFor (i := 44) rfl rfl rfl) (lv_at hl 1 rfl) ?_
                exact z_iret C0 hr hlk hw (⟨(show -1 ≤ _ ∧ _ ≤ 59 from by (try simp (disch := omega) only [tnI, tn32 1 (by decide), tl32 0 (by decide), tl32 1 (by decide), tl32 2 (by decide), tl32 3 (by decide), tl32 4 (by decide), tl32 5 (by decide), tl32 6 (by decide), tl32 7 (by decide), tl32 60 (by decide), tl32 413608 (by decide)]); omega), hT, fr.refl⟩) (dkP dF_172 DX12_heapFor (i := 45) rfl rfl)
  exact lp1 _ 0 _ _ _ (Nat.lt_succ_self _) (by (try simp (disch := omega) only [ta_lt, ta_le, ta_eq, tb_lt, tb_le, tb_eq, tw, tnI, tsub1, tsv, tn32 1 (by decide), tnj 1 (by decide), tl32 0 (by decide), tl64 0 (by decide), tl32 1 (by decide), tl64 1 (by decide), tl32 2 (by decide), tl64 2 (by decide), tl32 3 (by decide), tl64 3 (by decide), tl32 4 (by decide), tl64 4 (by decide), tl32 5 (by decide), tl64 5 (by decide), tl32 6 (by decide), tl64 6 (by decide), tl32 7 (by decide), tl64 7 (by decide), tl32 60 (by decide), tl64 60 (by decide), tl32 413608 (by decide), tl64 413608 (by decide)]); omega) hw (lv_sub hl [0, 1, 2, 3, 4, 5, 6] rfl)
set_option maxRecDepth 100000 in
set_option maxHeartbeats 8000000 in
theorem c_X12_heaps (l : Launch) (G : va_G) (kc : KC) (ad : Nat → Nat) (σ : Sg) (pg : Nat) (input : Int32) (hp8 : pg < 8) (hT : TM σ) : MI l G kc yX12_heaps cX12_heaps 6 (some .boolean) 5 113 [.ref (ad 0), .int (nI pg), .int input] shM ad σ (fun r σ1 => ((r = 1 ∧ (True)) ∨ (r = 0 ∧ (True))) ∧ TM σ1 ∧ fr true [1, 11, 12, 13, 14] [23, 25] σ σ1) := by
  intro sz
  refine z_body (y := yX12_heaps) (n := 6) (av := [.ref (ad 0), .int (nI pg), .int input]) (Qc := fun A => va_Qi (fun r σ1 => ((r = 1 ∧ (True)) ∨ (r = 0 ∧ (True))) ∧ TM σ1 ∧ fr true [1, 11, 12, 13, 14] [23, 25] σ σ1) (PoC G kc shM ad A) A) (plainFor_of_name (by decide)) (Nat.le_of_ble_eq_true rfl) (fun pr e s m below meth c A C0 hr hlk hnm hw hRo ls hl => ?_) sz
  have hx := C0.1
  have hb := C0.2.1
  have hown := C0.2.2.2.1
  have hts := C0.2.2.2.2.1
  have hl : lv_has ls 6 [(0, .ref (ad 0)), (1, .int (nI pg)), (2, .int input)] := hl
  refine lv_aload_n hx hb (dkP dF_42 DX12_heaps (i := 0) rfl rfl) rfl (lv_at hl 0 rfl) ?_
  refine lv_iload_n hx hb (dkP dF_27 DX12_heaps (i := 1) rfl rfl) rfl (lv_at hl 1 rfl) ?_
  refine lv_iload_n hx hb (dkP dF_28 DX12_heaps (i := 2) rfl rfl) rfl (lv_at hl 2 rfl) ?_
  refine zk_I hw (zr_V (As := [.int (nI pg), .int input]) (rest := []) C0 (c_X12_unlikeAt l G kc ad σ pg input (by first | omega | assumption | decide | rfl) hT _) cv_X12_unlikeAt lk_X12_438 (zp_V C0 hRo hw 0 rfl rfl rfl) rfl hl.1 rfl ⟨by decide, by decide⟩ (Nat.le_of_ble_eq_true rfl) (dk2 dF_182 DX12_heaps (i := 3) rfl rfl rfl) ⟨Nat.le_refl _, Nat.le_refl _⟩) (fun r1 s1 H locs hp hw => ?_)
  obtain ⟨hT1, hG1⟩ := hp
  have hF1 : fr true [1, 11, 12, 13, 14] [23, 25] σ s1 := fr.t fr.refl hG1 (by decide) (by decide) (by decide)
  refine lv_istore_n (lv' := [(3, .int r1), (0, .ref (ad 0)), (1, .int (nI pg)), (2, .int input)]) hx hb (dkP dF_62 DX12_heaps (i := 4) rfl rfl) rfl hl (by decide) rfl (fun ls hl => ?_)
  refine lv_iload_n hx hb (dkP dF_29 DX12_heaps (i := 5) rfl rfl) rfl (lv_at hl 0 rfl) ?_
  refine lv_if_ne (tgt := 13) hx hb (dkS dF_154 DX12_heaps (i := 6) rfl rfl rfl) (by decide) (fun c2 => ?_) (fun c2 => ?_)
  · (try simp (disch := omega) only [ta_lt, ta_le, ta_eq, tnI, tl32 0 (by decide)] at c2)
    refine lv_aload_n hx hb (dkP dF_42 DX12_heaps (i := 9) rfl rfl) rfl (lv_at hl 1 rfl) ?_
    refine z_gi C0 hw 0 23 rfl fl_X12_342 (dk2 dF_180 DX12_heaps (i := 10) rfl rfl rfl) ?_
    obtain ⟨n3, hn3, en3⟩ := rngN (x := s1.1 0 23) (h := 100) (show 0 ≤ _ ∧ _ ≤ 100 from hT1 0 23)
    refine z_top (y := nI n3) en3 ?_
    refine lv_if_ne (tgt := 24) hx hb (dkS dF_154 DX12_heaps (i := 11) rfl rfl rfl) (by decide) (fun c4 => ?_) (fun c4 => ?_)
    · simp (disch := omega) only [ta_lt, ta_le, ta_eq, tnI, tl32 0 (by decide)] at c4
      refine lv_aload_n hx hb (dkP dF_42 DX12_heaps (i := 14) rfl rfl) rfl (lv_at hl 1 rfl) ?_
      refine z_gr C0 hw 0 1 1 rfl fl_X12_20 (dk2 dF_180 DX12_heaps (i := 15) rfl rfl rfl) ?_
      refine lv_iload_n hx hb (dkP dF_27 DX12_heaps (i := 16) rfl rfl) rfl (lv_at hl 2 rfl) ?_
      refine lv_aload_n hx hb (dkP dF_42 DX12_heaps (i := 17) rfl rfl) rfl (lv_at hl 1 rfl) ?_
      refine z_gr C0 hw 0 22 13 rfl fl_X12_63 (dk2 dF_180 DX12_heaps (i := 18) rfl rfl rfl) ?_
      refine lv_aload_n hx hb (dkP dF_42 DX12_heaps (i := 19) rfl rfl) rfl (lv_at hl 1 rfl) ?_
      refine z_gi C0 hw 0 23 rfl fl_X12_342 (dk2 dF_180 DX12_heaps (i := 20) rfl rfl rfl) ?_
      refine z_top (y := (nI n3)) en3 ?_
      refine lv_iconst (v := 1) hx hb (dkP dF_4 DX12_heaps (i := 21) rfl rfl) (by decide) ?_
      refine lv_isub hx hb (dkP dF_100 DX12_heaps (i := 22) rfl rfl) ?_
      refine z_top (y := nI (n3 - 1)) (by simp only [fa_lit]; exact nI_sub (by omega)) ?_
      refine z_ialdN (n := 100) C0 hw 13 (n3 - 1) rfl (by omega) (by decide) (dkP dF_46 DX12_heaps (i := 23) rfl rfl) ?_
      obtain ⟨n5, hn5, en5⟩ := rngN (x := s1.1 13 (n3 - 1)) (h := 23) (show 0 ≤ _ ∧ _ ≤ 23 from hT1 13 _)
      refine z_top (y := nI n5) en5 ?_
      refine zn_I hw (zr_S (As := [.int (nI pg), .int (nI n5)]) (rest := [.ref (ad 1)]) C0 (c_X12_lineAt l G kc pg n5  _) cs_X12_lineAt lk_X12_284 (zp_P C0 hRo hw a00 s00) rfl hl.1 rfl ⟨by decide, by decide⟩ (Nat.le_of_ble_eq_true rfl) (dk2 dF_184 DX12_heaps (i := 24) rfl rfl rfl) ⟨Nat.le_refl _, Nat.le_refl _⟩) (fun r6 s6 H locs hp hw => ?_)
      subst hp
      refine z_ialdN (n := 414128) C0 hw 1 (168 + 16 * (24 * pg + n5)) rfl (by omega) (by decide) (dkP dF_46 DX12_heaps (i := 25) rfl rfl) ?_
      obtain ⟨v7, ev7⟩ : ∃ y : Int32, s1.1 1 (168 + 16 * (24 * pg + n5)) = y := ⟨_, rfl⟩
      refine z_top (y := v7) ev7 ?_
      refine lv_istore (lv' := [(4, .int v7), (3, .int r1), (0, .ref (ad 0)), (1, .int (nI pg)), (2, .int input)]) hx hb (dk1 dF_54 DX12_heaps (i := 26) rfl rfl rfl) hl (by decide) rfl (fun ls hl => ?_)
      refine lv_aload_n hx hb (dkP dF_42 DX12_heaps (i := 27) rfl rfl) rfl (lv_at hl 2 rfl) ?_
      refine lv_iload_n hx hb (dkP dF_27 DX12_heaps (i := 28) rfl rfl) rfl (lv_at hl 3 rfl) ?_
      refine lv_iload hx hb (dk1 dF_21 DX12_heaps (i := 29) rfl rfl rfl) (lv_at hl 0 rfl) ?_
      refine lv_aload_n hx hb (dkP dF_42 DX12_heaps (i := 30) rfl rfl) rfl (lv_at hl 2 rfl) ?_
      refine z_gi C0 hw 0 25 rfl fl_X12_360 (dk2 dF_180 DX12_heaps (i := 31) rfl rfl rfl) ?_
      obtain ⟨v8, ev8⟩ : ∃ y : Int32, s1.1 0 25 = y := ⟨_, rfl⟩
      have hv8 : -1 ≤ v8.toInt ∧ v8.toInt ≤ 39 := by rw [← ev8]; exact (show -1 ≤ _ ∧ _ ≤ 39 from hT1 0 25)
      refine z_top (y := v8) ev8 ?_
      refine lv_iload_n hx hb (dkP dF_29 DX12_heaps (i := 32) rfl rfl) rfl (lv_at hl 1 rfl) ?_
      refine lv_iload_n hx hb (dkP dF_28 DX12_heaps (i := 33) rfl rfl) rfl (lv_at hl 4 rfl) ?_
      refine zk_I hw (zr_V (As := [.int (nI pg), .int v7, .int v8, .int r1, .int input]) (rest := []) C0 (c_X12_heapFor l G kc ad s1 pg v7 v8 r1 input (by first | omega | assumption | decide | rfl) hT1 _) cv_X12_heapFor lk_X12_442 (zp_V C0 hRo hw 0 rfl rfl rfl) rfl hl.1 rfl ⟨by decide, by decide⟩ (Nat.le_of_ble_eq_true rfl) (dk2 dF_182 DX12_heaps (i := 34) rfl rfl rfl) ⟨Nat.le_refl _, Nat.le_refl _⟩) (fun r9 s9 H locs hp hw => ?_)
      obtain ⟨f9_0, hT9, hG9⟩ := hp
      have hF9 : fr true [1, 11, 12, 13, 14] [23, 25] σ s9 := fr.t hF1 hG9 (by decide) (by decide) (by decide)
      refine lv_istore (lv' := [(5, .int r9), (4, .int v7), (3, .int r1), (0, .ref (ad 0)), (1, .int (nI pg)), (2, .int input)]) hx hb (dk1 dF_54 DX12_heaps (i := 35) rfl rfl rfl) hl (by decide) rfl (fun ls hl => ?_)
      refine lv_iload hx hb (dk1 dF_21 DX12_heaps (i := 36) rfl rfl rfl) (lv_at hl 0 rfl) ?_
      refine lv_iconst (v := (-1)) hx hb (dkP dF_2 DX12_heaps (i := 37) rfl rfl) (by decide) ?_
      refine lv_icmp_ne (tgt := 69) hx hb (dkS dF_160 DX12_heaps (i := 38) rfl rfl rfl) (by decide) (fun c10 => ?_) (fun c10 => ?_)
      · (try simp (disch := omega) only [ta_lt, ta_le, ta_eq, tnI, tn32 1 (by decide)] at c10)
        obtain ⟨n11, hn11, en11⟩ := rngN (x := r9) (h := 59) (show 0 ≤ _ ∧ _ ≤ 59 from by (try simp only [lg_cmp_lt, lg_cmp_le, lg_cmp_gt, lg_cmp_ge, lg_cmp_eq] at c2); (try simp (disch := omega) only [ta_lt, ta_le, ta_eq, tb_lt, tb_le, tb_eq, tw, tnI, tsub1, tsv, tn32 1 (by decide), tnj 1 (by decide), tl32 0 (by decide), tl64 0 (by decide), tl32 1 (by decide), tl64 1 (by decide)] at c2); (try simp only [lg_cmp_lt, lg_cmp_le, lg_cmp_gt, lg_cmp_ge, lg_cmp_eq] at c4); (try simp (disch := omega) only [ta_lt, ta_le, ta_eq, tb_lt, tb_le, tb_eq, tw, tnI, tsub1, tsv, tn32 1 (by decide), tnj 1 (by decide), tl32 0 (by decide), tl64 0 (by decide), tl32 1 (by decide), tl64 1 (by decide)] at c4); (try simp only [lg_cmp_lt, lg_cmp_le, lg_cmp_gt, lg_cmp_ge, lg_cmp_eq] at f9_0); (try simp (disch := omega) only [ta_lt, ta_le, ta_eq, tb_lt, tb_le, tb_eq, tw, tnI, tsub1, tsv, tn32 1 (by decide), tnj 1 (by decide), tl32 0 (by decide), tl64 0 (by decide), tl32 1 (by decide), tl64 1 (by decide)] at f9_0); (try simp only [lg_cmp_lt, lg_cmp_le, lg_cmp_gt, lg_cmp_ge, lg_cmp_eq] at c10); (try simp (disch := omega) only [ta_lt, ta_le, ta_eq, tb_lt, tb_le, tb_eq, tw, tnI, tsub1, tsv, tn32 1 (by decide), tnj 1 (by decide), tl32 0 (by decide), tl64 0 (by decide), tl32 1 (by decide), tl64 1 (by decide)] at c10); (try simp (disch := omega) only [ta_lt, ta_le, ta_eq, tb_lt, tb_le, tb_eq, tw, tnI, tsub1, tsv, tn32 1 (by decide), tnj 1 (by decide), tl32 0 (by decide), tl64 0 (by decide), tl32 1 (by decide), tl64 1 (by decide)]); omega)
        subst en11
        refine lv_aload_n hx hb (dkP dF_42 DX12_heaps (i := 41) rfl rfl) rfl (lv_at hl 3 rfl) ?_
        refine z_gr C0 hw 0 1 1 rfl fl_X12_20 (dk2 dF_180 DX12_heaps (i := 42) rfl rfl rfl) ?_
        refine lv_ldcw hx hb hown (hts _ kn_X12_441) (dk2 dF_19 DX12_heaps (i := 43) rfl rfl rfl) ?_
        refine lv_bipush (v := 7) hx hb (dks dF_16 DX12_heaps (i := 44) rfl rfl rfl) (by decide) ?_
        refine lv_iload hx hb (dk1 dF_21 DX12_heaps (i := 45) rfl rfl rfl) (lv_at hl 0 rfl) ?_
        refine lv_imul hx hb (dkP dF_104 DX12_heaps (i := 46) rfl rfl) ?_
        refine z_top (y := nI (7 * n11)) (by simp only [fa_lit, nI_add, pk_mul]) ?_
        refine lv_iadd hx hb (dkP dF_96 DX12_heaps (i := 47) rfl rfl) ?_
        refine z_top (y := nI (413608 + (7 * n11))) (by simp only [fa_lit, nI_add, pk_mul]) ?_
        refine lv_iconst (v := 4) hx hb (dkP dF_7 DX12_heaps (i := 48) rfl rfl) (by decide) ?_
        refine lv_iadd hx hb (dkP dF_96 DX12_heaps (i := 49) rfl rfl) ?_
        refine z_top (y := nI ((413608 + (7 * n11)) + 4)) (by simp only [fa_lit, nI_add, pk_mul]) ?_
        refine lv_dup2_11 hx hb (dkP dF_92 DX12_heaps (i := 50) rfl rfl) rfl rfl ?_
        refine z_ialdN (n := 414128) C0 hw 1 ((413608 + (7 * n11)) + 4) rfl (by omega) (by decide) (dkP dF_46 DX12_heaps (i := 51) rfl rfl) ?_
        obtain ⟨v12, ev12⟩ : ∃ y : Int32, s9.1 1 ((413608 + (7 * n11)) + 4) = y := ⟨_, rfl⟩
        refine z_top (y := v12) ev12 ?_
        refine lv_iconst (v := 1) hx hb (dkP dF_4 DX12_heaps (i := 52) rfl rfl) (by decide) ?_
        refine lv_iadd hx hb (dkP dF_96 DX12_heaps (i := 53) rfl rfl) ?_
        refine z_iastN (n := 414128) C0 hw 1 ((413608 + (7 * n11)) + 4) rfl (by omega) (by decide) (dkP dF_79 DX12_heaps (i := 54) rfl rfl) (fun H locs hw => ?_)
        have hT13 : TM (sI s9 1 ((413608 + (7 * n11)) + 4) (v12 + 1)) := TM.w hT9 (ty_hi (by omega))
        have hF13 : fr true [1, 11, 12, 13, 14] [23, 25] σ (sI s9 1 ((413608 + (7 * n11)) + 4) (v12 + 1)) := fr.w hF9 (Or.inl ⟨by decide, by decide⟩) (fun _ _ => by unfold KR; omega)
        refine lv_aload_n hx hb (dkP dF_42 DX12_heaps (i := 55) rfl rfl) rfl (lv_at hl 3 rfl) ?_
        refine z_gr C0 hw 0 1 1 rfl fl_X12_20 (dk2 dF_180 DX12_heaps (i := 56) rfl rfl rfl) ?_
        refine lv_ldcw hx hb hown (hts _ kn_X12_441) (dk2 dF_19 DX12_heaps (i := 57) rfl rfl rfl) ?_
        refine lv_bipush (v := 7) hx hb (dks dF_16 DX12_heaps (i := 58) rfl rfl rfl) (by decide) ?_
        refine lv_iload hx hb (dk1 dF_21 DX12_heaps (i := 59) rfl rfl rfl) (lv_at hl 0 rfl) ?_
        refine lv_imul hx hb (dkP dF_104 DX12_heaps (i := 60) rfl rfl) ?_
        refine z_top (y := nI (7 * n11)) (by simp only [fa_lit, nI_add, pk_mul]) ?_
        refine lv_iadd hx hb (dkP dF_96 DX12_heaps (i := 61) rfl rfl) ?_
        refine z_top (y := nI (413608 + (7 * n11))) (by simp only [fa_lit, nI_add, pk_mul]) ?_
        refine lv_iconst (v := 5) hx hb (dkP dF_8 DX12_heaps (i := 62) rfl rfl) (by decide) ?_
        refine lv_iadd hx hb (dkP dF_96 DX12_heaps (i := 63) rfl rfl) ?_
        refine z_top (y := nI ((413608 + (7 * n11)) + 5)) (by simp only [fa_lit, nI_add, pk_mul]) ?_
        refine z_ialdN (n := 414128) C0 hw 1 ((413608 + (7 * n11)) + 5) rfl (by omega) (by decide) (dkP dF_46 DX12_heaps (i := 64) rfl rfl) ?_
        obtain ⟨v14, ev14⟩ : ∃ y : Int32, (sI s9 1 ((413608 + (7 * n11)) + 4) (v12 + 1)).1 1 ((413608 + (7 * n11)) + 5) = y := ⟨_, rfl⟩
        refine z_top (y := v14) ev14 ?_
        refine lv_iconst (v := 2) hx hb (dkP dF_5 DX12_heaps (i := 65) rfl rfl) (by decide) ?_
        refine lv_icmp_eq (tgt := 113) hx hb (dkS dF_159 DX12_heaps (i := 66) rfl rfl rfl) (by decide) (fun c15 => ?_) (fun c15 => ?_)
        · (try simp (disch := omega) only [ta_lt, ta_le, ta_eq, tnI, tl32 2 (by decide)] at c15)
          refine lv_iconst (v := 0) hx hb (dkP dF_3 DX12_heaps (i := 69) rfl rfl) (by decide) ?_
          exact z_zret C0 hr hlk (by decide) hw (⟨(Or.inr ⟨rfl, trivial⟩), hT13, hF13⟩) (dkP dF_172 DX12_heaps (i := 70) rfl rfl)
        · (try simp (disch := omega) only [ta_lt, ta_le, ta_eq, tnI, tl32 2 (by decide)] at c15)
          refine lv_iconst (v := 1) hx hb (dkP dF_4 DX12_heaps (i := 67) rfl rfl) (by decide) ?_
          refine lv_goto (tgt := 114) hx hb (dkS dF_167 DX12_heaps (i := 68) rfl rfl rfl) (by decide) ?_
          exact z_zret C0 hr hlk (by decide) hw (⟨(Or.inl ⟨rfl, trivial⟩), hT13, hF13⟩) (dkP dF_172 DX12_heaps (i := 70) rfl rfl)
      · (try simp (disch := omega) only [ta_lt, ta_le, ta_eq, tnI, tn32 1 (by decide)] at c10)
        refine lv_iconst (v := 1) hx hb (dkP dF_4 DX12_heaps (i := 39) rfl rfl) (by decide) ?_
        exact z_zret C0 hr hlk (by decide) hw (⟨(Or.inl ⟨rfl, trivial⟩), hT9, hF9⟩) (dkP dF_172 DX12_heaps (i := 40) rfl rfl)
    · simp (disch := omega) only [ta_lt, ta_le, ta_eq, tnI, tl32 0 (by decide)] at c4
      refine lv_iconst (v := (-1)) hx hb (dkP dF_2 DX12_heaps (i := 12) rfl rfl) (by decide) ?_
      refine lv_goto (tgt := 44) hx hb (dkS dF_167 DX12_heaps (i := 13) rfl rfl rfl) (by decide) ?_
      refine lv_istore (lv' := [(4, .int (-1)), (3, .int r1), (0, .ref (ad 0)), (1, .int (nI pg)), (2, .int input)]) hx hb (dk1 dF_54 DX12_heaps (i := 26) rfl rfl rfl) hl (by decide) rfl (fun ls hl => ?_)
      refine lv_aload_n hx hb (dkP dF_42 DX12_heaps (i := 27) rfl rfl) rfl (lv_at hl 2 rfl) ?_
      refine lv_iload_n hx hb (dkP dF_27 DX12_heaps (i := 28) rfl rfl) rfl (lv_at hl 3 rfl) ?_
      refine lv_iload hx hb (dk1 dF_21 DX12_heaps (i := 29) rfl rfl rfl) (lv_at hl 0 rfl) ?_
      refine lv_aload_n hx hb (dkP dF_42 DX12_heaps (i := 30) rfl rfl) rfl (lv_at hl 2 rfl) ?_
      refine z_gi C0 hw 0 25 rfl fl_X12_360 (dk2 dF_180 DX12_heaps (i := 31) rfl rfl rfl) ?_
      obtain ⟨v16, ev16⟩ : ∃ y : Int32, s1.1 0 25 = y := ⟨_, rfl⟩
      have hv16 : -1 ≤ v16.toInt ∧ v16.toInt ≤ 39 := by rw [← ev16]; exact (show -1 ≤ _ ∧ _ ≤ 39 from hT1 0 25)
      refine z_top (y := v16) ev16 ?_
      refine lv_iload_n hx hb (dkP dF_29 DX12_heaps (i := 32) rfl rfl) rfl (lv_at hl 1 rfl) ?_
      refine lv_iload_n hx hb (dkP dF_28 DX12_heaps (i := 33) rfl rfl) rfl (lv_at hl 4 rfl) ?_
      refine zk_I hw (zr_V (As := [.int (nI pg), .int (-1), .int v16, .int r1, .int input]) (rest := []) C0 (c_X12_heapFor l G kc ad s1 pg (-1) v16 r1 input (by first | omega | assumption | decide | rfl) hT1 _) cv_X12_heapFor lk_X12_442 (zp_V C0 hRo hw 0 rfl rfl rfl) rfl hl.1 rfl ⟨by decide, by decide⟩ (Nat.le_of_ble_eq_true rfl) (dk2 dF_182 DX12_heaps (i := 34) rfl rfl rfl) ⟨Nat.le_refl _, Nat.le_refl _⟩) (fun r17 s17 H locs hp hw => ?_)
      obtain ⟨f17_0, hT17, hG17⟩ := hp
      have hF17 : fr true [1, 11, 12, 13, 14] [23, 25] σ s17 := fr.t hF1 hG17 (by decide) (by decide) (by decide)
      refine lv_istore (lv' := [(5, .int r17), (4, .int (-1)), (3, .int r1), (0, .ref (ad 0)), (1, .int (nI pg)), (2, .int input)]) hx hb (dk1 dF_54 DX12_heaps (i := 35) rfl rfl rfl) hl (by decide) rfl (fun ls hl => ?_)
      refine lv_iload hx hb (dk1 dF_21 DX12_heaps (i := 36) rfl rfl rfl) (lv_at hl 0 rfl) ?_
      refine lv_iconst (v := (-1)) hx hb (dkP dF_2 DX12_heaps (i := 37) rfl rfl) (by decide) ?_
      refine lv_icmp_ne (tgt := 69) hx hb (dkS dF_160 DX12_heaps (i := 38) rfl rfl rfl) (by decide) (fun c18 => ?_) (fun c18 => ?_)
      · (try simp (disch := omega) only [ta_lt, ta_le, ta_eq, tnI, tn32 1 (by decide)] at c18)
        obtain ⟨n19, hn19, en19⟩ := rngN (x := r17) (h := 59) (show 0 ≤ _ ∧ _ ≤ 59 from by (try simp only [lg_cmp_lt, lg_cmp_le, lg_cmp_gt, lg_cmp_ge, lg_cmp_eq] at c2); (try simp (disch := omega) only [ta_lt, ta_le, ta_eq, tb_lt, tb_le, tb_eq, tw, tnI, tsub1, tsv, tn32 1 (by decide), tnj 1 (by decide), tl32 0 (by decide), tl64 0 (by decide), tl32 1 (by decide), tl64 1 (by decide), tl32 2 (by decide), tl64 2 (by decide), tl32 4 (by decide), tl64 4 (by decide), tl32 5 (by decide), tl64 5 (by decide), tl32 7 (by decide), tl64 7 (by decide), tl32 413608 (by decide), tl64 413608 (by decide)] at c2); (try simp only [lg_cmp_lt, lg_cmp_le, lg_cmp_gt, lg_cmp_ge, lg_cmp_eq] at c4); (try simp (disch := omega) only [ta_lt, ta_le, ta_eq, tb_lt, tb_le, tb_eq, tw, tnI, tsub1, tsv, tn32 1 (by decide), tnj 1 (by decide), tl32 0 (by decide), tl64 0 (by decide), tl32 1 (by decide), tl64 1 (by decide), tl32 2 (by decide), tl64 2 (by decide), tl32 4 (by decide), tl64 4 (by decide), tl32 5 (by decide), tl64 5 (by decide), tl32 7 (by decide), tl64 7 (by decide), tl32 413608 (by decide), tl64 413608 (by decide)] at c4); (try simp only [lg_cmp_lt, lg_cmp_le, lg_cmp_gt, lg_cmp_ge, lg_cmp_eq] at f17_0); (try simp (disch := omega) only [ta_lt, ta_le, ta_eq, tb_lt, tb_le, tb_eq, tw, tnI, tsub1, tsv, tn32 1 (by decide), tnj 1 (by decide), tl32 0 (by decide), tl64 0 (by decide), tl32 1 (by decide), tl64 1 (by decide), tl32 2 (by decide), tl64 2 (by decide), tl32 4 (by decide), tl64 4 (by decide), tl32 5 (by decide), tl64 5 (by decide), tl32 7 (by decide), tl64 7 (by decide), tl32 413608 (by decide), tl64 413608 (by decide)] at f17_0); (try simp only [lg_cmp_lt, lg_cmp_le, lg_cmp_gt, lg_cmp_ge, lg_cmp_eq] at c18); (try simp (disch := omega) only [ta_lt, ta_le, ta_eq, tb_lt, tb_le, tb_eq, tw, tnI, tsub1, tsv, tn32 1 (by decide), tnj 1 (by decide), tl32 0 (by decide), tl64 0 (by decide), tl32 1 (by decide), tl64 1 (by decide), tl32 2 (by decide), tl64 2 (by decide), tl32 4 (by decide), tl64 4 (by decide), tl32 5 (by decide), tl64 5 (by decide), tl32 7 (by decide), tl64 7 (by decide), tl32 413608 (by decide), tl64 413608 (by decide)] at c18); (try simp (disch := omega) only [ta_lt, ta_le, ta_eq, tb_lt, tb_le, tb_eq, tw, tnI, tsub1, tsv, tn32 1 (by decide), tnj 1 (by decide), tl32 0 (by decide), tl64 0 (by decide), tl32 1 (by decide), tl64 1 (by decide), tl32 2 (by decide), tl64 2 (by decide), tl32 4 (by decide), tl64 4 (by decide), tl32 5 (by decide), tl64 5 (by decide), tl32 7 (by decide), tl64 7 (by decide), tl32 413608 (by decide), tl64 413608 (by decide)]); omega)
        subst en19
        refine lv_aload_n hx hb (dkP dF_42 DX12_heaps (i := 41) rfl rfl) rfl (lv_at hl 3 rfl) ?_
        refine z_gr C0 hw 0 1 1 rfl fl_X12_20 (dk2 dF_180 DX12_heaps (i := 42) rfl rfl rfl) ?_
        refine lv_ldcw hx hb hown (hts _ kn_X12_441) (dk2 dF_19 DX12_heaps (i := 43) rfl rfl rfl) ?_
        refine lv_bipush (v := 7) hx hb (dks dF_16 DX12_heaps (i := 44) rfl rfl rfl) (by decide) ?_
        refine lv_iload hx hb (dk1 dF_21 DX12_heaps (i := 45) rfl rfl rfl) (lv_at hl 0 rfl) ?_
        refine lv_imul hx hb (dkP dF_104 DX12_heaps (i := 46) rfl rfl) ?_
        refine z_top (y := nI (7 * n19)) (by simp only [fa_lit, nI_add, pk_mul]) ?_
        refine lv_iadd hx hb (dkP dF_96 DX12_heaps (i := 47) rfl rfl) ?_
        refine z_top (y := nI (413608 + (7 * n19))) (by simp only [fa_lit, nI_add, pk_mul]) ?_
        refine lv_iconst (v := 4) hx hb (dkP dF_7 DX12_heaps (i := 48) rfl rfl) (by decide) ?_
        refine lv_iadd hx hb (dkP dF_96 DX12_heaps (i := 49) rfl rfl) ?_
        refine z_top (y := nI ((413608 + (7 * n19)) + 4)) (by simp only [fa_lit, nI_add, pk_mul]) ?_
        refine lv_dup2_11 hx hb (dkP dF_92 DX12_heaps (i := 50) rfl rfl) rfl rfl ?_
        refine z_ialdN (n := 414128) C0 hw 1 ((413608 + (7 * n19)) + 4) rfl (by omega) (by decide) (dkP dF_46 DX12_heaps (i := 51) rfl rfl) ?_
        obtain ⟨v20, ev20⟩ : ∃ y : Int32, s17.1 1 ((413608 + (7 * n19)) + 4) = y := ⟨_, rfl⟩
        refine z_top (y := v20) ev20 ?_
        refine lv_iconst (v := 1) hx hb (dkP dF_4 DX12_heaps (i := 52) rfl rfl) (by decide) ?_
        refine lv_iadd hx hb (dkP dF_96 DX12_heaps (i := 53) rfl rfl) ?_
        refine z_iastN (n := 414128) C0 hw 1 ((413608 + (7 * n19)) + 4) rfl (by omega) (by decide) (dkP dF_79 DX12_heaps (i := 54) rfl rfl) (fun H locs hw => ?_)
        have hT21 : TM (sI s17 1 ((413608 + (7 * n19)) + 4) (v20 + 1)) := TM.w hT17 (ty_hi (by omega))
        have hF21 : fr true [1, 11, 12, 13, 14] [23, 25] σ (sI s17 1 ((413608 + (7 * n19)) + 4) (v20 + 1)) := fr.w hF17 (Or.inl ⟨by decide, by decide⟩) (fun _ _ => by unfold KR; omega)
        refine lv_aload_n hx hb (dkP dF_42 DX12_heaps (i := 55) rfl rfl) rfl (lv_at hl 3 rfl) ?_
        refine z_gr C0 hw 0 1 1 rfl fl_X12_20 (dk2 dF_180 DX12_heaps (i := 56) rfl rfl rfl) ?_
        refine lv_ldcw hx hb hown (hts _ kn_X12_441) (dk2 dF_19 DX12_heaps (i := 57) rfl rfl rfl) ?_
        refine lv_bipush (v := 7) hx hb (dks dF_16 DX12_heaps (i := 58) rfl rfl rfl) (by decide) ?_
        refine lv_iload hx hb (dk1 dF_21 DX12_heaps (i := 59) rfl rfl rfl) (lv_at hl 0 rfl) ?_
        refine lv_imul hx hb (dkP dF_104 DX12_heaps (i := 60) rfl rfl) ?_
        refine z_top (y := nI (7 * n19)) (by simp only [fa_lit, nI_add, pk_mul]) ?_
        refine lv_iadd hx hb (dkP dF_96 DX12_heaps (i := 61) rfl rfl) ?_
        refine z_top (y := nI (413608 + (7 * n19))) (by simp only [fa_lit, nI_add, pk_mul]) ?_
        refine lv_iconst (v := 5) hx hb (dkP dF_8 DX12_heaps (i := 62) rfl rfl) (by decide) ?_
        refine lv_iadd hx hb (dkP dF_96 DX12_heaps (i := 63) rfl rfl) ?_
        refine z_top (y := nI ((413608 + (7 * n19)) + 5)) (by simp only [fa_lit, nI_add, pk_mul]) ?_
        refine z_ialdN (n := 414128) C0 hw 1 ((413608 + (7 * n19)) + 5) rfl (by omega) (by decide) (dkP dF_46 DX12_heaps (i := 64) rfl rfl) ?_
        obtain ⟨v22, ev22⟩ : ∃ y : Int32, (sI s17 1 ((413608 + (7 * n19)) + 4) (v20 + 1)).1 1 ((413608 + (7 * n19)) + 5) = y := ⟨_, rfl⟩
        refine z_top (y := v22) ev22 ?_
        refine lv_iconst (v := 2) hx hb (dkP dF_5 DX12_heaps (i := 65) rfl rfl) (by decide) ?_
        refine lv_icmp_eq (tgt := 113) hx hb (dkS dF_159 DX12_heaps (i := 66) rfl rfl rfl) (by decide) (fun c23 => ?_) (fun c23 => ?_)
        · (try simp (disch := omega) only [ta_lt, ta_le, ta_eq, tnI, tl32 2 (by decide)] at c23)
          refine lv_iconst (v := 0) hx hb (dkP dF_3 DX12_heaps (i := 69) rfl rfl) (by decide) ?_
          exact z_zret C0 hr hlk (by decide) hw (⟨(Or.inr ⟨rfl, trivial⟩), hT21, hF21⟩) (dkP dF_172 DX12_heaps (i := 70) rfl rfl)
        · (try simp (disch := omega) only [ta_lt, ta_le, ta_eq, tnI, tl32 2 (by decide)] at c23)
          refine lv_iconst (v := 1) hx hb (dkP dF_4 DX12_heaps (i := 67) rfl rfl) (by decide) ?_
          refine lv_goto (tgt := 114) hx hb (dkS dF_167 DX12_heaps (i := 68) rfl rfl rfl) (by decide) ?_
          exact z_zret C0 hr hlk (by decide) hw (⟨(Or.inl ⟨rfl, trivial⟩), hT21, hF21⟩) (dkP dF_172 DX12_heaps (i := 70) rfl rfl)
      · (try simp (disch := omega) only [ta_lt, ta_le, ta_eq, tnI, tn32 1 (by decide)] at c18)
        refine lv_iconst (v := 1) hx hb (dkP dF_4 DX12_heaps (i := 39) rfl rfl) (by decide) ?_
        exact z_zret C0 hr hlk (by decide) hw (⟨(Or.inl ⟨rfl, trivial⟩), hT17, hF17⟩) (dkP dF_172 DX12_heaps (i := 40) rfl rfl)
  · (try simp (disch := omega) only [ta_lt, ta_le, ta_eq, tnI, tl32 0 (by decide)] at c2)
    refine lv_iconst (v := 0) hx hb (dkP dF_3 DX12_heaps (i := 7) rfl rfl) (by decide) ?_
    exact z_zret C0 hr hlk (by decide) hw (⟨(Or.inr ⟨rfl, trivial⟩), hT1, hF1⟩) (dkP dF_172 DX12_heaps (i := 8) rfl rfl)
set_option maxRecDepth 100000 in
set_option maxHeartbeats 8000000 in
theorem c_X12_night (l : Launch) (G : va_G) (kc : KC) (ad : Nat → Nat) (σ : Sg) (program : Int32) (slot : Int32) (hT : TM σ) : MI l G kc yX12_night cX12_night 5 (some .int) 6 138 [.ref (ad 0), .int program, .int slot] shM ad σ (fun r σ1 => TM σ1 ∧ fr true [1, 11, 12, 13, 14] [23, 25] σ σ1) := by
  intro sz
  refine z_body (y := yX12_night) (n := 5) (av := [.ref (ad 0), .int program, .int slot]) (Qc := fun A => va_Qi (fun r σ1 => TM σ1 ∧ fr true [1, 11, 12, 13, 14] [23, 25] σ σ1) (PoC G kc shM ad A) A) (plainFor_of_name (by decide)) (Nat.le_of_ble_eq_true rfl) (fun pr e s m below meth c A C0 hr hlk hnm hw hRo ls hl => ?_) sz
  have hx := C0.1
  have hb := C0.2.1
  have hown := C0.2.2.2.1
  have hts := C0.2.2.2.2.1
  have hl : lv_has ls 5 [(0, .ref (ad 0)), (1, .int program), (2, .int slot)] := hl
  refine lv_aload_n hx hb (dkP dF_42 DX12_night (i := 0) rfl rfl) rfl (lv_at hl 0 rfl) ?_
  refine lv_iload_n hx hb (dkP dF_27 DX12_night (i := 1) rfl rfl) rfl (lv_at hl 1 rfl) ?_
  refine zk_I hw (zr_V (As := [.int program]) (rest := []) C0 (c_X12_hasBoth l G kc ad σ program hT _) cv_X12_hasBoth lk_X12_435 (zp_V C0 hRo hw 0 rfl rfl rfl) rfl hl.1 rfl ⟨by decide, by decide⟩ (Nat.le_of_ble_eq_true rfl) (dk2 dF_182 DX12_night (i := 2) rfl rfl rfl) ⟨Nat.le_refl _, Nat.le_refl _⟩) (fun r1 s1 H locs hp hw => ?_)
  obtain ⟨f1_0, hs1⟩ := hp
  (rw [hs1] at hw)
  rcases f1_0 with ⟨rfl, hc1⟩ | ⟨rfl, hc1⟩
  · skip
    refine lv_if_eq (tgt := 24) hx hb (dkS dF_153 DX12_night (i := 3) rfl rfl rfl) (by decide) (fun h => absurd h (by decide)) (fun _ => ?_)
    obtain ⟨pn, hpn, rfl⟩ := to_nat (x := program) (n := 8) (by (try simp only [lg_cmp_lt, lg_cmp_le, lg_cmp_gt, lg_cmp_ge, lg_cmp_eq] at f1_0); (try simp (disch := omega) only [ta_lt, ta_le, ta_eq, tb_lt, tb_le, tb_eq, tw, tnI, tsub1, tsv, tn32 1 (by decide), tnj 1 (by decide), tl32 0 (by decide), tl64 0 (by decide)] at f1_0); (try simp only [lg_cmp_lt, lg_cmp_le, lg_cmp_gt, lg_cmp_ge, lg_cmp_eq] at hc1); (try simp (disch := omega) only [ta_lt, ta_le, ta_eq, tb_lt, tb_le, tb_eq, tw, tnI, tsub1, tsv, tn32 1 (by decide), tnj 1 (by decide), tl32 0 (by decide), tl64 0 (by decide)] at hc1); (try simp (disch := omega) only [ta_lt, ta_le, ta_eq, tb_lt, tb_le, tb_eq, tw, tnI, tsub1, tsv, tn32 1 (by decide), tnj 1 (by decide), tl32 0 (by decide), tl64 0 (by decide)]); omega)
    refine lv_aload_n hx hb (dkP dF_42 DX12_night (i := 4) rfl rfl) rfl (lv_at hl 0 rfl) ?_
    refine lv_iload_n hx hb (dkP dF_27 DX12_night (i := 5) rfl rfl) rfl (lv_at hl 1 rfl) ?_
    refine zk_I hw (zr_V (As := [.int (nI pn)]) (rest := []) C0 (c_X12_stateOf l G kc ad σ pn (by first | omega | assumption | decide | rfl) _) cv_X12_stateOf lk_X12_275 (zp_V C0 hRo hw 0 rfl rfl rfl) rfl hl.1 rfl ⟨by decide, by decide⟩ (Nat.le_of_ble_eq_true rfl) (dk2 dF_182 DX12_night (i := 6) rfl rfl rfl) ⟨Nat.le_refl _, Nat.le_refl _⟩) (fun r2 s2 H locs hp hw => ?_)
    obtain ⟨rfl, hs2⟩ := hp
    (rw [hs2] at hw; clear hs2)
    obtain ⟨v3, ev3⟩ : ∃ y : Int32, σ.1 1 (8 + 20 * pn) = y := ⟨_, rfl⟩
    refine z_top (y := v3) ev3 ?_
    refine lv_iconst (v := 1) hx hb (dkP dF_4 DX12_night (i := 7) rfl rfl) (by decide) ?_
    refine lv_icmp_ne (tgt := 24) hx hb (dkS dF_160 DX12_night (i := 8) rfl rfl rfl) (by decide) (fun c4 => ?_) (fun c4 => ?_)
    · (try simp (disch := omega) only [ta_lt, ta_le, ta_eq, tnI, tl32 1 (by decide)] at c4)
      refine lv_bipush (v := (-2)) hx hb (dks dF_16 DX12_night (i := 12) rfl rfl rfl) (by decide) ?_
      exact z_iret C0 hr hlk hw (⟨hT, fr.refl⟩) (dkP dF_172 DX12_night (i := 13) rfl rfl)
    · (try simp (disch := omega) only [ta_lt, ta_le, ta_eq, tnI, tl32 1 (by decide)] at c4)
      refine lv_iload_n hx hb (dkP dF_28 DX12_night (i := 9) rfl rfl) rfl (lv_at hl 2 rfl) ?_
      refine zn_I hw (zr_S (As := [.int slot]) (rest := []) C0 (c_X12_isSlot l G kc slot  _) cs_X12_isSlot lk_X12_446 (zp_P C0 hRo hw a00 s00) rfl hl.1 rfl ⟨by decide, by decide⟩ (Nat.le_of_ble_eq_true rfl) (dk2 dF_184 DX12_night (i := 10) rfl rfl rfl) ⟨Nat.le_refl _, Nat.le_refl _⟩) (fun r5 s5 H locs hp hw => ?_)
      rcases hp with ⟨rfl, hc5⟩ | ⟨rfl, hc5⟩
      · skip
        (try simp (disch := omega) only [ta_lt, ta_le, ta_eq, tb_lt, tb_le, tb_eq, tw, tnI, tn32 2 (by decide), tnj 2 (by decide), tn32 1 (by decide), tnj 1 (by decide), tl32 0 (by decide), tl64 0 (by decide), tl32 1 (by decide), tl64 1 (by decide)] at hc5)
        obtain ⟨k_slot, hk_slot, rfl⟩ := to_nat (x := slot) (n := 4) (by (try simp only [lg_cmp_lt, lg_cmp_le, lg_cmp_gt, lg_cmp_ge, lg_cmp_eq] at f1_0); (try simp (disch := omega) only [ta_lt, ta_le, ta_eq, tb_lt, tb_le, tb_eq, tw, tnI, tn32 2 (by decide), tnj 2 (by decide), tn32 1 (by decide), tnj 1 (by decide), tl32 0 (by decide), tl64 0 (by decide), tl32 1 (by decide), tl64 1 (by decide)] at f1_0); (try simp only [lg_cmp_lt, lg_cmp_le, lg_cmp_gt, lg_cmp_ge, lg_cmp_eq] at hc1); (try simp (disch := omega) only [ta_lt, ta_le, ta_eq, tb_lt, tb_le, tb_eq, tw, tnI, tn32 2 (by decide), tnj 2 (by decide), tn32 1 (by decide), tnj 1 (by decide), tl32 0 (by decide), tl64 0 (by decide), tl32 1 (by decide), tl64 1 (by decide)] at hc1); (try simp only [lg_cmp_lt, lg_cmp_le, lg_cmp_gt, lg_cmp_ge, lg_cmp_eq] at b1_1); (try simp (disch := omega) only [ta_lt, ta_le, ta_eq, tb_lt, tb_le, tb_eq, tw, tnI, tn32 2 (by decide), tnj 2 (by decide), tn32 1 (by decide), tnj 1 (by decide), tl32 0 (by decide), tl64 0 (by decide), tl32 1 (by decide), tl64 1 (by decide)] at b1_1); (try simp only [lg_cmp_lt, lg_cmp_le, lg_cmp_gt, lg_cmp_ge, lg_cmp_eq] at c4); (try simp (disch := omega) only [ta_lt, ta_le, ta_eq, tb_lt, tb_le, tb_eq, tw, tnI, tn32 2 (by decide), tnj 2 (by decide), tn32 1 (by decide), tnj 1 (by decide), tl32 0 (by decide), tl64 0 (by decide), tl32 1 (by decide), tl64 1 (by decide)] at c4); (try simp only [lg_cmp_lt, lg_cmp_le, lg_cmp_gt, lg_cmp_ge, lg_cmp_eq] at hc5); (try simp (disch := omega) only [ta_lt, ta_le, ta_eq, tb_lt, tb_le, tb_eq, tw, tnI, tn32 2 (by decide), tnj 2 (by decide), tn32 1 (by decide), tnj 1 (by decide), tl32 0 (by decide), tl64 0 (by decide), tl32 1 (by decide), tl64 1 (by decide)] at hc5); (try simp (disch := omega) only [ta_lt, ta_le, ta_eq, tb_lt, tb_le, tb_eq, tw, tnI, tn32 2 (by decide), tnj 2 (by decide), tn32 1 (by decide), tnj 1 (by decide), tl32 0 (by decide), tl64 0 (by decide), tl32 1 (by decide), tl64 1 (by decide)]); omega)
        refine lv_if_ne (tgt := 27) hx hb (dkS dF_154 DX12_night (i := 11) rfl rfl rfl) (by decide) (fun _ => ?_) (fun h => absurd h (by decide))
        refine lv_aload_n hx hb (dkP dF_42 DX12_night (i := 14) rfl rfl) rfl (lv_at hl 0 rfl) ?_
        refine z_gr C0 hw 0 50 33 rfl fl_X12_126 (dk2 dF_180 DX12_night (i := 15) rfl rfl rfl) ?_
        refine lv_iload_n hx hb (dkP dF_28 DX12_night (i := 16) rfl rfl) rfl (lv_at hl 2 rfl) ?_
        refine z_ialdN (n := 4) C0 hw 33 k_slot rfl (by omega) (by decide) (dkP dF_46 DX12_night (i := 17) rfl rfl) ?_
        obtain ⟨v6, ev6⟩ : ∃ y : Int32, σ.1 33 k_slot = y := ⟨_, rfl⟩
        have hv6 : -1 ≤ v6.toInt ∧ v6.toInt ≤ 60 := by rw [← ev6]; exact (show -1 ≤ _ ∧ _ ≤ 60 from hT 33 _)
        refine z_top (y := v6) ev6 ?_
        refine lv_iconst (v := (-1)) hx hb (dkP dF_2 DX12_night (i := 18) rfl rfl) (by decide) ?_
        refine lv_icmp_ne (tgt := 40) hx hb (dkS dF_160 DX12_night (i := 19) rfl rfl rfl) (by decide) (fun c7 => ?_) (fun c7 => ?_)
        · (try simp (disch := omega) only [ta_lt, ta_le, ta_eq, tnI, tn32 1 (by decide)] at c7)
          refine lv_iconst (v := 0) hx hb (dkP dF_3 DX12_night (i := 22) rfl rfl) (by decide) ?_
          refine lv_istore_n (lv' := [(3, .int 0), (0, .ref (ad 0)), (1, .int (nI pn)), (2, .int (nI k_slot))]) hx hb (dkP dF_62 DX12_night (i := 23) rfl rfl) rfl hl (by decide) rfl (fun ls hl => ?_)
          have lp8 : ∀ (nq : Nat) (q3_42 : Nat) (H : Heap) (locs : List Loc) (ls : Array Slot), 2147483647 - q3_42 < nq → (q3_42 ≤ 2147483647) → St G kc A s.heap shM ad σ H locs → lv_has ls 5 [(3, .int (nI q3_42)), (0, .ref (ad 0)), (1, .int (nI pn)), (2, .int (nI k_slot))] → W pr l e { frames := 6, cells := 0, slots := 0, locals := 138 } s m ([.ref (ad 0), .int (nI pn), .int (nI k_slot)] : List Value).toArray below meth c H locs 0 0 (MQ below (va_Qi (fun r σ1 => TM σ1 ∧ fr true [1, 11, 12, 13, 14] [23, 25] σ σ1) (PoC G kc shM ad A) A) ([.ref (ad 0), .int (nI pn), .int (nI k_slot)] : List Value).toArray s 0 0 A) (F0 m 42 ls []) := by
            intro nq
            induction nq with
            | zero => intro q3_42 H locs ls hmu; exact absurd hmu (Nat.not_lt_zero _)
            | succ nq ih8 =>
              intro q3_42 H locs ls hmu hq3_42 hw hl
              refine lv_iload_n hx hb (dkP dF_29 DX12_night (i := 24) rfl rfl) rfl (lv_at hl 0 rfl) ?_
              refine lv_aload_n hx hb (dkP dF_42 DX12_night (i := 25) rfl rfl) rfl (lv_at hl 1 rfl) ?_
              refine z_gr C0 hw 0 50 33 rfl fl_X12_126 (dk2 dF_180 DX12_night (i := 26) rfl rfl rfl) ?_
              refine lv_iload_n hx hb (dkP dF_28 DX12_night (i := 27) rfl rfl) rfl (lv_at hl 3 rfl) ?_
              refine z_ialdN (n := 4) C0 hw 33 k_slot rfl (by omega) (by decide) (dkP dF_46 DX12_night (i := 28) rfl rfl) ?_
              refine z_top (y := v6) ev6 ?_
              refine lv_icmp_ge (tgt := 87) hx hb (dkS dF_162 DX12_night (i := 29) rfl rfl rfl) (by decide) (fun c9 => ?_) (fun c9 => ?_)
              · (try simp (disch := omega) only [ta_lt, ta_le, ta_eq, tnI] at c9); have hz9 := i32b v6
                refine lv_iconst (v := 0) hx hb (dkP dF_3 DX12_night (i := 51) rfl rfl) (by decide) ?_
                refine lv_istore_n (lv' := [(3, .int 0), (0, .ref (ad 0)), (1, .int (nI pn)), (2, .int (nI k_slot))]) hx hb (dkP dF_62 DX12_night (i := 52) rfl rfl) rfl hl (by decide) rfl (fun ls hl => ?_)
                refine lv_iconst (v := 0) hx hb (dkP dF_3 DX12_night (i := 53) rfl rfl) (by decide) ?_
                refine lv_istore (lv' := [(4, .int 0), (3, .int 0), (0, .ref (ad 0)), (1, .int (nI pn)), (2, .int (nI k_slot))]) hx hb (dk1 dF_54 DX12_night (i := 54) rfl rfl rfl) hl (by decide) rfl (fun ls hl => ?_)
                have lp11 : ∀ (nq : Nat) (q4_92 : Nat) (q3_92 : Int32) (τ10 : Sg) (H : Heap) (locs : List Loc) (ls : Array Slot), 2147483647 - q4_92 < nq → (q4_92 ≤ 2147483647) → (TM τ10) → (fr true [1, 11, 12, 13, 14] [23, 25] σ τ10) → St G kc A s.heap shM ad τ10 H locs → lv_has ls 5 [(4, .int (nI q4_92)), (3, .int q3_92), (0, .ref (ad 0)), (1, .int (nI pn)), (2, .int (nI k_slot))] → W pr l e { frames := 6, cells := 0, slots := 0, locals := 138 } s m ([.ref (ad 0), .int (nI pn), .int (nI k_slot)] : List Value).toArray below meth c H locs 0 0 (MQ below (va_Qi (fun r σ1 => TM σ1 ∧ fr true [1, 11, 12, 13, 14] [23, 25] σ σ1) (PoC G kc shM ad A) A) ([.ref (ad 0), .int (nI pn), .int (nI k_slot)] : List Value).toArray s 0 0 A) (F0 m 92 ls []) := by
                  intro nq
                  induction nq with
                  | zero => intro q4_92 q3_92 τ10 H locs ls hmu; exact absurd hmu (Nat.not_lt_zero _)
                  | succ nq ih11 =>
                    intro q4_92 q3_92 τ10 H locs ls hmu hq4_92 hT_τ10 hF_τ10 hw hl
                    refine lv_iload hx hb (dk1 dF_21 DX12_night (i := 55) rfl rfl rfl) (lv_at hl 0 rfl) ?_
                    refine lv_aload_n hx hb (dkP dF_42 DX12_night (i := 56) rfl rfl) rfl (lv_at hl 2 rfl) ?_
                    refine z_gr C0 hw 0 50 33 rfl fl_X12_126 (dk2 dF_180 DX12_night (i := 57) rfl rfl rfl) ?_
                    refine lv_iload_n hx hb (dkP dF_28 DX12_night (i := 58) rfl rfl) rfl (lv_at hl 4 rfl) ?_
                    refine z_ialdN (n := 4) C0 hw 33 k_slot rfl (by omega) (by decide) (dkP dF_46 DX12_night (i := 59) rfl rfl) ?_
                    refine z_top (y := v6) ((congrFun (hF_τ10.1 33 (by decide) (by decide)) _).trans ev6) ?_
                    refine lv_icmp_ge (tgt := 138) hx hb (dkS dF_162 DX12_night (i := 60) rfl rfl rfl) (by decide) (fun c12 => ?_) (fun c12 => ?_)
                    · (try simp (disch := omega) only [ta_lt, ta_le, ta_eq, tnI] at c12); have hz12 := i32b v6
                      refine lv_aload_n hx hb (dkP dF_42 DX12_night (i := 82) rfl rfl) rfl (lv_at hl 2 rfl) ?_
                      refine z_gr C0 hw 0 1 1 rfl fl_X12_20 (dk2 dF_180 DX12_night (i := 83) rfl rfl rfl) ?_
                      refine lv_iconst (v := 0) hx hb (dkP dF_3 DX12_night (i := 84) rfl rfl) (by decide) ?_
                      refine lv_dup2_11 hx hb (dkP dF_92 DX12_night (i := 85) rfl rfl) rfl rfl ?_
                      refine z_ialdN (n := 414128) C0 hw 1 0 rfl (by omega) (by decide) (dkP dF_46 DX12_night (i := 86) rfl rfl) ?_
                      obtain ⟨v13, ev13⟩ : ∃ y : Int32, τ10.1 1 0 = y := ⟨_, rfl⟩
                      refine z_top (y := v13) ev13 ?_
                      refine lv_iconst (v := 1) hx hb (dkP dF_4 DX12_night (i := 87) rfl rfl) (by decide) ?_
                      refine lv_iadd hx hb (dkP dF_96 DX12_night (i := 88) rfl rfl) ?_
                      refine z_iastN (n := 414128) C0 hw 1 0 rfl (by omega) (by decide) (dkP dF_79 DX12_night (i := 89) rfl rfl) (fun H locs hw => ?_)
                      have hT14 : TM (sI τ10 1 0 (v13 + 1)) := TM.w hT_τ10 (ty_k (by decide))
                      have hF14 : fr true [1, 11, 12, 13, 14] [23, 25] σ (sI τ10 1 0 (v13 + 1)) := fr.w hF_τ10 (Or.inl ⟨by decide, by decide⟩) (fun _ _ => by unfold KR; omega)
                      refine lv_aload_n hx hb (dkP dF_42 DX12_night (i := 90) rfl rfl) rfl (lv_at hl 2 rfl) ?_
                      refine z_gr C0 hw 0 1 1 rfl fl_X12_20 (dk2 dF_180 DX12_night (i := 91) rfl rfl rfl) ?_
                      refine lv_iload_n hx hb (dkP dF_27 DX12_night (i := 92) rfl rfl) rfl (lv_at hl 3 rfl) ?_
                      refine zn_I hw (zr_S (As := [.int (nI pn)]) (rest := [.ref (ad 1)]) C0 (c_X12_of l G kc pn  _) cs_X12_of lk_X12_139 (zp_P C0 hRo hw a00 s00) rfl hl.1 rfl ⟨by decide, by decide⟩ (Nat.le_of_ble_eq_true rfl) (dk2 dF_184 DX12_night (i := 93) rfl rfl rfl) ⟨Nat.le_refl _, Nat.le_refl _⟩) (fun r15 s15 H locs hp hw => ?_)
                      subst hp
                      refine lv_iconst (v := 3) hx hb (dkP dF_6 DX12_night (i := 94) rfl rfl) (by decide) ?_
                      refine lv_iadd hx hb (dkP dF_96 DX12_night (i := 95) rfl rfl) ?_
                      refine z_top (y := nI ((8 + 20 * pn) + 3)) (by simp only [fa_lit, nI_add, pk_mul]) ?_
                      refine lv_iload_n hx hb (dkP dF_29 DX12_night (i := 96) rfl rfl) rfl (lv_at hl 1 rfl) ?_
                      refine z_iastN (n := 414128) C0 hw 1 ((8 + 20 * pn) + 3) rfl (by omega) (by decide) (dkP dF_79 DX12_night (i := 97) rfl rfl) (fun H locs hw => ?_)
                      have hT16 : TM (sI (sI τ10 1 0 (v13 + 1)) 1 ((8 + 20 * pn) + 3) q3_92) := TM.w hT14 (ty_w3 (by omega))
                      have hF16 : fr true [1, 11, 12, 13, 14] [23, 25] σ (sI (sI τ10 1 0 (v13 + 1)) 1 ((8 + 20 * pn) + 3) q3_92) := fr.w hF14 (Or.inl ⟨by decide, by decide⟩) (fun _ _ => by unfold KR; omega)
                      refine lv_iload_n hx hb (dkP dF_29 DX12_night (i := 98) rfl rfl) rfl (lv_at hl 1 rfl) ?_
                      exact z_iret C0 hr hlk hw (⟨hT16, hF16⟩) (dkP dF_172 DX12_night (i := 99) rfl rfl)
                    · (try simp (disch := omega) only [ta_lt, ta_le, ta_eq, tnI] at c12); have hz12 := i32b v6
                      refine lv_iload_n hx hb (dkP dF_29 DX12_night (i := 61) rfl rfl) rfl (lv_at hl 1 rfl) ?_
                      refine lv_aload_n hx hb (dkP dF_42 DX12_night (i := 62) rfl rfl) rfl (lv_at hl 2 rfl) ?_
                      refine lv_iload_n hx hb (dkP dF_27 DX12_night (i := 63) rfl rfl) rfl (lv_at hl 3 rfl) ?_
                      refine lv_aload_n hx hb (dkP dF_42 DX12_night (i := 64) rfl rfl) rfl (lv_at hl 2 rfl) ?_
                      refine z_gr C0 hw 0 52 35 rfl fl_X12_132 (dk2 dF_180 DX12_night (i := 65) rfl rfl rfl) ?_
                      refine lv_bipush (v := 60) hx hb (dks dF_16 DX12_night (i := 66) rfl rfl rfl) (by decide) ?_
                      refine lv_iload_n hx hb (dkP dF_28 DX12_night (i := 67) rfl rfl) rfl (lv_at hl 4 rfl) ?_
                      refine lv_imul hx hb (dkP dF_104 DX12_night (i := 68) rfl rfl) ?_
                      refine z_top (y := nI (60 * k_slot)) (by simp only [fa_lit, nI_add, pk_mul]) ?_
                      refine lv_iload hx hb (dk1 dF_21 DX12_night (i := 69) rfl rfl rfl) (lv_at hl 0 rfl) ?_
                      refine lv_iadd hx hb (dkP dF_96 DX12_night (i := 70) rfl rfl) ?_
                      refine z_top (y := nI ((60 * k_slot) + q4_92)) (by simp only [fa_lit, nI_add, pk_mul]) ?_
                      refine z_laldN (n := 240) C0 hw 35 ((60 * k_slot) + q4_92) rfl (by omega) (by decide) (dkP dF_47 DX12_night (i := 71) rfl rfl) ?_
                      refine lv_l2i hx hb (dkP dF_136 DX12_night (i := 72) rfl rfl) rfl ?_
                      refine zk_I hw (zr_V (As := [.int (nI pn), .int ((τ10.2.1 35 ((60 * k_slot) + q4_92)).toInt32)]) (rest := [.int q3_92]) C0 (c_X12_heaps l G kc ad τ10 pn ((τ10.2.1 35 ((60 * k_slot) + q4_92)).toInt32) (by first | omega | assumption | decide | rfl) hT_τ10 _) cv_X12_heaps lk_X12_449 (zp_V C0 hRo hw 0 rfl rfl rfl) rfl hl.1 rfl ⟨by decide, by decide⟩ (Nat.le_of_ble_eq_true rfl) (dk2 dF_182 DX12_night (i := 73) rfl rfl rfl) ⟨Nat.le_refl _, Nat.le_refl _⟩) (fun r17 s17 H locs hp hw => ?_)
                      obtain ⟨f17_0, hT17, hG17⟩ := hp
                      have hF17 : fr true [1, 11, 12, 13, 14] [23, 25] σ s17 := fr.t hF_τ10 hG17 (by decide) (by decide) (by decide)
                      rcases f17_0 with ⟨rfl, hc17⟩ | ⟨rfl, hc17⟩
                      · skip
                        refine lv_if_eq (tgt := 129) hx hb (dkS dF_153 DX12_night (i := 74) rfl rfl rfl) (by decide) (fun h => absurd h (by decide)) (fun _ => ?_)
                        refine lv_iconst (v := 1) hx hb (dkP dF_4 DX12_night (i := 75) rfl rfl) (by decide) ?_
                        refine lv_goto (tgt := 130) hx hb (dkS dF_167 DX12_night (i := 76) rfl rfl rfl) (by decide) ?_
                        refine lv_iadd hx hb (dkP dF_96 DX12_night (i := 78) rfl rfl) ?_
                        refine lv_topi (fun v18 ev18 => ?_)
                        refine lv_istore_n (lv' := [(3, .int v18), (4, .int (nI q4_92)), (0, .ref (ad 0)), (1, .int (nI pn)), (2, .int (nI k_slot))]) hx hb (dkP dF_62 DX12_night (i := 79) rfl rfl) rfl hl (by decide) rfl (fun ls hl => ?_)
                        refine lv_iinc (v := nI (q4_92 + 1)) (lv' := [(4, .int (nI (q4_92 + 1))), (3, .int v18), (0, .ref (ad 0)), (1, .int (nI pn)), (2, .int (nI k_slot))]) hx hb (dkI DX12_night (i := 80) rfl rfl rfl rfl) hl (k := 1) rfl (nI_1 _) (by decide) rfl (fun ls hl => ?_)
                        refine lv_goto (tgt := 92) hx hb (dkS dF_167 DX12_night (i := 81) rfl rfl rfl) (by decide) ?_
                        exact ih11 (q4_92 + 1) v18 s17 _ _ _ (by omega) (by (try simp only [lg_cmp_lt, lg_cmp_le, lg_cmp_gt, lg_cmp_ge, lg_cmp_eq] at f1_0); (try simp (disch := omega) only [ta_lt, ta_le, ta_eq, tb_lt, tb_le, tb_eq, tw, tnI, tsub1, tsv, tn32 2 (by decide), tnj 2 (by decide), tn32 1 (by decide), tnj 1 (by decide), tl32 0 (by decide), tl64 0 (by decide), tl32 1 (by decide), tl64 1 (by decide), tl32 3 (by decide), tl64 3 (by decide), tl32 60 (by decide), tl64 60 (by decide)] at f1_0); (try simp only [lg_cmp_lt, lg_cmp_le, lg_cmp_gt, lg_cmp_ge, lg_cmp_eq] at hc1); (try simp (disch := omega) only [ta_lt, ta_le, ta_eq, tb_lt, tb_le, tb_eq, tw, tnI, tsub1, tsv, tn32 2 (by decide), tnj 2 (by decide), tn32 1 (by decide), tnj 1 (by decide), tl32 0 (by decide), tl64 0 (by decide), tl32 1 (by decide), tl64 1 (by decide), tl32 3 (by decide), tl64 3 (by decide), tl32 60 (by decide), tl64 60 (by decide)] at hc1); (try simp only [lg_cmp_lt, lg_cmp_le, lg_cmp_gt, lg_cmp_ge, lg_cmp_eq] at c4); (try simp (disch := omega) only [ta_lt, ta_le, ta_eq, tb_lt, tb_le, tb_eq, tw, tnI, tsub1, tsv, tn32 2 (by decide), tnj 2 (by decide), tn32 1 (by decide), tnj 1 (by decide), tl32 0 (by decide), tl64 0 (by decide), tl32 1 (by decide), tl64 1 (by decide), tl32 3 (by decide), tl64 3 (by decide), tl32 60 (by decide), tl64 60 (by decide)] at c4); (try simp only [lg_cmp_lt, lg_cmp_le, lg_cmp_gt, lg_cmp_ge, lg_cmp_eq] at hc5); (try simp (disch := omega) only [ta_lt, ta_le, ta_eq, tb_lt, tb_le, tb_eq, tw, tnI, tsub1, tsv, tn32 2 (by decide), tnj 2 (by decide), tn32 1 (by decide), tnj 1 (by decide), tl32 0 (by decide), tl64 0 (by decide), tl32 1 (by decide), tl64 1 (by decide), tl32 3 (by decide), tl64 3 (by decide), tl32 60 (by decide), tl64 60 (by decide)] at hc5); (try simp only [lg_cmp_lt, lg_cmp_le, lg_cmp_gt, lg_cmp_ge, lg_cmp_eq] at c7); (try simp (disch := omega) only [ta_lt, ta_le, ta_eq, tb_lt, tb_le, tb_eq, tw, tnI, tsub1, tsv, tn32 2 (by decide), tnj 2 (by decide), tn32 1 (by decide), tnj 1 (by decide), tl32 0 (by decide), tl64 0 (by decide), tl32 1 (by decide), tl64 1 (by decide), tl32 3 (by decide), tl64 3 (by decide), tl32 60 (by decide), tl64 60 (by decide)] at c7); (try simp only [lg_cmp_lt, lg_cmp_le, lg_cmp_gt, lg_cmp_ge, lg_cmp_eq] at c9); (try simp (disch := omega) only [ta_lt, ta_le, ta_eq, tb_lt, tb_le, tb_eq, tw, tnI, tsub1, tsv, tn32 2 (by decide), tnj 2 (by decide), tn32 1 (by decide), tnj 1 (by decide), tl32 0 (by decide), tl64 0 (by decide), tl32 1 (by decide), tl64 1 (by decide), tl32 3 (by decide), tl64 3 (by decide), tl32 60 (by decide), tl64 60 (by decide)] at c9); (try simp only [lg_cmp_lt, lg_cmp_le, lg_cmp_gt, lg_cmp_ge, lg_cmp_eq] at c12); (try simp (disch := omega) only [ta_lt, ta_le, ta_eq, tb_lt, tb_le, tb_eq, tw, tnI, tsub1, tsv, tn32 2 (by decide), tnj 2 (by decide), tn32 1 (by decide), tnj 1 (by decide), tl32 0 (by decide), tl64 0 (by decide), tl32 1 (by decide), tl64 1 (by decide), tl32 3 (by decide), tl64 3 (by decide), tl32 60 (by decide), tl64 60 (by decide)] at c12); (try simp only [lg_cmp_lt, lg_cmp_le, lg_cmp_gt, lg_cmp_ge, lg_cmp_eq] at f17_0); (try simp (disch := omega) only [ta_lt, ta_le, ta_eq, tb_lt, tb_le, tb_eq, tw, tnI, tsub1, tsv, tn32 2 (by decide), tnj 2 (by decide), tn32 1 (by decide), tnj 1 (by decide), tl32 0 (by decide), tl64 0 (by decide), tl32 1 (by decide), tl64 1 (by decide), tl32 3 (by decide), tl64 3 (by decide), tl32 60 (by decide), tl64 60 (by decide)] at f17_0); (try simp only [lg_cmp_lt, lg_cmp_le, lg_cmp_gt, lg_cmp_ge, lg_cmp_eq] at hc17); (try simp (disch := omega) only [ta_lt, ta_le, ta_eq, tb_lt, tb_le, tb_eq, tw, tnI, tsub1, tsv, tn32 2 (by decide), tnj 2 (by decide), tn32 1 (by decide), tnj 1 (by decide), tl32 0 (by decide), tl64 0 (by decide), tl32 1 (by decide), tl64 1 (by decide), tl32 3 (by decide), tl64 3 (by decide), tl32 60 (by decide), tl64 60 (by decide)] at hc17); (try simp (disch := omega) only [ta_lt, ta_le, ta_eq, tb_lt, tb_le, tb_eq, tw, tnI, tsub1, tsv, tn32 2 (by decide), tnj 2 (by decide), tn32 1 (by decide), tnj 1 (by decide), tl32 0 (by decide), tl64 0 (by decide), tl32 1 (by decide), tl64 1 (by decide), tl32 3 (by decide), tl64 3 (by decide), tl32 60 (by decide), tl64 60 (by decide)]); omega) hT17 hF17 hw (lv_sub hl [0, 1, 2, 3, 4] rfl)
                      · skip
                        refine lv_if_eq (tgt := 129) hx hb (dkS dF_153 DX12_night (i := 74) rfl rfl rfl) (by decide) (fun _ => ?_) (fun h => absurd h (by decide))
                        refine lv_iconst (v := 0) hx hb (dkP dF_3 DX12_night (i := 77) rfl rfl) (by decide) ?_
                        refine lv_iadd hx hb (dkP dF_96 DX12_night (i := 78) rfl rfl) ?_
                        refine lv_topi (fun v19 ev19 => ?_)
                        refine lv_istore_n (lv' := [(3, .int v19), (4, .int (nI q4_92)), (0, .ref (ad 0)), (1, .int (nI pn)), (2, .int (nI k_slot))]) hx hb (dkP dF_62 DX12_night (i := 79) rfl rfl) rfl hl (by decide) rfl (fun ls hl => ?_)
                        refine lv_iinc (v := nI (q4_92 + 1)) (lv' := [(4, .int (nI (q4_92 + 1))), (3, .int v19), (0, .ref (ad 0)), (1, .int (nI pn)), (2, .int (nI k_slot))]) hx hb (dkI DX12_night (i := 80) rfl rfl rfl rfl) hl (k := 1) rfl (nI_1 _) (by decide) rfl (fun ls hl => ?_)
                        refine lv_goto (tgt := 92) hx hb (dkS dF_167 DX12_night (i := 81) rfl rfl rfl) (by decide) ?_
                        exact ih11 (q4_92 + 1) v19 s17 _ _ _ (by omega) (by (try simp only [lg_cmp_lt, lg_cmp_le, lg_cmp_gt, lg_cmp_ge, lg_cmp_eq] at f1_0); (try simp (disch := omega) only [ta_lt, ta_le, ta_eq, tb_lt, tb_le, tb_eq, tw, tnI, tsub1, tsv, tn32 2 (by decide), tnj 2 (by decide), tn32 1 (by decide), tnj 1 (by decide), tl32 0 (by decide), tl64 0 (by decide), tl32 1 (by decide), tl64 1 (by decide), tl32 3 (by decide), tl64 3 (by decide), tl32 60 (by decide), tl64 60 (by decide)] at f1_0); (try simp only [lg_cmp_lt, lg_cmp_le, lg_cmp_gt, lg_cmp_ge, lg_cmp_eq] at hc1); (try simp (disch := omega) only [ta_lt, ta_le, ta_eq, tb_lt, tb_le, tb_eq, tw, tnI, tsub1, tsv, tn32 2 (by decide), tnj 2 (by decide), tn32 1 (by decide), tnj 1 (by decide), tl32 0 (by decide), tl64 0 (by decide), tl32 1 (by decide), tl64 1 (by decide), tl32 3 (by decide), tl64 3 (by decide), tl32 60 (by decide), tl64 60 (by decide)] at hc1); (try simp only [lg_cmp_lt, lg_cmp_le, lg_cmp_gt, lg_cmp_ge, lg_cmp_eq] at c4); (try simp (disch := omega) only [ta_lt, ta_le, ta_eq, tb_lt, tb_le, tb_eq, tw, tnI, tsub1, tsv, tn32 2 (by decide), tnj 2 (by decide), tn32 1 (by decide), tnj 1 (by decide), tl32 0 (by decide), tl64 0 (by decide), tl32 1 (by decide), tl64 1 (by decide), tl32 3 (by decide), tl64 3 (by decide), tl32 60 (by decide), tl64 60 (by decide)] at c4); (try simp only [lg_cmp_lt, lg_cmp_le, lg_cmp_gt, lg_cmp_ge, lg_cmp_eq] at hc5); (try simp (disch := omega) only [ta_lt, ta_le, ta_eq, tb_lt, tb_le, tb_eq, tw, tnI, tsub1, tsv, tn32 2 (by decide), tnj 2 (by decide), tn32 1 (by decide), tnj 1 (by decide), tl32 0 (by decide), tl64 0 (by decide), tl32 1 (by decide), tl64 1 (by decide), tl32 3 (by decide), tl64 3 (by decide), tl32 60 (by decide), tl64 60 (by decide)] at hc5); (try simp only [lg_cmp_lt, lg_cmp_le, lg_cmp_gt, lg_cmp_ge, lg_cmp_eq] at c7); (try simp (disch := omega) only [ta_lt, ta_le, ta_eq, tb_lt, tb_le, tb_eq, tw, tnI, tsub1, tsv, tn32 2 (by decide), tnj 2 (by decide), tn32 1 (by decide), tnj 1 (by decide), tl32 0 (by decide), tl64 0 (by decide), tl32 1 (by decide), tl64 1 (by decide), tl32 3 (by decide), tl64 3 (by decide), tl32 60 (by decide), tl64 60 (by decide)] at c7); (try simp only [lg_cmp_lt, lg_cmp_le, lg_cmp_gt, lg_cmp_ge, lg_cmp_eq] at c9); (try simp (disch := omega) only [ta_lt, ta_le, ta_eq, tb_lt, tb_le, tb_eq, tw, tnI, tsub1, tsv, tn32 2 (by decide), tnj 2 (by decide), tn32 1 (by decide), tnj 1 (by decide), tl32 0 (by decide), tl64 0 (by decide), tl32 1 (by decide), tl64 1 (by decide), tl32 3 (by decide), tl64 3 (by decide), tl32 60 (by decide), tl64 60 (by decide)] at c9); (try simp only [lg_cmp_lt, lg_cmp_le, lg_cmp_gt, lg_cmp_ge, lg_cmp_eq] at c12); (try simp (disch := omega) only [ta_lt, ta_le, ta_eq, tb_lt, tb_le, tb_eq, tw, tnI, tsub1, tsv, tn32 2 (by decide), tnj 2 (by decide), tn32 1 (by decide), tnj 1 (by decide), tl32 0 (by decide), tl64 0 (by decide), tl32 1 (by decide), tl64 1 (by decide), tl32 3 (by decide), tl64 3 (by decide), tl32 60 (by decide), tl64 60 (by decide)] at c12); (try simp only [lg_cmp_lt, lg_cmp_le, lg_cmp_gt, lg_cmp_ge, lg_cmp_eq] at f17_0); (try simp (disch := omega) only [ta_lt, ta_le, ta_eq, tb_lt, tb_le, tb_eq, tw, tnI, tsub1, tsv, tn32 2 (by decide), tnj 2 (by decide), tn32 1 (by decide), tnj 1 (by decide), tl32 0 (by decide), tl64 0 (by decide), tl32 1 (by decide), tl64 1 (by decide), tl32 3 (by decide), tl64 3 (by decide), tl32 60 (by decide), tl64 60 (by decide)] at f17_0); (try simp only [lg_cmp_lt, lg_cmp_le, lg_cmp_gt, lg_cmp_ge, lg_cmp_eq] at hc17); (try simp (disch := omega) only [ta_lt, ta_le, ta_eq, tb_lt, tb_le, tb_eq, tw, tnI, tsub1, tsv, tn32 2 (by decide), tnj 2 (by decide), tn32 1 (by decide), tnj 1 (by decide), tl32 0 (by decide), tl64 0 (by decide), tl32 1 (by decide), tl64 1 (by decide), tl32 3 (by decide), tl64 3 (by decide), tl32 60 (by decide), tl64 60 (by decide)] at hc17); (try simp (disch := omega) only [ta_lt, ta_le, ta_eq, tb_lt, tb_le, tb_eq, tw, tnI, tsub1, tsv, tn32 2 (by decide), tnj 2 (by decide), tn32 1 (by decide), tnj 1 (by decide), tl32 0 (by decide), tl64 0 (by decide), tl32 1 (by decide), tl64 1 (by decide), tl32 3 (by decide), tl64 3 (by decide), tl32 60 (by decide), tl64 60 (by decide)]); omega) hT17 hF17 hw (lv_sub hl [0, 1, 2, 3, 4] rfl)
                exact lp11 _ 0 0 σ _ _ _ (Nat.lt_succ_self _) (by (try simp only [lg_cmp_lt, lg_cmp_le, lg_cmp_gt, lg_cmp_ge, lg_cmp_eq] at f1_0); (try simp (disch := omega) only [ta_lt, ta_le, ta_eq, tb_lt, tb_le, tb_eq, tw, tnI, tsub1, tsv, tn32 2 (by decide), tnj 2 (by decide), tn32 1 (by decide), tnj 1 (by decide), tl32 0 (by decide), tl64 0 (by decide), tl32 1 (by decide), tl64 1 (by decide), tl32 3 (by decide), tl64 3 (by decide), tl32 60 (by decide), tl64 60 (by decide)] at f1_0); (try simp only [lg_cmp_lt, lg_cmp_le, lg_cmp_gt, lg_cmp_ge, lg_cmp_eq] at hc1); (try simp (disch := omega) only [ta_lt, ta_le, ta_eq, tb_lt, tb_le, tb_eq, tw, tnI, tsub1, tsv, tn32 2 (by decide), tnj 2 (by decide), tn32 1 (by decide), tnj 1 (by decide), tl32 0 (by decide), tl64 0 (by decide), tl32 1 (by decide), tl64 1 (by decide), tl32 3 (by decide), tl64 3 (by decide), tl32 60 (by decide), tl64 60 (by decide)] at hc1); (try simp only [lg_cmp_lt, lg_cmp_le, lg_cmp_gt, lg_cmp_ge, lg_cmp_eq] at c4); (try simp (disch := omega) only [ta_lt, ta_le, ta_eq, tb_lt, tb_le, tb_eq, tw, tnI, tsub1, tsv, tn32 2 (by decide), tnj 2 (by decide), tn32 1 (by decide), tnj 1 (by decide), tl32 0 (by decide), tl64 0 (by decide), tl32 1 (by decide), tl64 1 (by decide), tl32 3 (by decide), tl64 3 (by decide), tl32 60 (by decide), tl64 60 (by decide)] at c4); (try simp only [lg_cmp_lt, lg_cmp_le, lg_cmp_gt, lg_cmp_ge, lg_cmp_eq] at hc5); (try simp (disch := omega) only [ta_lt, ta_le, ta_eq, tb_lt, tb_le, tb_eq, tw, tnI, tsub1, tsv, tn32 2 (by decide), tnj 2 (by decide), tn32 1 (by decide), tnj 1 (by decide), tl32 0 (by decide), tl64 0 (by decide), tl32 1 (by decide), tl64 1 (by decide), tl32 3 (by decide), tl64 3 (by decide), tl32 60 (by decide), tl64 60 (by decide)] at hc5); (try simp only [lg_cmp_lt, lg_cmp_le, lg_cmp_gt, lg_cmp_ge, lg_cmp_eq] at c7); (try simp (disch := omega) only [ta_lt, ta_le, ta_eq, tb_lt, tb_le, tb_eq, tw, tnI, tsub1, tsv, tn32 2 (by decide), tnj 2 (by decide), tn32 1 (by decide), tnj 1 (by decide), tl32 0 (by decide), tl64 0 (by decide), tl32 1 (by decide), tl64 1 (by decide), tl32 3 (by decide), tl64 3 (by decide), tl32 60 (by decide), tl64 60 (by decide)] at c7); (try simp only [lg_cmp_lt, lg_cmp_le, lg_cmp_gt, lg_cmp_ge, lg_cmp_eq] at c9); (try simp (disch := omega) only [ta_lt, ta_le, ta_eq, tb_lt, tb_le, tb_eq, tw, tnI, tsub1, tsv, tn32 2 (by decide), tnj 2 (by decide), tn32 1 (by decide), tnj 1 (by decide), tl32 0 (by decide), tl64 0 (by decide), tl32 1 (by decide), tl64 1 (by decide), tl32 3 (by decide), tl64 3 (by decide), tl32 60 (by decide), tl64 60 (by decide)] at c9); (try simp (disch := omega) only [ta_lt, ta_le, ta_eq, tb_lt, tb_le, tb_eq, tw, tnI, tsub1, tsv, tn32 2 (by decide), tnj 2 (by decide), tn32 1 (by decide), tnj 1 (by decide), tl32 0 (by decide), tl64 0 (by decide), tl32 1 (by decide), tl64 1 (by decide), tl32 3 (by decide), tl64 3 (by decide), tl32 60 (by decide), tl64 60 (by decide)]); omega) hT fr.refl hw (lv_sub hl [0, 1, 2, 3, 4] rfl)
              · (try simp (disch := omega) only [ta_lt, ta_le, ta_eq, tnI] at c9); have hz9 := i32b v6
                refine lv_aload_n hx hb (dkP dF_42 DX12_night (i := 30) rfl rfl) rfl (lv_at hl 1 rfl) ?_
                refine z_gr C0 hw 0 52 35 rfl fl_X12_132 (dk2 dF_180 DX12_night (i := 31) rfl rfl rfl) ?_
                refine lv_bipush (v := 60) hx hb (dks dF_16 DX12_night (i := 32) rfl rfl rfl) (by decide) ?_
                refine lv_iload_n hx hb (dkP dF_28 DX12_night (i := 33) rfl rfl) rfl (lv_at hl 3 rfl) ?_
                refine lv_imul hx hb (dkP dF_104 DX12_night (i := 34) rfl rfl) ?_
                refine z_top (y := nI (60 * k_slot)) (by simp only [fa_lit, nI_add, pk_mul]) ?_
                refine lv_iload_n hx hb (dkP dF_29 DX12_night (i := 35) rfl rfl) rfl (lv_at hl 0 rfl) ?_
                refine lv_iadd hx hb (dkP dF_96 DX12_night (i := 36) rfl rfl) ?_
                refine z_top (y := nI ((60 * k_slot) + q3_42)) (by simp only [fa_lit, nI_add, pk_mul]) ?_
                refine z_laldN (n := 240) C0 hw 35 ((60 * k_slot) + q3_42) rfl (by omega) (by decide) (dkP dF_47 DX12_night (i := 37) rfl rfl) ?_
                refine lv_lconst (v := 0) hx hb (dkP dF_9 DX12_night (i := 38) rfl rfl) (by decide) ?_
                refine lv_aload_n hx hb (dkP dF_42 DX12_night (i := 39) rfl rfl) rfl (lv_at hl 1 rfl) ?_
                refine lv_iload_n hx hb (dkP dF_27 DX12_night (i := 40) rfl rfl) rfl (lv_at hl 2 rfl) ?_
                refine zk_I hw (zr_V (As := [.int (nI pn)]) (rest := [.long 0, .long (σ.2.1 35 ((60 * k_slot) + q3_42))]) C0 (c_X12_inputsOf l G kc ad σ pn (by first | omega | assumption | decide | rfl) hT _) cv_X12_inputsOf lk_X12_339 (zp_V C0 hRo hw 0 rfl rfl rfl) rfl hl.1 rfl ⟨by decide, by decide⟩ (Nat.le_of_ble_eq_true rfl) (dk2 dF_182 DX12_night (i := 41) rfl rfl rfl) ⟨Nat.le_refl _, Nat.le_refl _⟩) (fun r20 s20 H locs hp hw => ?_)
                have hs20 := hp
                (rw [hs20] at hw)
                refine lv_iconst (v := 1) hx hb (dkP dF_4 DX12_night (i := 42) rfl rfl) (by decide) ?_
                refine lv_isub hx hb (dkP dF_100 DX12_night (i := 43) rfl rfl) ?_
                refine lv_i2l hx hb (dkP dF_133 DX12_night (i := 44) rfl rfl) rfl ?_
                refine zn_I hw (zr_S (As := [.long (σ.2.1 35 ((60 * k_slot) + q3_42)), .long 0, .long ((r20 - 1).toInt64)]) (rest := []) C0 (c_X12_in l G kc (σ.2.1 35 ((60 * k_slot) + q3_42)) 0 ((r20 - 1).toInt64)  _) cs_X12_in lk_X12_9 (zp_P C0 hRo hw a00 s00) rfl hl.1 rfl ⟨by decide, by decide⟩ (Nat.le_of_ble_eq_true rfl) (dk2 dF_184 DX12_night (i := 45) rfl rfl rfl) ⟨Nat.le_refl _, Nat.le_refl _⟩) (fun r21 s21 H locs hp hw => ?_)
                rcases hp with ⟨rfl, hc21⟩ | ⟨rfl, hc21⟩
                · skip
                  (try simp (disch := omega) only [ta_lt, ta_le, ta_eq, tb_lt, tb_le, tb_eq, tw, tnI, tn32 2 (by decide), tnj 2 (by decide), tn32 1 (by decide), tnj 1 (by decide), tl32 0 (by decide), tl64 0 (by decide), tl32 1 (by decide), tl64 1 (by decide), tl32 3 (by decide), tl64 3 (by decide), tl32 60 (by decide), tl64 60 (by decide)] at hc21)
                  refine lv_if_ne (tgt := 81) hx hb (dkS dF_154 DX12_night (i := 46) rfl rfl rfl) (by decide) (fun _ => ?_) (fun h => absurd h (by decide))
                  refine lv_iinc (v := nI (q3_42 + 1)) (lv' := [(3, .int (nI (q3_42 + 1))), (0, .ref (ad 0)), (1, .int (nI pn)), (2, .int (nI k_slot))]) hx hb (dkI DX12_night (i := 49) rfl rfl rfl rfl) hl (k := 0) rfl (nI_1 _) (by decide) rfl (fun ls hl => ?_)
                  refine lv_goto (tgt := 42) hx hb (dkS dF_167 DX12_night (i := 50) rfl rfl rfl) (by decide) ?_
                  exact ih8 (q3_42 + 1) _ _ _ (by omega) (by (try simp only [lg_cmp_lt, lg_cmp_le, lg_cmp_gt, lg_cmp_ge, lg_cmp_eq] at f1_0); (try simp (disch := omega) only [ta_lt, ta_le, ta_eq, tb_lt, tb_le, tb_eq, tw, tnI, tsub1, tsv, tn32 2 (by decide), tnj 2 (by decide), tn32 1 (by decide), tnj 1 (by decide), tl32 0 (by decide), tl64 0 (by decide), tl32 1 (by decide), tl64 1 (by decide), tl32 3 (by decide), tl64 3 (by decide), tl32 60 (by decide), tl64 60 (by decide)] at f1_0); (try simp only [lg_cmp_lt, lg_cmp_le, lg_cmp_gt, lg_cmp_ge, lg_cmp_eq] at hc1); (try simp (disch := omega) only [ta_lt, ta_le, ta_eq, tb_lt, tb_le, tb_eq, tw, tnI, tsub1, tsv, tn32 2 (by decide), tnj 2 (by decide), tn32 1 (by decide), tnj 1 (by decide), tl32 0 (by decide), tl64 0 (by decide), tl32 1 (by decide), tl64 1 (by decide), tl32 3 (by decide), tl64 3 (by decide), tl32 60 (by decide), tl64 60 (by decide)] at hc1); (try simp only [lg_cmp_lt, lg_cmp_le, lg_cmp_gt, lg_cmp_ge, lg_cmp_eq] at c4); (try simp (disch := omega) only [ta_lt, ta_le, ta_eq, tb_lt, tb_le, tb_eq, tw, tnI, tsub1, tsv, tn32 2 (by decide), tnj 2 (by decide), tn32 1 (by decide), tnj 1 (by decide), tl32 0 (by decide), tl64 0 (by decide), tl32 1 (by decide), tl64 1 (by decide), tl32 3 (by decide), tl64 3 (by decide), tl32 60 (by decide), tl64 60 (by decide)] at c4); (try simp only [lg_cmp_lt, lg_cmp_le, lg_cmp_gt, lg_cmp_ge, lg_cmp_eq] at hc5); (try simp (disch := omega) only [ta_lt, ta_le, ta_eq, tb_lt, tb_le, tb_eq, tw, tnI, tsub1, tsv, tn32 2 (by decide), tnj 2 (by decide), tn32 1 (by decide), tnj 1 (by decide), tl32 0 (by decide), tl64 0 (by decide), tl32 1 (by decide), tl64 1 (by decide), tl32 3 (by decide), tl64 3 (by decide), tl32 60 (by decide), tl64 60 (by decide)] at hc5); (try simp only [lg_cmp_lt, lg_cmp_le, lg_cmp_gt, lg_cmp_ge, lg_cmp_eq] at c7); (try simp (disch := omega) only [ta_lt, ta_le, ta_eq, tb_lt, tb_le, tb_eq, tw, tnI, tsub1, tsv, tn32 2 (by decide), tnj 2 (by decide), tn32 1 (by decide), tnj 1 (by decide), tl32 0 (by decide), tl64 0 (by decide), tl32 1 (by decide), tl64 1 (by decide), tl32 3 (by decide), tl64 3 (by decide), tl32 60 (by decide), tl64 60 (by decide)] at c7); (try simp only [lg_cmp_lt, lg_cmp_le, lg_cmp_gt, lg_cmp_ge, lg_cmp_eq] at c9); (try simp (disch := omega) only [ta_lt, ta_le, ta_eq, tb_lt, tb_le, tb_eq, tw, tnI, tsub1, tsv, tn32 2 (by decide), tnj 2 (by decide), tn32 1 (by decide), tnj 1 (by decide), tl32 0 (by decide), tl64 0 (by decide), tl32 1 (by decide), tl64 1 (by decide), tl32 3 (by decide), tl64 3 (by decide), tl32 60 (by decide), tl64 60 (by decide)] at c9); (try simp only [lg_cmp_lt, lg_cmp_le, lg_cmp_gt, lg_cmp_ge, lg_cmp_eq] at hc21); (try simp (disch := omega) only [ta_lt, ta_le, ta_eq, tb_lt, tb_le, tb_eq, tw, tnI, tsub1, tsv, tn32 2 (by decide), tnj 2 (by decide), tn32 1 (by decide), tnj 1 (by decide), tl32 0 (by decide), tl64 0 (by decide), tl32 1 (by decide), tl64 1 (by decide), tl32 3 (by decide), tl64 3 (by decide), tl32 60 (by decide), tl64 60 (by decide)] at hc21); (try simp (disch := omega) only [ta_lt, ta_le, ta_eq, tb_lt, tb_le, tb_eq, tw, tnI, tsub1, tsv, tn32 2 (by decide), tnj 2 (by decide), tn32 1 (by decide), tnj 1 (by decide), tl32 0 (by decide), tl64 0 (by decide), tl32 1 (by decide), tl64 1 (by decide), tl32 3 (by decide), tl64 3 (by decide), tl32 60 (by decide), tl64 60 (by decide)]); omega) hw (lv_sub hl [0, 1, 2, 3] rfl)
                · skip
                  (try simp (disch := omega) only [ta_lt, ta_le, ta_eq, tb_lt, tb_le, tb_eq, tw, tnI, tn32 2 (by decide), tnj 2 (by decide), tn32 1 (by decide), tnj 1 (by decide), tl32 0 (by decide), tl64 0 (by decide), tl32 1 (by decide), tl64 1 (by decide), tl32 3 (by decide), tl64 3 (by decide), tl32 60 (by decide), tl64 60 (by decide)] at hc21)
                  refine lv_if_ne (tgt := 81) hx hb (dkS dF_154 DX12_night (i := 46) rfl rfl rfl) (by decide) (fun h => absurd h (by decide)) (fun _ => ?_)
                  refine lv_bipush (v := (-7)) hx hb (dks dF_16 DX12_night (i := 47) rfl rfl rfl) (by decide) ?_
                  exact z_iret C0 hr hlk hw (⟨hT, fr.refl⟩) (dkP dF_172 DX12_night (i := 48) rfl rfl)
          exact lp8 _ 0 _ _ _ (Nat.lt_succ_self _) (by (try simp only [lg_cmp_lt, lg_cmp_le, lg_cmp_gt, lg_cmp_ge, lg_cmp_eq] at f1_0); (try simp (disch := omega) only [ta_lt, ta_le, ta_eq, tb_lt, tb_le, tb_eq, tw, tnI, tsub1, tsv, tn32 7 (by decide), tnj 7 (by decide), tn32 2 (by decide), tnj 2 (by decide), tn32 1 (by decide), tnj 1 (by decide), tl32 0 (by decide), tl64 0 (by decide), tl32 1 (by decide), tl64 1 (by decide), tl32 3 (by decide), tl64 3 (by decide), tl32 60 (by decide), tl64 60 (by decide)] at f1_0); (try simp only [lg_cmp_lt, lg_cmp_le, lg_cmp_gt, lg_cmp_ge, lg_cmp_eq] at hc1); (try simp (disch := omega) only [ta_lt, ta_le, ta_eq, tb_lt, tb_le, tb_eq, tw, tnI, tsub1, tsv, tn32 7 (by decide), tnj 7 (by decide), tn32 2 (by decide), tnj 2 (by decide), tn32 1 (by decide), tnj 1 (by decide), tl32 0 (by decide), tl64 0 (by decide), tl32 1 (by decide), tl64 1 (by decide), tl32 3 (by decide), tl64 3 (by decide), tl32 60 (by decide), tl64 60 (by decide)] at hc1); (try simp only [lg_cmp_lt, lg_cmp_le, lg_cmp_gt, lg_cmp_ge, lg_cmp_eq] at c4); (try simp (disch := omega) only [ta_lt, ta_le, ta_eq, tb_lt, tb_le, tb_eq, tw, tnI, tsub1, tsv, tn32 7 (by decide), tnj 7 (by decide), tn32 2 (by decide), tnj 2 (by decide), tn32 1 (by decide), tnj 1 (by decide), tl32 0 (by decide), tl64 0 (by decide), tl32 1 (by decide), tl64 1 (by decide), tl32 3 (by decide), tl64 3 (by decide), tl32 60 (by decide), tl64 60 (by decide)] at c4); (try simp only [lg_cmp_lt, lg_cmp_le, lg_cmp_gt, lg_cmp_ge, lg_cmp_eq] at hc5); (try simp (disch := omega) only [ta_lt, ta_le, ta_eq, tb_lt, tb_le, tb_eq, tw, tnI, tsub1, tsv, tn32 7 (by decide), tnj 7 (by decide), tn32 2 (by decide), tnj 2 (by decide), tn32 1 (by decide), tnj 1 (by decide), tl32 0 (by decide), tl64 0 (by decide), tl32 1 (by decide), tl64 1 (by decide), tl32 3 (by decide), tl64 3 (by decide), tl32 60 (by decide), tl64 60 (by decide)] at hc5); (try simp only [lg_cmp_lt, lg_cmp_le, lg_cmp_gt, lg_cmp_ge, lg_cmp_eq] at c7); (try simp (disch := omega) only [ta_lt, ta_le, ta_eq, tb_lt, tb_le, tb_eq, tw, tnI, tsub1, tsv, tn32 7 (by decide), tnj 7 (by decide), tn32 2 (by decide), tnj 2 (by decide), tn32 1 (by decide), tnj 1 (by decide), tl32 0 (by decide), tl64 0 (by decide), tl32 1 (by decide), tl64 1 (by decide), tl32 3 (by decide), tl64 3 (by decide), tl32 60 (by decide), tl64 60 (by decide)] at c7); (try simp (disch := omega) only [ta_lt, ta_le, ta_eq, tb_lt, tb_le, tb_eq, tw, tnI, tsub1, tsv, tn32 7 (by decide), tnj 7 (by decide), tn32 2 (by decide), tnj 2 (by decide), tn32 1 (by decide), tnj 1 (by decide), tl32 0 (by decide), tl64 0 (by decide), tl32 1 (by decide), tl64 1 (by decide), tl32 3 (by decide), tl64 3 (by decide), tl32 60 (by decide), tl64 60 (by decide)]); omega) hw (lv_sub hl [0, 1, 2, 3] rfl)
        · (try simp (disch := omega) only [ta_lt, ta_le, ta_eq, tnI, tn32 1 (by decide)] at c7)
          refine lv_bipush (v := (-6)) hx hb (dks dF_16 DX12_night (i := 20) rfl rfl rfl) (by decide) ?_
          exact z_iret C0 hr hlk hw (⟨hT, fr.refl⟩) (dkP dF_172 DX12_night (i := 21) rfl rfl)
      · skip
        (try simp (disch := omega) only [ta_lt, ta_le, ta_eq, tb_lt, tb_le, tb_eq, tw, tnI, tn32 7 (by decide), tnj 7 (by decide), tn32 6 (by decide), tnj 6 (by decide), tn32 2 (by decide), tnj 2 (by decide), tn32 1 (by decide), tnj 1 (by decide), tl32 0 (by decide), tl64 0 (by decide), tl32 1 (by decide), tl64 1 (by decide), tl32 3 (by decide), tl64 3 (by decide), tl32 60 (by decide), tl64 60 (by decide)] at hc5)
        refine lv_if_ne (tgt := 27) hx hb (dkS dF_154 DX12_night (i := 11) rfl rfl rfl) (by decide) (fun h => absurd h (by decide)) (fun _ => ?_)
        refine lv_bipush (v := (-2)) hx hb (dks dF_16 DX12_night (i := 12) rfl rfl rfl) (by decide) ?_
        exact z_iret C0 hr hlk hw (⟨hT, fr.refl⟩) (dkP dF_172 DX12_night (i := 13) rfl rfl)
  · skip
    refine lv_if_eq (tgt := 24) hx hb (dkS dF_153 DX12_night (i := 3) rfl rfl rfl) (by decide) (fun _ => ?_) (fun h => absurd h (by decide))
    refine lv_bipush (v := (-2)) hx hb (dks dF_16 DX12_night (i := 12) rfl rfl rfl) (by decide) ?_
    exact z_iret C0 hr hlk hw (⟨hT, fr.refl⟩) (dkP dF_172 DX12_night (i := 13) rfl rfl)
set_option maxRecDepth 100000 in
set_option maxHeartbeats 8000000 in
theorem c_X12_heaps_ (l : Launch) (G : va_G) (kc : KC) (ad : Nat → Nat) (σ : Sg)  (hT : TM σ) : MI l G kc yX12_heaps_ cX12_heaps_ 1 (some .int) 0 0 [.ref (ad 0)] shM ad σ (fun r σ1 => σ1 = σ) := by
  intro sz
  refine z_body (y := yX12_heaps_) (n := 1) (av := [.ref (ad 0)]) (Qc := fun A => va_Qi (fun r σ1 => σ1 = σ) (PoC G kc shM ad A) A) (plainFor_of_name (by decide)) (Nat.le_of_ble_eq_true rfl) (fun pr e s m below meth c A C0 hr hlk hnm hw hRo ls hl => ?_) sz
  have hx := C0.1
  have hb := C0.2.1
  have hown := C0.2.2.2.1
  have hts := C0.2.2.2.2.1
  have hl : lv_has ls 1 [(0, .ref (ad 0))] := hl
  refine lv_aload_n hx hb (dkP dF_42 DX12_heaps_ (i := 0) rfl rfl) rfl (lv_at hl 0 rfl) ?_
  refine z_gr C0 hw 0 1 1 rfl fl_X12_20 (dk2 dF_180 DX12_heaps_ (i := 1) rfl rfl rfl) ?_
  refine lv_iconst (v := 2) hx hb (dkP dF_5 DX12_heaps_ (i := 2) rfl rfl) (by decide) ?_
  refine z_ialdN (n := 414128) C0 hw 1 2 rfl (by omega) (by decide) (dkP dF_46 DX12_heaps_ (i := 3) rfl rfl) ?_
  obtain ⟨n1, hn1, en1⟩ := rngN (x := σ.1 1 2) (h := 60) (show 0 ≤ _ ∧ _ ≤ 60 from hT 1 2)
  refine z_top (y := nI n1) en1 ?_
  exact z_iret C0 hr hlk hw rfl (dkP dF_172 DX12_heaps_ (i := 4) rfl rfl)
set_option maxRecDepth 100000 in
set_option maxHeartbeats 8000000 in
theorem c_X12_heap (l : Launch) (G : va_G) (kc : KC) (ad : Nat → Nat) (σ : Sg) (hh : Int32) (what : Int32) (hT : TM σ) : MI l G kc yX12_heap cX12_heap 3 (some .int) 1 25 [.ref (ad 0), .int hh, .int what] shM ad σ (fun r σ1 => σ1 = σ) := by
  intro sz
  refine z_body (y := yX12_heap) (n := 3) (av := [.ref (ad 0), .int hh, .int what]) (Qc := fun A => va_Qi (fun r σ1 => σ1 = σ) (PoC G kc shM ad A) A) (plainFor_of_name (by decide)) (Nat.le_of_ble_eq_true rfl) (fun pr e s m below meth c A C0 hr hlk hnm hw hRo ls hl => ?_) sz
  have hx := C0.1
  have hb := C0.2.1
  have hown := C0.2.2.2.1
  have hts := C0.2.2.2.2.1
  have hl : lv_has ls 3 [(0, .ref (ad 0)), (1, .int hh), (2, .int what)] := hl
  refine lv_iload_n hx hb (dkP dF_27 DX12_heap (i := 0) rfl rfl) rfl (lv_at hl 1 rfl) ?_
  refine lv_i2l hx hb (dkP dF_133 DX12_heap (i := 1) rfl rfl) rfl ?_
  refine lv_lconst (v := 0) hx hb (dkP dF_9 DX12_heap (i := 2) rfl rfl) (by decide) ?_
  refine lv_aload_n hx hb (dkP dF_42 DX12_heap (i := 3) rfl rfl) rfl (lv_at hl 0 rfl) ?_
  refine z_gr C0 hw 0 1 1 rfl fl_X12_20 (dk2 dF_180 DX12_heap (i := 4) rfl rfl rfl) ?_
  refine lv_iconst (v := 2) hx hb (dkP dF_5 DX12_heap (i := 5) rfl rfl) (by decide) ?_
  refine z_ialdN (n := 414128) C0 hw 1 2 rfl (by omega) (by decide) (dkP dF_46 DX12_heap (i := 6) rfl rfl) ?_
  obtain ⟨n1, hn1, en1⟩ := rngN (x := σ.1 1 2) (h := 60) (show 0 ≤ _ ∧ _ ≤ 60 from hT 1 2)
  refine z_top (y := nI n1) en1 ?_
  refine lv_iconst (v := 1) hx hb (dkP dF_4 DX12_heap (i := 7) rfl rfl) (by decide) ?_
  refine lv_isub hx hb (dkP dF_100 DX12_heap (i := 8) rfl rfl) ?_
  refine lv_i2l hx hb (dkP dF_133 DX12_heap (i := 9) rfl rfl) rfl ?_
  refine zn_I hw (zr_S (As := [.long hh.toInt64, .long 0, .long (((nI n1) - 1).toInt64)]) (rest := []) C0 (c_X12_in l G kc hh.toInt64 0 (((nI n1) - 1).toInt64)  _) cs_X12_in lk_X12_9 (zp_P C0 hRo hw a00 s00) rfl hl.1 rfl ⟨by decide, by decide⟩ (Nat.le_of_ble_eq_true rfl) (dk2 dF_184 DX12_heap (i := 10) rfl rfl rfl) ⟨Nat.le_refl _, Nat.le_refl _⟩) (fun r2 s2 H locs hp hw => ?_)
  rcases hp with ⟨rfl, hc2⟩ | ⟨rfl, hc2⟩
  · skip
    (try simp (disch := omega) only [ta_lt, ta_le, ta_eq, tb_lt, tb_le, tb_eq, tw, tnI, tn32 1 (by decide), tnj 1 (by decide), tl32 0 (by decide), tl64 0 (by decide), tl32 1 (by decide), tl64 1 (by decide), tl32 2 (by decide), tl64 2 (by decide)] at hc2)
    refine lv_if_eq (tgt := 48) hx hb (dkS dF_153 DX12_heap (i := 11) rfl rfl rfl) (by decide) (fun h => absurd h (by decide)) (fun _ => ?_)
    obtain ⟨hn_, hhn_, rfl⟩ := to_nat (x := hh) (n := 60) (by (try simp only [lg_cmp_lt, lg_cmp_le, lg_cmp_gt, lg_cmp_ge, lg_cmp_eq] at hc2); (try simp (disch := omega) only [ta_lt, ta_le, ta_eq, tb_lt, tb_le, tb_eq, tw, tnI, tsub1, tsv, tn32 1 (by decide), tnj 1 (by decide), tl32 0 (by decide), tl64 0 (by decide), tl32 1 (by decide), tl64 1 (by decide), tl32 2 (by decide), tl64 2 (by decide)] at hc2); (try simp (disch := omega) only [ta_lt, ta_le, ta_eq, tb_lt, tb_le, tb_eq, tw, tnI, tsub1, tsv, tn32 1 (by decide), tnj 1 (by decide), tl32 0 (by decide), tl64 0 (by decide), tl32 1 (by decide), tl64 1 (by decide), tl32 2 (by decide), tl64 2 (by decide)]); omega)
    refine lv_iload_n hx hb (dkP dF_28 DX12_heap (i := 12) rfl rfl) rfl (lv_at hl 2 rfl) ?_
    refine lv_i2l hx hb (dkP dF_133 DX12_heap (i := 13) rfl rfl) rfl ?_
    refine lv_lconst (v := 0) hx hb (dkP dF_9 DX12_heap (i := 14) rfl rfl) (by decide) ?_
    refine lv_ldc2 hx hb hown (hts _ kn_X12_452) (dk2 dF_20 DX12_heap (i := 15) rfl rfl rfl) ?_
    refine zn_I hw (zr_S (As := [.long what.toInt64, .long 0, .long 6]) (rest := []) C0 (c_X12_in l G kc what.toInt64 0 6  _) cs_X12_in lk_X12_9 (zp_P C0 hRo hw a00 s00) rfl hl.1 rfl ⟨by decide, by decide⟩ (Nat.le_of_ble_eq_true rfl) (dk2 dF_184 DX12_heap (i := 16) rfl rfl rfl) ⟨Nat.le_refl _, Nat.le_refl _⟩) (fun r3 s3 H locs hp hw => ?_)
    rcases hp with ⟨rfl, hc3⟩ | ⟨rfl, hc3⟩
    · skip
      (try simp (disch := omega) only [ta_lt, ta_le, ta_eq, tb_lt, tb_le, tb_eq, tw, tnI, tn32 1 (by decide), tnj 1 (by decide), tl32 0 (by decide), tl64 0 (by decide), tl32 1 (by decide), tl64 1 (by decide), tl32 2 (by decide), tl64 2 (by decide), tl32 6 (by decide), tl64 6 (by decide)] at hc3)
      obtain ⟨k_what, hk_what, rfl⟩ := to_nat (x := what) (n := 7) (by (try simp only [lg_cmp_lt, lg_cmp_le, lg_cmp_gt, lg_cmp_ge, lg_cmp_eq] at hc2); (try simp (disch := omega) only [ta_lt, ta_le, ta_eq, tb_lt, tb_le, tb_eq, tw, tnI, tn32 1 (by decide), tnj 1 (by decide), tl32 0 (by decide), tl64 0 (by decide), tl32 1 (by decide), tl64 1 (by decide), tl32 2 (by decide), tl64 2 (by decide), tl32 6 (by decide), tl64 6 (by decide)] at hc2); (try simp only [lg_cmp_lt, lg_cmp_le, lg_cmp_gt, lg_cmp_ge, lg_cmp_eq] at hc3); (try simp (disch := omega) only [ta_lt, ta_le, ta_eq, tb_lt, tb_le, tb_eq, tw, tnI, tn32 1 (by decide), tnj 1 (by decide), tl32 0 (by decide), tl64 0 (by decide), tl32 1 (by decide), tl64 1 (by decide), tl32 2 (by decide), tl64 2 (by decide), tl32 6 (by decide), tl64 6 (by decide)] at hc3); (try simp (disch := omega) only [ta_lt, ta_le, ta_eq, tb_lt, tb_le, tb_eq, tw, tnI, tn32 1 (by decide), tnj 1 (by decide), tl32 0 (by decide), tl64 0 (by decide), tl32 1 (by decide), tl64 1 (by decide), tl32 2 (by decide), tl64 2 (by decide), tl32 6 (by decide), tl64 6 (by decide)]); omega)
      refine lv_if_eq (tgt := 48) hx hb (dkS dF_153 DX12_heap (i := 17) rfl rfl rfl) (by decide) (fun h => absurd h (by decide)) (fun _ => ?_)
      refine lv_aload_n hx hb (dkP dF_42 DX12_heap (i := 18) rfl rfl) rfl (lv_at hl 0 rfl) ?_
      refine z_gr C0 hw 0 1 1 rfl fl_X12_20 (dk2 dF_180 DX12_heap (i := 19) rfl rfl rfl) ?_
      refine lv_ldcw hx hb hown (hts _ kn_X12_441) (dk2 dF_19 DX12_heap (i := 20) rfl rfl rfl) ?_
      refine lv_bipush (v := 7) hx hb (dks dF_16 DX12_heap (i := 21) rfl rfl rfl) (by decide) ?_
      refine lv_iload_n hx hb (dkP dF_27 DX12_heap (i := 22) rfl rfl) rfl (lv_at hl 1 rfl) ?_
      refine lv_imul hx hb (dkP dF_104 DX12_heap (i := 23) rfl rfl) ?_
      refine z_top (y := nI (7 * hn_)) (by simp only [fa_lit, nI_add, pk_mul]) ?_
      refine lv_iadd hx hb (dkP dF_96 DX12_heap (i := 24) rfl rfl) ?_
      refine z_top (y := nI (413608 + (7 * hn_))) (by simp only [fa_lit, nI_add, pk_mul]) ?_
      refine lv_iload_n hx hb (dkP dF_28 DX12_heap (i := 25) rfl rfl) rfl (lv_at hl 2 rfl) ?_
      refine lv_iadd hx hb (dkP dF_96 DX12_heap (i := 26) rfl rfl) ?_
      refine z_top (y := nI ((413608 + (7 * hn_)) + k_what)) (by simp only [fa_lit, nI_add, pk_mul]) ?_
      refine z_ialdN (n := 414128) C0 hw 1 ((413608 + (7 * hn_)) + k_what) rfl (by omega) (by decide) (dkP dF_46 DX12_heap (i := 27) rfl rfl) ?_
      obtain ⟨v4, ev4⟩ : ∃ y : Int32, σ.1 1 ((413608 + (7 * hn_)) + k_what) = y := ⟨_, rfl⟩
      refine z_top (y := v4) ev4 ?_
      refine lv_goto (tgt := 49) hx hb (dkS dF_167 DX12_heap (i := 28) rfl rfl rfl) (by decide) ?_
      exact z_iret C0 hr hlk hw rfl (dkP dF_172 DX12_heap (i := 30) rfl rfl)
    · skip
      (try simp (disch := omega) only [ta_lt, ta_le, ta_eq, tb_lt, tb_le, tb_eq, tw, tnI, tn32 1 (by decide), tnj 1 (by decide), tl32 0 (by decide), tl64 0 (by decide), tl32 1 (by decide), tl64 1 (by decide), tl32 2 (by decide), tl64 2 (by decide), tl32 6 (by decide), tl64 6 (by decide), tl32 7 (by decide), tl64 7 (by decide), tl32 413608 (by decide), tl64 413608 (by decide)] at hc3)
      refine lv_if_eq (tgt := 48) hx hb (dkS dF_153 DX12_heap (i := 17) rfl rfl rfl) (by decide) (fun _ => ?_) (fun h => absurd h (by decide))
      refine lv_iconst (v := (-1)) hx hb (dkP dF_2 DX12_heap (i := 29) rfl rfl) (by decide) ?_
      exact z_iret C0 hr hlk hw rfl (dkP dF_172 DX12_heap (i := 30) rfl rfl)
  · skip
    (try simp (disch := omega) only [ta_lt, ta_le, ta_eq, tb_lt, tb_le, tb_eq, tw, tnI, tn32 1 (by decide), tnj 1 (by decide), tl32 0 (by decide), tl64 0 (by decide), tl32 1 (by decide), tl64 1 (by decide), tl32 2 (by decide), tl64 2 (by decide), tl32 6 (by decide), tl64 6 (by decide), tl32 7 (by decide), tl64 7 (by decide), tl32 413608 (by decide), tl64 413608 (by decide)] at hc2)
    refine lv_if_eq (tgt := 48) hx hb (dkS dF_153 DX12_heap (i := 11) rfl rfl rfl) (by decide) (fun _ => ?_) (fun h => absurd h (by decide))
    refine lv_iconst (v := (-1)) hx hb (dkP dF_2 DX12_heap (i := 29) rfl rfl) (by decide) ?_
    exact z_iret C0 hr hlk hw rfl (dkP dF_172 DX12_heap (i := 30) rfl rfl)
set_option maxRecDepth 100000 in
set_option maxHeartbeats 8000000 in
theorem c_X12_judge (l : Launch) (G : va_G) (kc : KC) (ad : Nat → Nat) (σ : Sg) (hh : Int32) (word : Int32) (hT : TM σ) : MI l G kc yX12_judge cX12_judge 5 (some .int) 1 25 [.ref (ad 0), .int hh, .int word] shM ad σ (fun r σ1 => TM σ1 ∧ fr true [1] [] σ σ1) := by
  intro sz
  refine z_body (y := yX12_judge) (n := 5) (av := [.ref (ad 0), .int hh, .int word]) (Qc := fun A => va_Qi (fun r σ1 => TM σ1 ∧ fr true [1] [] σ σ1) (PoC G kc shM ad A) A) (plainFor_of_name (by decide)) (Nat.le_of_ble_eq_true rfl) (fun pr e s m below meth c A C0 hr hlk hnm hw hRo ls hl => ?_) sz
  have hx := C0.1
  have hb := C0.2.1
  have hown := C0.2.2.2.1
  have hts := C0.2.2.2.2.1
  have hl : lv_has ls 5 [(0, .ref (ad 0)), (1, .int hh), (2, .int word)] := hl
  refine lv_iload_n hx hb (dkP dF_27 DX12_judge (i := 0) rfl rfl) rfl (lv_at hl 1 rfl) ?_
  refine lv_i2l hx hb (dkP dF_133 DX12_judge (i := 1) rfl rfl) rfl ?_
  refine lv_lconst (v := 0) hx hb (dkP dF_9 DX12_judge (i := 2) rfl rfl) (by decide) ?_
  refine lv_aload_n hx hb (dkP dF_42 DX12_judge (i := 3) rfl rfl) rfl (lv_at hl 0 rfl) ?_
  refine z_gr C0 hw 0 1 1 rfl fl_X12_20 (dk2 dF_180 DX12_judge (i := 4) rfl rfl rfl) ?_
  refine lv_iconst (v := 2) hx hb (dkP dF_5 DX12_judge (i := 5) rfl rfl) (by decide) ?_
  refine z_ialdN (n := 414128) C0 hw 1 2 rfl (by omega) (by decide) (dkP dF_46 DX12_judge (i := 6) rfl rfl) ?_
  obtain ⟨n1, hn1, en1⟩ := rngN (x := σ.1 1 2) (h := 60) (show 0 ≤ _ ∧ _ ≤ 60 from hT 1 2)
  refine z_top (y := nI n1) en1 ?_
  refine lv_iconst (v := 1) hx hb (dkP dF_4 DX12_judge (i := 7) rfl rfl) (by decide) ?_
  refine lv_isub hx hb (dkP dF_100 DX12_judge (i := 8) rfl rfl) ?_
  refine lv_i2l hx hb (dkP dF_133 DX12_judge (i := 9) rfl rfl) rfl ?_
  refine zn_I hw (zr_S (As := [.long hh.toInt64, .long 0, .long (((nI n1) - 1).toInt64)]) (rest := []) C0 (c_X12_in l G kc hh.toInt64 0 (((nI n1) - 1).toInt64)  _) cs_X12_in lk_X12_9 (zp_P C0 hRo hw a00 s00) rfl hl.1 rfl ⟨by decide, by decide⟩ (Nat.le_of_ble_eq_true rfl) (dk2 dF_184 DX12_judge (i := 10) rfl rfl rfl) ⟨Nat.le_refl _, Nat.le_refl _⟩) (fun r2 s2 H locs hp hw => ?_)
  rcases hp with ⟨rfl, hc2⟩ | ⟨rfl, hc2⟩
  · skip
    (try simp (disch := omega) only [ta_lt, ta_le, ta_eq, tb_lt, tb_le, tb_eq, tw, tnI, tn32 1 (by decide), tnj 1 (by decide), tl32 0 (by decide), tl64 0 (by decide), tl32 1 (by decide), tl64 1 (by decide), tl32 2 (by decide), tl64 2 (by decide)] at hc2)
    refine lv_if_eq (tgt := 30) hx hb (dkS dF_153 DX12_judge (i := 11) rfl rfl rfl) (by decide) (fun h => absurd h (by decide)) (fun _ => ?_)
    obtain ⟨hn_, hhn_, rfl⟩ := to_nat (x := hh) (n := 60) (by (try simp only [lg_cmp_lt, lg_cmp_le, lg_cmp_gt, lg_cmp_ge, lg_cmp_eq] at hc2); (try simp (disch := omega) only [ta_lt, ta_le, ta_eq, tb_lt, tb_le, tb_eq, tw, tnI, tsub1, tsv, tn32 1 (by decide), tnj 1 (by decide), tl32 0 (by decide), tl64 0 (by decide), tl32 1 (by decide), tl64 1 (by decide), tl32 2 (by decide), tl64 2 (by decide)] at hc2); (try simp (disch := omega) only [ta_lt, ta_le, ta_eq, tb_lt, tb_le, tb_eq, tw, tnI, tsub1, tsv, tn32 1 (by decide), tnj 1 (by decide), tl32 0 (by decide), tl64 0 (by decide), tl32 1 (by decide), tl64 1 (by decide), tl32 2 (by decide), tl64 2 (by decide)]); omega)
    refine lv_iload_n hx hb (dkP dF_28 DX12_judge (i := 12) rfl rfl) rfl (lv_at hl 2 rfl) ?_
    refine lv_i2l hx hb (dkP dF_133 DX12_judge (i := 13) rfl rfl) rfl ?_
    refine lv_lconst (v := 1) hx hb (dkP dF_10 DX12_judge (i := 14) rfl rfl) (by decide) ?_
    refine lv_ldc2 hx hb hown (hts _ kn_X12_145) (dk2 dF_20 DX12_judge (i := 15) rfl rfl rfl) ?_
    refine zn_I hw (zr_S (As := [.long word.toInt64, .long 1, .long 2]) (rest := []) C0 (c_X12_in l G kc word.toInt64 1 2  _) cs_X12_in lk_X12_9 (zp_P C0 hRo hw a00 s00) rfl hl.1 rfl ⟨by decide, by decide⟩ (Nat.le_of_ble_eq_true rfl) (dk2 dF_184 DX12_judge (i := 16) rfl rfl rfl) ⟨Nat.le_refl _, Nat.le_refl _⟩) (fun r3 s3 H locs hp hw => ?_)
    rcases hp with ⟨rfl, hc3⟩ | ⟨rfl, hc3⟩
    · skip
      (try simp (disch := omega) only [ta_lt, ta_le, ta_eq, tb_lt, tb_le, tb_eq, tw, tnI, tn32 1 (by decide), tnj 1 (by decide), tl32 0 (by decide), tl64 0 (by decide), tl32 1 (by decide), tl64 1 (by decide), tl32 2 (by decide), tl64 2 (by decide)] at hc3)
      refine lv_if_ne (tgt := 33) hx hb (dkS dF_154 DX12_judge (i := 17) rfl rfl rfl) (by decide) (fun _ => ?_) (fun h => absurd h (by decide))
      refine lv_ldcw hx hb hown (hts _ kn_X12_441) (dk2 dF_19 DX12_judge (i := 20) rfl rfl rfl) ?_
      refine lv_bipush (v := 7) hx hb (dks dF_16 DX12_judge (i := 21) rfl rfl rfl) (by decide) ?_
      refine lv_iload_n hx hb (dkP dF_27 DX12_judge (i := 22) rfl rfl) rfl (lv_at hl 1 rfl) ?_
      refine lv_imul hx hb (dkP dF_104 DX12_judge (i := 23) rfl rfl) ?_
      refine z_top (y := nI (7 * hn_)) (by simp only [fa_lit, nI_add, pk_mul]) ?_
      refine lv_iadd hx hb (dkP dF_96 DX12_judge (i := 24) rfl rfl) ?_
      refine z_top (y := nI (413608 + (7 * hn_))) (by simp only [fa_lit, nI_add, pk_mul]) ?_
      refine lv_iconst (v := 5) hx hb (dkP dF_8 DX12_judge (i := 25) rfl rfl) (by decide) ?_
      refine lv_iadd hx hb (dkP dF_96 DX12_judge (i := 26) rfl rfl) ?_
      refine z_top (y := nI ((413608 + (7 * hn_)) + 5)) (by simp only [fa_lit, nI_add, pk_mul]) ?_
      refine lv_istore_n (lv' := [(3, .int (nI ((413608 + (7 * hn_)) + 5))), (0, .ref (ad 0)), (1, .int (nI hn_)), (2, .int word)]) hx hb (dkP dF_62 DX12_judge (i := 27) rfl rfl) rfl hl (by decide) rfl (fun ls hl => ?_)
      refine lv_aload_n hx hb (dkP dF_42 DX12_judge (i := 28) rfl rfl) rfl (lv_at hl 1 rfl) ?_
      refine z_gr C0 hw 0 1 1 rfl fl_X12_20 (dk2 dF_180 DX12_judge (i := 29) rfl rfl rfl) ?_
      refine lv_iload_n hx hb (dkP dF_29 DX12_judge (i := 30) rfl rfl) rfl (lv_at hl 0 rfl) ?_
      refine z_ialdN (n := 414128) C0 hw 1 ((413608 + (7 * hn_)) + 5) rfl (by omega) (by decide) (dkP dF_46 DX12_judge (i := 31) rfl rfl) ?_
      obtain ⟨v4, ev4⟩ : ∃ y : Int32, σ.1 1 ((413608 + (7 * hn_)) + 5) = y := ⟨_, rfl⟩
      refine z_top (y := v4) ev4 ?_
      refine lv_istore (lv' := [(4, .int v4), (3, .int (nI ((413608 + (7 * hn_)) + 5))), (0, .ref (ad 0)), (1, .int (nI hn_)), (2, .int word)]) hx hb (dk1 dF_54 DX12_judge (i := 32) rfl rfl rfl) hl (by decide) rfl (fun ls hl => ?_)
      refine lv_aload_n hx hb (dkP dF_42 DX12_judge (i := 33) rfl rfl) rfl (lv_at hl 2 rfl) ?_
      refine z_gr C0 hw 0 1 1 rfl fl_X12_20 (dk2 dF_180 DX12_judge (i := 34) rfl rfl rfl) ?_
      refine lv_iload_n hx hb (dkP dF_29 DX12_judge (i := 35) rfl rfl) rfl (lv_at hl 1 rfl) ?_
      refine lv_iload_n hx hb (dkP dF_28 DX12_judge (i := 36) rfl rfl) rfl (lv_at hl 4 rfl) ?_
      refine z_iastN (n := 414128) C0 hw 1 ((413608 + (7 * hn_)) + 5) rfl (by omega) (by decide) (dkP dF_79 DX12_judge (i := 37) rfl rfl) (fun H locs hw => ?_)
      have hT5 : TM (sI σ 1 ((413608 + (7 * hn_)) + 5) word) := TM.w hT (ty_hi (by omega))
      have hF5 : fr true [1] [] σ (sI σ 1 ((413608 + (7 * hn_)) + 5) word) := fr.w fr.refl (Or.inl ⟨by decide, by decide⟩) (fun _ _ => by unfold KR; omega)
      refine lv_iload hx hb (dk1 dF_21 DX12_judge (i := 38) rfl rfl rfl) (lv_at hl 0 rfl) ?_
      exact z_iret C0 hr hlk hw (⟨hT5, hF5⟩) (dkP dF_172 DX12_judge (i := 39) rfl rfl)
    · skip
      (try simp (disch := omega) only [ta_lt, ta_le, ta_eq, tb_lt, tb_le, tb_eq, tw, tnI, tn32 1 (by decide), tnj 1 (by decide), tl32 0 (by decide), tl64 0 (by decide), tl32 1 (by decide), tl64 1 (by decide), tl32 2 (by decide), tl64 2 (by decide), tl32 5 (by decide), tl64 5 (by decide), tl32 7 (by decide), tl64 7 (by decide), tl32 413608 (by decide), tl64 413608 (by decide)] at hc3)
      refine lv_if_ne (tgt := 33) hx hb (dkS dF_154 DX12_judge (i := 17) rfl rfl rfl) (by decide) (fun h => absurd h (by decide)) (fun _ => ?_)
      refine lv_bipush (v := (-2)) hx hb (dks dF_16 DX12_judge (i := 18) rfl rfl rfl) (by decide) ?_
      exact z_iret C0 hr hlk hw (⟨hT, fr.refl⟩) (dkP dF_172 DX12_judge (i := 19) rfl rfl)
  · skip
    (try simp (disch := omega) only [ta_lt, ta_le, ta_eq, tb_lt, tb_le, tb_eq, tw, tnI, tn32 2 (by decide), tnj 2 (by decide), tn32 1 (by decide), tnj 1 (by decide), tl32 0 (by decide), tl64 0 (by decide), tl32 1 (by decide), tl64 1 (by decide), tl32 2 (by decide), tl64 2 (by decide), tl32 5 (by decide), tl64 5 (by decide), tl32 7 (by decide), tl64 7 (by decide), tl32 413608 (by decide), tl64 413608 (by decide)] at hc2)
    refine lv_if_eq (tgt := 30) hx hb (dkS dF_153 DX12_judge (i := 11) rfl rfl rfl) (by decide) (fun _ => ?_) (fun h => absurd h (by decide))
    refine lv_bipush (v := (-2)) hx hb (dks dF_16 DX12_judge (i := 18) rfl rfl rfl) (by decide) ?_
    exact z_iret C0 hr hlk hw (⟨hT, fr.refl⟩) (dkP dF_172 DX12_judge (i := 19) rfl rfl)
set_option maxRecDepth 100000 in
set_option maxHeartbeats 8000000 in
theorem c_X12_calls (l : Launch) (G : va_G) (kc : KC) (ad : Nat → Nat) (σ : Sg) (program : Int32) (other : Int32) (price : Int32) (hT : TM σ) : MI l G kc yX12_calls cX12_calls 6 (some .int) 2 45 [.ref (ad 0), .int program, .int other, .int price] shM ad σ (fun r σ1 => TM σ1 ∧ fr false [1] [] σ σ1) := by
  intro sz
  refine z_body (y := yX12_calls) (n := 6) (av := [.ref (ad 0), .int program, .int other, .int price]) (Qc := fun A => va_Qi (fun r σ1 => TM σ1 ∧ fr false [1] [] σ σ1) (PoC G kc shM ad A) A) (plainFor_of_name (by decide)) (Nat.le_of_ble_eq_true rfl) (fun pr e s m below meth c A C0 hr hlk hnm hw hRo ls hl => ?_) sz
  have hx := C0.1
  have hb := C0.2.1
  have hown := C0.2.2.2.1
  have hts := C0.2.2.2.2.1
  have hl : lv_has ls 6 [(0, .ref (ad 0)), (1, .int program), (2, .int other), (3, .int price)] := hl
  refine lv_iload_n hx hb (dkP dF_27 DX12_calls (i := 0) rfl rfl) rfl (lv_at hl 1 rfl) ?_
  refine zn_I hw (zr_S (As := [.int program]) (rest := []) C0 (c_X12_isProgram l G kc program  _) cs_X12_isProgram lk_X12_272 (zp_P C0 hRo hw a00 s00) rfl hl.1 rfl ⟨by decide, by decide⟩ (Nat.le_of_ble_eq_true rfl) (dk2 dF_184 DX12_calls (i := 1) rfl rfl rfl) ⟨Nat.le_refl _, Nat.le_refl _⟩) (fun r1 s1 H locs hp hw => ?_)
  rcases hp with ⟨rfl, hc1⟩ | ⟨rfl, hc1⟩
  · skip
    (try simp (disch := omega) only [ta_lt, ta_le, ta_eq, tb_lt, tb_le, tb_eq, tw, tnI, tn32 1 (by decide), tnj 1 (by decide), tl32 0 (by decide), tl64 0 (by decide)] at hc1)
    obtain ⟨k_program, hk_program, rfl⟩ := to_nat (x := program) (n := 8) (by (try simp only [lg_cmp_lt, lg_cmp_le, lg_cmp_gt, lg_cmp_ge, lg_cmp_eq] at hc1); (try simp (disch := omega) only [ta_lt, ta_le, ta_eq, tb_lt, tb_le, tb_eq, tw, tnI, tn32 1 (by decide), tnj 1 (by decide), tl32 0 (by decide), tl64 0 (by decide)] at hc1); (try simp (disch := omega) only [ta_lt, ta_le, ta_eq, tb_lt, tb_le, tb_eq, tw, tnI, tn32 1 (by decide), tnj 1 (by decide), tl32 0 (by decide), tl64 0 (by decide)]); omega)
    refine lv_if_eq (tgt := 33) hx hb (dkS dF_153 DX12_calls (i := 2) rfl rfl rfl) (by decide) (fun h => absurd h (by decide)) (fun _ => ?_)
    refine lv_iload_n hx hb (dkP dF_28 DX12_calls (i := 3) rfl rfl) rfl (lv_at hl 2 rfl) ?_
    refine zn_I hw (zr_S (As := [.int other]) (rest := []) C0 (c_X12_isProgram l G kc other  _) cs_X12_isProgram lk_X12_272 (zp_P C0 hRo hw a00 s00) rfl hl.1 rfl ⟨by decide, by decide⟩ (Nat.le_of_ble_eq_true rfl) (dk2 dF_184 DX12_calls (i := 4) rfl rfl rfl) ⟨Nat.le_refl _, Nat.le_refl _⟩) (fun r2 s2 H locs hp hw => ?_)
    rcases hp with ⟨rfl, hc2⟩ | ⟨rfl, hc2⟩
    · skip
      (try simp (disch := omega) only [ta_lt, ta_le, ta_eq, tb_lt, tb_le, tb_eq, tw, tnI, tn32 1 (by decide), tnj 1 (by decide), tl32 0 (by decide), tl64 0 (by decide)] at hc2)
      obtain ⟨k_other, hk_other, rfl⟩ := to_nat (x := other) (n := 8) (by (try simp only [lg_cmp_lt, lg_cmp_le, lg_cmp_gt, lg_cmp_ge, lg_cmp_eq] at hc1); (try simp (disch := omega) only [ta_lt, ta_le, ta_eq, tb_lt, tb_le, tb_eq, tw, tnI, tn32 1 (by decide), tnj 1 (by decide), tl32 0 (by decide), tl64 0 (by decide)] at hc1); (try simp only [lg_cmp_lt, lg_cmp_le, lg_cmp_gt, lg_cmp_ge, lg_cmp_eq] at hk_program); (try simp (disch := omega) only [ta_lt, ta_le, ta_eq, tb_lt, tb_le, tb_eq, tw, tnI, tn32 1 (by decide), tnj 1 (by decide), tl32 0 (by decide), tl64 0 (by decide)] at hk_program); (try simp only [lg_cmp_lt, lg_cmp_le, lg_cmp_gt, lg_cmp_ge, lg_cmp_eq] at hc2); (try simp (disch := omega) only [ta_lt, ta_le, ta_eq, tb_lt, tb_le, tb_eq, tw, tnI, tn32 1 (by decide), tnj 1 (by decide), tl32 0 (by decide), tl64 0 (by decide)] at hc2); (try simp (disch := omega) only [ta_lt, ta_le, ta_eq, tb_lt, tb_le, tb_eq, tw, tnI, tn32 1 (by decide), tnj 1 (by decide), tl32 0 (by decide), tl64 0 (by decide)]); omega)
      refine lv_if_eq (tgt := 33) hx hb (dkS dF_153 DX12_calls (i := 5) rfl rfl rfl) (by decide) (fun h => absurd h (by decide)) (fun _ => ?_)
      refine lv_iload_n hx hb (dkP dF_27 DX12_calls (i := 6) rfl rfl) rfl (lv_at hl 1 rfl) ?_
      refine lv_iload_n hx hb (dkP dF_28 DX12_calls (i := 7) rfl rfl) rfl (lv_at hl 2 rfl) ?_
      refine lv_icmp_eq (tgt := 33) hx hb (dkS dF_159 DX12_calls (i := 8) rfl rfl rfl) (by decide) (fun c3 => ?_) (fun c3 => ?_)
      · simp (disch := omega) only [ta_lt, ta_le, ta_eq, tnI] at c3
        refine lv_bipush (v := (-2)) hx hb (dks dF_16 DX12_calls (i := 15) rfl rfl rfl) (by decide) ?_
        exact z_iret C0 hr hlk hw (⟨hT, fr.refl⟩) (dkP dF_172 DX12_calls (i := 16) rfl rfl)
      · simp (disch := omega) only [ta_lt, ta_le, ta_eq, tnI] at c3
        refine lv_iload_n hx hb (dkP dF_29 DX12_calls (i := 9) rfl rfl) rfl (lv_at hl 3 rfl) ?_
        refine lv_i2l hx hb (dkP dF_133 DX12_calls (i := 10) rfl rfl) rfl ?_
        refine lv_ldc2 hx hb hown (hts _ kn_X12_411) (dk2 dF_20 DX12_calls (i := 11) rfl rfl rfl) ?_
        refine lv_ldc2 hx hb hown (hts _ kn_X12_242) (dk2 dF_20 DX12_calls (i := 12) rfl rfl rfl) ?_
        refine zn_I hw (zr_S (As := [.long price.toInt64, .long (-1), .long 999]) (rest := []) C0 (c_X12_in l G kc price.toInt64 (-1) 999  _) cs_X12_in lk_X12_9 (zp_P C0 hRo hw a00 s00) rfl hl.1 rfl ⟨by decide, by decide⟩ (Nat.le_of_ble_eq_true rfl) (dk2 dF_184 DX12_calls (i := 13) rfl rfl rfl) ⟨Nat.le_refl _, Nat.le_refl _⟩) (fun r4 s4 H locs hp hw => ?_)
        rcases hp with ⟨rfl, hc4⟩ | ⟨rfl, hc4⟩
        · skip
          (try simp (disch := omega) only [ta_lt, ta_le, ta_eq, tb_lt, tb_le, tb_eq, tw, tnI, tn32 2 (by decide), tnj 2 (by decide), tn32 1 (by decide), tnj 1 (by decide), tl32 0 (by decide), tl64 0 (by decide), tl32 999 (by decide), tl64 999 (by decide)] at hc4)
          refine lv_if_ne (tgt := 36) hx hb (dkS dF_154 DX12_calls (i := 14) rfl rfl rfl) (by decide) (fun _ => ?_) (fun h => absurd h (by decide))
          refine lv_ldc hx hb hown (hts _ kn_X12_143) (dk1 dF_18 DX12_calls (i := 17) rfl rfl rfl) ?_
          refine lv_bipush (v := 8) hx hb (dks dF_16 DX12_calls (i := 18) rfl rfl rfl) (by decide) ?_
          refine lv_iload_n hx hb (dkP dF_27 DX12_calls (i := 19) rfl rfl) rfl (lv_at hl 1 rfl) ?_
          refine lv_imul hx hb (dkP dF_104 DX12_calls (i := 20) rfl rfl) ?_
          refine z_top (y := nI (8 * k_program)) (by simp only [fa_lit, nI_add, pk_mul]) ?_
          refine lv_iadd hx hb (dkP dF_96 DX12_calls (i := 21) rfl rfl) ?_
          refine z_top (y := nI (413480 + (8 * k_program))) (by simp only [fa_lit, nI_add, pk_mul]) ?_
          refine lv_iload_n hx hb (dkP dF_28 DX12_calls (i := 22) rfl rfl) rfl (lv_at hl 2 rfl) ?_
          refine lv_iadd hx hb (dkP dF_96 DX12_calls (i := 23) rfl rfl) ?_
          refine z_top (y := nI ((413480 + (8 * k_program)) + k_other)) (by simp only [fa_lit, nI_add, pk_mul]) ?_
          refine lv_istore (lv' := [(4, .int (nI ((413480 + (8 * k_program)) + k_other))), (0, .ref (ad 0)), (1, .int (nI k_program)), (2, .int (nI k_other)), (3, .int price)]) hx hb (dk1 dF_54 DX12_calls (i := 24) rfl rfl rfl) hl (by decide) rfl (fun ls hl => ?_)
          refine lv_aload_n hx hb (dkP dF_42 DX12_calls (i := 25) rfl rfl) rfl (lv_at hl 1 rfl) ?_
          refine z_gr C0 hw 0 1 1 rfl fl_X12_20 (dk2 dF_180 DX12_calls (i := 26) rfl rfl rfl) ?_
          refine lv_iload hx hb (dk1 dF_21 DX12_calls (i := 27) rfl rfl rfl) (lv_at hl 0 rfl) ?_
          refine z_ialdN (n := 414128) C0 hw 1 ((413480 + (8 * k_program)) + k_other) rfl (by omega) (by decide) (dkP dF_46 DX12_calls (i := 28) rfl rfl) ?_
          obtain ⟨v5, ev5⟩ : ∃ y : Int32, σ.1 1 ((413480 + (8 * k_program)) + k_other) = y := ⟨_, rfl⟩
          have hv5 : -1 ≤ v5.toInt ∧ v5.toInt ≤ 999 := by rw [← ev5]; exact (wTy_k (by omega) (by omega) (hT 1 _))
          refine z_top (y := v5) ev5 ?_
          refine lv_istore (lv' := [(5, .int v5), (4, .int (nI ((413480 + (8 * k_program)) + k_other))), (0, .ref (ad 0)), (1, .int (nI k_program)), (2, .int (nI k_other)), (3, .int price)]) hx hb (dk1 dF_54 DX12_calls (i := 29) rfl rfl rfl) hl (by decide) rfl (fun ls hl => ?_)
          refine lv_aload_n hx hb (dkP dF_42 DX12_calls (i := 30) rfl rfl) rfl (lv_at hl 2 rfl) ?_
          refine z_gr C0 hw 0 1 1 rfl fl_X12_20 (dk2 dF_180 DX12_calls (i := 31) rfl rfl rfl) ?_
          refine lv_iload hx hb (dk1 dF_21 DX12_calls (i := 32) rfl rfl rfl) (lv_at hl 1 rfl) ?_
          refine lv_iload_n hx hb (dkP dF_29 DX12_calls (i := 33) rfl rfl) rfl (lv_at hl 5 rfl) ?_
          refine z_iastN (n := 414128) C0 hw 1 ((413480 + (8 * k_program)) + k_other) rfl (by omega) (by decide) (dkP dF_79 DX12_calls (i := 34) rfl rfl) (fun H locs hw => ?_)
          have hT6 : TM (sI σ 1 ((413480 + (8 * k_program)) + k_other) price) := TM.w hT (ty_ck (by omega) (by omega) (by (try simp only [lg_cmp_lt, lg_cmp_le, lg_cmp_gt, lg_cmp_ge, lg_cmp_eq] at hc1); (try simp (disch := omega) only [ta_lt, ta_le, ta_eq, tb_lt, tb_le, tb_eq, tw, tnI, tsub1, tsv, tn32 2 (by decide), tnj 2 (by decide), tn32 1 (by decide), tnj 1 (by decide), tl32 0 (by decide), tl64 0 (by decide), tl32 8 (by decide), tl64 8 (by decide), tl32 999 (by decide), tl64 999 (by decide), tl32 413480 (by decide), tl64 413480 (by decide)] at hc1); (try simp only [lg_cmp_lt, lg_cmp_le, lg_cmp_gt, lg_cmp_ge, lg_cmp_eq] at hc2); (try simp (disch := omega) only [ta_lt, ta_le, ta_eq, tb_lt, tb_le, tb_eq, tw, tnI, tsub1, tsv, tn32 2 (by decide), tnj 2 (by decide), tn32 1 (by decide), tnj 1 (by decide), tl32 0 (by decide), tl64 0 (by decide), tl32 8 (by decide), tl64 8 (by decide), tl32 999 (by decide), tl64 999 (by decide), tl32 413480 (by decide), tl64 413480 (by decide)] at hc2); (try simp only [lg_cmp_lt, lg_cmp_le, lg_cmp_gt, lg_cmp_ge, lg_cmp_eq] at c3); (try simp (disch := omega) only [ta_lt, ta_le, ta_eq, tb_lt, tb_le, tb_eq, tw, tnI, tsub1, tsv, tn32 2 (by decide), tnj 2 (by decide), tn32 1 (by decide), tnj 1 (by decide), tl32 0 (by decide), tl64 0 (by decide), tl32 8 (by decide), tl64 8 (by decide), tl32 999 (by decide), tl64 999 (by decide), tl32 413480 (by decide), tl64 413480 (by decide)] at c3); (try simp only [lg_cmp_lt, lg_cmp_le, lg_cmp_gt, lg_cmp_ge, lg_cmp_eq] at hc4); (try simp (disch := omega) only [ta_lt, ta_le, ta_eq, tb_lt, tb_le, tb_eq, tw, tnI, tsub1, tsv, tn32 2 (by decide), tnj 2 (by decide), tn32 1 (by decide), tnj 1 (by decide), tl32 0 (by decide), tl64 0 (by decide), tl32 8 (by decide), tl64 8 (by decide), tl32 999 (by decide), tl64 999 (by decide), tl32 413480 (by decide), tl64 413480 (by decide)] at hc4); (try simp (disch := omega) only [ta_lt, ta_le, ta_eq, tb_lt, tb_le, tb_eq, tw, tnI, tsub1, tsv, tn32 2 (by decide), tnj 2 (by decide), tn32 1 (by decide), tnj 1 (by decide), tl32 0 (by decide), tl64 0 (by decide), tl32 8 (by decide), tl64 8 (by decide), tl32 999 (by decide), tl64 999 (by decide), tl32 413480 (by decide), tl64 413480 (by decide)]); omega))
          have hF6 : fr false [1] [] σ (sI σ 1 ((413480 + (8 * k_program)) + k_other) price) := fr.w fr.refl (Or.inl ⟨by decide, by decide⟩) (fun h => absurd h (by decide))
          refine lv_iload hx hb (dk1 dF_21 DX12_calls (i := 35) rfl rfl rfl) (lv_at hl 0 rfl) ?_
          exact z_iret C0 hr hlk hw (⟨hT6, hF6⟩) (dkP dF_172 DX12_calls (i := 36) rfl rfl)
        · skip
          (try simp (disch := omega) only [ta_lt, ta_le, ta_eq, tb_lt, tb_le, tb_eq, tw, tnI, tn32 2 (by decide), tnj 2 (by decide), tn32 1 (by decide), tnj 1 (by decide), tl32 0 (by decide), tl64 0 (by decide), tl32 8 (by decide), tl64 8 (by decide), tl32 999 (by decide), tl64 999 (by decide), tl32 413480 (by decide), tl64 413480 (by decide)] at hc4)
          refine lv_if_ne (tgt := 36) hx hb (dkS dF_154 DX12_calls (i := 14) rfl rfl rfl) (by decide) (fun h => absurd h (by decide)) (fun _ => ?_)
          refine lv_bipush (v := (-2)) hx hb (dks dF_16 DX12_calls (i := 15) rfl rfl rfl) (by decide) ?_
          exact z_iret C0 hr hlk hw (⟨hT, fr.refl⟩) (dkP dF_172 DX12_calls (i := 16) rfl rfl)
    · skip
      (try simp (disch := omega) only [ta_lt, ta_le, ta_eq, tb_lt, tb_le, tb_eq, tw, tnI, tn32 2 (by decide), tnj 2 (by decide), tn32 1 (by decide), tnj 1 (by decide), tl32 0 (by decide), tl64 0 (by decide), tl32 8 (by decide), tl64 8 (by decide), tl32 999 (by decide), tl64 999 (by decide), tl32 413480 (by decide), tl64 413480 (by decide)] at hc2)
      refine lv_if_eq (tgt := 33) hx hb (dkS dF_153 DX12_calls (i := 5) rfl rfl rfl) (by decide) (fun _ => ?_) (fun h => absurd h (by decide))
      refine lv_bipush (v := (-2)) hx hb (dks dF_16 DX12_calls (i := 15) rfl rfl rfl) (by decide) ?_
      exact z_iret C0 hr hlk hw (⟨hT, fr.refl⟩) (dkP dF_172 DX12_calls (i := 16) rfl rfl)
  · skip
    (try simp (disch := omega) only [ta_lt, ta_le, ta_eq, tb_lt, tb_le, tb_eq, tw, tnI, tn32 2 (by decide), tnj 2 (by decide), tn32 1 (by decide), tnj 1 (by decide), tl32 0 (by decide), tl64 0 (by decide), tl32 8 (by decide), tl64 8 (by decide), tl32 999 (by decide), tl64 999 (by decide), tl32 413480 (by decide), tl64 413480 (by decide)] at hc1)
    refine lv_if_eq (tgt := 33) hx hb (dkS dF_153 DX12_calls (i := 2) rfl rfl rfl) (by decide) (fun _ => ?_) (fun h => absurd h (by decide))
    refine lv_bipush (v := (-2)) hx hb (dks dF_16 DX12_calls (i := 15) rfl rfl rfl) (by decide) ?_
    exact z_iret C0 hr hlk hw (⟨hT, fr.refl⟩) (dkP dF_172 DX12_calls (i := 16) rfl rfl)
