set_option maxRecDepth 100000 in
set_option maxHeartbeats 8000000 in
theorem c_X12_priceOf_b (l : Launch) (G : va_G) (kc : KC) (ad : Nat → Nat) (σ : Sg) (ov : Nat) (hov : ov < 256) (hT : TM σ) : MI l G kc yX12_priceOf cX12_priceOf 5 (some .int) 0 0 [.ref (ad 0), .int (nI ov)] shM ad σ (fun r σ1 => (r = prc (σ.1 1) ov 64) ∧ σ1 = σ) := by
  intro sz
  refine z_body (y := yX12_priceOf) (n := 5) (av := [.ref (ad 0), .int (nI ov)]) (Qc := fun A => va_Qi (fun r σ1 => (r = prc (σ.1 1) ov 64) ∧ σ1 = σ) (PoC G kc shM ad A) A) (plainFor_of_name (by decide)) (Nat.le_of_ble_eq_true rfl) (fun pr e s m below meth c A C0 hr hlk hnm hw hRo ls hl => ?_) sz
  have hx := C0.1
  have hb := C0.2.1
  have hown := C0.2.2.2.1
  have hts := C0.2.2.2.2.1
  have hl : lv_has ls 5 [(0, .ref (ad 0)), (1, .int (nI ov))] := hl
  refine lv_iconst (v := 0) hx hb (dkP dF_3 DX12_priceOf (i := 0) rfl rfl) (by decide) ?_
  refine lv_istore_n (lv' := [(2, .int 0), (0, .ref (ad 0)), (1, .int (nI ov))]) hx hb (dkP dF_61 DX12_priceOf (i := 1) rfl rfl) rfl hl (by decide) rfl (fun ls hl => ?_)
  refine lv_iconst (v := 0) hx hb (dkP dF_3 DX12_priceOf (i := 2) rfl rfl) (by decide) ?_
  refine lv_istore_n (lv' := [(3, .int 0), (2, .int 0), (0, .ref (ad 0)), (1, .int (nI ov))]) hx hb (dkP dF_62 DX12_priceOf (i := 3) rfl rfl) rfl hl (by decide) rfl (fun ls hl => ?_)
  have lp1 : ∀ (nq : Nat) (q3_4 : Nat) (q2_4 : Int32) (H : Heap) (locs : List Loc) (ls : Array Slot), 8 - q3_4 < nq → (q3_4 ≤ 8) → (q2_4 = prc (σ.1 1) ov (8 * q3_4)) → St G kc A s.heap shM ad σ H locs → lv_has ls 5 [(3, .int (nI q3_4)), (2, .int q2_4), (0, .ref (ad 0)), (1, .int (nI ov))] → W pr l e { frames := 0, cells := 0, slots := 0, locals := 0 } s m ([.ref (ad 0), .int (nI ov)] : List Value).toArray below meth c H locs 0 0 (MQ below (va_Qi (fun r σ1 => (r = prc (σ.1 1) ov 64) ∧ σ1 = σ) (PoC G kc shM ad A) A) ([.ref (ad 0), .int (nI ov)] : List Value).toArray s 0 0 A) (F0 m 4 ls []) := by
    intro nq
    induction nq with
    | zero => intro q3_4 q2_4 H locs ls hmu; exact absurd hmu (Nat.not_lt_zero _)
    | succ nq ih1 =>
      intro q3_4 q2_4 H locs ls hmu hq3_4 hs_ hw hl
      refine lv_iload_n hx hb (dkP dF_29 DX12_priceOf (i := 4) rfl rfl) rfl (lv_at hl 0 rfl) ?_
      refine lv_bipush (v := 8) hx hb (dks dF_16 DX12_priceOf (i := 5) rfl rfl rfl) (by decide) ?_
      refine lv_icmp_ge (tgt := 83) hx hb (dkS dF_162 DX12_priceOf (i := 6) rfl rfl rfl) (by decide) (fun c2 => ?_) (fun c2 => ?_)
      · simp (disch := omega) only [ta_lt, ta_le, ta_eq, tnI, tl32 8 (by decide)] at c2
        refine lv_iload_n hx hb (dkP dF_28 DX12_priceOf (i := 52) rfl rfl) rfl (lv_at hl 1 rfl) ?_
        exact z_iret C0 hr hlk hw (⟨(by have e_ : q3_4 = 8 := (by omega); rw [hs_, e_]), rfl⟩) (dkP dF_172 DX12_priceOf (i := 53) rfl rfl)
      · simp (disch := omega) only [ta_lt, ta_le, ta_eq, tnI, tl32 8 (by decide)] at c2
        refine lv_iconst (v := 0) hx hb (dkP dF_3 DX12_priceOf (i := 7) rfl rfl) (by decide) ?_
        refine lv_istore (lv' := [(4, .int 0), (3, .int (nI q3_4)), (2, .int q2_4), (0, .ref (ad 0)), (1, .int (nI ov))]) hx hb (dk1 dF_54 DX12_priceOf (i := 8) rfl rfl rfl) hl (by decide) rfl (fun ls hl => ?_)
        have lp3 : ∀ (nq : Nat) (q4_13 : Nat) (q2_13 : Int32) (H : Heap) (locs : List Loc) (ls : Array Slot), 8 - q4_13 < nq → (q4_13 ≤ 8) → (q2_13 = prc (σ.1 1) ov (8 * q3_4 + q4_13)) → St G kc A s.heap shM ad σ H locs → lv_has ls 5 [(4, .int (nI q4_13)), (3, .int (nI q3_4)), (2, .int q2_13), (0, .ref (ad 0)), (1, .int (nI ov))] → W pr l e { frames := 0, cells := 0, slots := 0, locals := 0 } s m ([.ref (ad 0), .int (nI ov)] : List Value).toArray below meth c H locs 0 0 (MQ below (va_Qi (fun r σ1 => (r = prc (σ.1 1) ov 64) ∧ σ1 = σ) (PoC G kc shM ad A) A) ([.ref (ad 0), .int (nI ov)] : List Value).toArray s 0 0 A) (F0 m 13 ls []) := by
          intro nq
          induction nq with
          | zero => intro q4_13 q2_13 H locs ls hmu; exact absurd hmu (Nat.not_lt_zero _)
          | succ nq ih3 =>
            intro q4_13 q2_13 H locs ls hmu hq4_13 ht hw hl
            refine lv_iload hx hb (dk1 dF_21 DX12_priceOf (i := 9) rfl rfl rfl) (lv_at hl 0 rfl) ?_
            refine lv_bipush (v := 8) hx hb (dks dF_16 DX12_priceOf (i := 10) rfl rfl rfl) (by decide) ?_
            refine lv_icmp_ge (tgt := 77) hx hb (dkS dF_162 DX12_priceOf (i := 11) rfl rfl rfl) (by decide) (fun c4 => ?_) (fun c4 => ?_)
            · simp (disch := omega) only [ta_lt, ta_le, ta_eq, tnI, tl32 8 (by decide)] at c4
              refine lv_iinc (v := nI (q3_4 + 1)) (lv' := [(3, .int (nI (q3_4 + 1))), (4, .int (nI q4_13)), (2, .int q2_13), (0, .ref (ad 0)), (1, .int (nI ov))]) hx hb (dkI DX12_priceOf (i := 50) rfl rfl rfl rfl) hl (k := 1) rfl (nI_1 _) (by decide) rfl (fun ls hl => ?_)
              refine lv_goto (tgt := 4) hx hb (dkS dF_167 DX12_priceOf (i := 51) rfl rfl rfl) (by decide) ?_
              exact ih1 (q3_4 + 1) q2_13 _ _ _ (by omega) (by (try simp only [lg_cmp_lt, lg_cmp_le, lg_cmp_gt, lg_cmp_ge, lg_cmp_eq] at c2); (try simp (disch := omega) only [ta_lt, ta_le, ta_eq, tb_lt, tb_le, tb_eq, tw, tnI, tsub1, tsv, tn32 1 (by decide), tnj 1 (by decide), tl32 0 (by decide), tl64 0 (by decide), tl32 8 (by decide), tl64 8 (by decide)] at c2); (try simp only [lg_cmp_lt, lg_cmp_le, lg_cmp_gt, lg_cmp_ge, lg_cmp_eq] at c4); (try simp (disch := omega) only [ta_lt, ta_le, ta_eq, tb_lt, tb_le, tb_eq, tw, tnI, tsub1, tsv, tn32 1 (by decide), tnj 1 (by decide), tl32 0 (by decide), tl64 0 (by decide), tl32 8 (by decide), tl64 8 (by decide)] at c4); (try simp (disch := omega) only [ta_lt, ta_le, ta_eq, tb_lt, tb_le, tb_eq, tw, tnI, tsub1, tsv, tn32 1 (by decide), tnj 1 (by decide), tl32 0 (by decide), tl64 0 (by decide), tl32 8 (by decide), tl64 8 (by decide)]); omega) (by have e_ : q4_13 = 8 := (by omega); rw [ht, e_]; rfl) hw (lv_sub hl [0, 2, 3, 4] rfl)
            · simp (disch := omega) only [ta_lt, ta_le, ta_eq, tnI, tl32 8 (by decide)] at c4
              refine lv_aload_n hx hb (dkP dF_42 DX12_priceOf (i := 12) rfl rfl) rfl (lv_at hl 3 rfl) ?_
              refine z_gr C0 hw 0 1 1 rfl fl_X12_20 (dk2 dF_180 DX12_priceOf (i := 13) rfl rfl rfl) ?_
              refine lv_ldc hx hb hown (hts _ kn_X12_143) (dk1 dF_18 DX12_priceOf (i := 14) rfl rfl rfl) ?_
              refine lv_bipush (v := 8) hx hb (dks dF_16 DX12_priceOf (i := 15) rfl rfl rfl) (by decide) ?_
              refine lv_iload_n hx hb (dkP dF_29 DX12_priceOf (i := 16) rfl rfl) rfl (lv_at hl 1 rfl) ?_
              refine lv_imul hx hb (dkP dF_104 DX12_priceOf (i := 17) rfl rfl) ?_
              refine z_top (y := nI (8 * q3_4)) (by simp only [fa_lit, nI_add, pk_mul]) ?_
              refine lv_iadd hx hb (dkP dF_96 DX12_priceOf (i := 18) rfl rfl) ?_
              refine z_top (y := nI (413480 + (8 * q3_4))) (by simp only [fa_lit, nI_add, pk_mul]) ?_
              refine lv_iload hx hb (dk1 dF_21 DX12_priceOf (i := 19) rfl rfl rfl) (lv_at hl 0 rfl) ?_
              refine lv_iadd hx hb (dkP dF_96 DX12_priceOf (i := 20) rfl rfl) ?_
              refine z_top (y := nI ((413480 + (8 * q3_4)) + q4_13)) (by simp only [fa_lit, nI_add, pk_mul]) ?_
              refine z_ialdN (n := 414128) C0 hw 1 ((413480 + (8 * q3_4)) + q4_13) rfl (by omega) (by decide) (dkP dF_46 DX12_priceOf (i := 21) rfl rfl) ?_
              obtain ⟨v5, ev5⟩ : ∃ y : Int32, σ.1 1 ((413480 + (8 * q3_4)) + q4_13) = y := ⟨_, rfl⟩
              have hv5 : -1 ≤ v5.toInt ∧ v5.toInt ≤ 999 := by rw [← ev5]; exact (wTy_k (by omega) (by omega) (hT 1 _))
              refine z_top (y := v5) ev5 ?_
              refine lv_iconst (v := (-1)) hx hb (dkP dF_2 DX12_priceOf (i := 22) rfl rfl) (by decide) ?_
              refine lv_icmp_eq (tgt := 71) hx hb (dkS dF_159 DX12_priceOf (i := 23) rfl rfl rfl) (by decide) (fun c6 => ?_) (fun c6 => ?_)
              · skip
                refine lv_iinc (v := nI (q4_13 + 1)) (lv' := [(4, .int (nI (q4_13 + 1))), (3, .int (nI q3_4)), (2, .int q2_13), (0, .ref (ad 0)), (1, .int (nI ov))]) hx hb (dkI DX12_priceOf (i := 48) rfl rfl rfl rfl) hl (k := 0) rfl (nI_1 _) (by decide) rfl (fun ls hl => ?_)
                refine lv_goto (tgt := 13) hx hb (dkS dF_167 DX12_priceOf (i := 49) rfl rfl rfl) (by decide) ?_
                exact ih3 (q4_13 + 1) q2_13 _ _ _ (by omega) (by (try simp only [lg_cmp_lt, lg_cmp_le, lg_cmp_gt, lg_cmp_ge, lg_cmp_eq] at c2); (try simp (disch := omega) only [ta_lt, ta_le, ta_eq, tb_lt, tb_le, tb_eq, tw, tnI, tsub1, tsv, tn32 1 (by decide), tnj 1 (by decide), tl32 0 (by decide), tl64 0 (by decide), tl32 8 (by decide), tl64 8 (by decide), tl32 413480 (by decide), tl64 413480 (by decide)] at c2); (try simp only [lg_cmp_lt, lg_cmp_le, lg_cmp_gt, lg_cmp_ge, lg_cmp_eq] at c4); (try simp (disch := omega) only [ta_lt, ta_le, ta_eq, tb_lt, tb_le, tb_eq, tw, tnI, tsub1, tsv, tn32 1 (by decide), tnj 1 (by decide), tl32 0 (by decide), tl64 0 (by decide), tl32 8 (by decide), tl64 8 (by decide), tl32 413480 (by decide), tl64 413480 (by decide)] at c4); (try simp only [lg_cmp_lt, lg_cmp_le, lg_cmp_gt, lg_cmp_ge, lg_cmp_eq] at c6); (try simp (disch := omega) only [ta_lt, ta_le, ta_eq, tb_lt, tb_le, tb_eq, tw, tnI, tsub1, tsv, tn32 1 (by decide), tnj 1 (by decide), tl32 0 (by decide), tl64 0 (by decide), tl32 8 (by decide), tl64 8 (by decide), tl32 413480 (by decide), tl64 413480 (by decide)] at c6); (try simp (disch := omega) only [ta_lt, ta_le, ta_eq, tb_lt, tb_le, tb_eq, tw, tnI, tsub1, tsv, tn32 1 (by decide), tnj 1 (by decide), tl32 0 (by decide), tl64 0 (by decide), tl32 8 (by decide), tl64 8 (by decide), tl32 413480 (by decide), tl64 413480 (by decide)]); omega) (by rw [ht]; exact (prc_0 (by omega) (Or.inl (ev5.trans (by first | exact c6 | exact Decidable.not_not.mp c6)))).symm) hw (lv_sub hl [0, 1, 2, 3, 4] rfl)
              · skip
                refine lv_iload_n hx hb (dkP dF_27 DX12_priceOf (i := 24) rfl rfl) rfl (lv_at hl 4 rfl) ?_
                refine lv_iload_n hx hb (dkP dF_29 DX12_priceOf (i := 25) rfl rfl) rfl (lv_at hl 1 rfl) ?_
                refine lv_ishr hx hb (dkP dF_122 DX12_priceOf (i := 26) rfl rfl) ?_
                refine lv_iconst (v := 1) hx hb (dkP dF_4 DX12_priceOf (i := 27) rfl rfl) (by decide) ?_
                refine lv_iand hx hb (dkP dF_126 DX12_priceOf (i := 28) rfl rfl) ?_
                refine z_top (y := nI (bt ov q3_4)) (by (try simp only [fa_lit]); exact bs_1 _ (by omega) _ (by omega)) ?_
                have hbt7 := bt_01 ov q3_4
                refine lv_iload_n hx hb (dkP dF_27 DX12_priceOf (i := 29) rfl rfl) rfl (lv_at hl 4 rfl) ?_
                refine lv_iload hx hb (dk1 dF_21 DX12_priceOf (i := 30) rfl rfl rfl) (lv_at hl 0 rfl) ?_
                refine lv_ishr hx hb (dkP dF_122 DX12_priceOf (i := 31) rfl rfl) ?_
                refine lv_iconst (v := 1) hx hb (dkP dF_4 DX12_priceOf (i := 32) rfl rfl) (by decide) ?_
                refine lv_iand hx hb (dkP dF_126 DX12_priceOf (i := 33) rfl rfl) ?_
                refine z_top (y := nI (bt ov q4_13)) (by (try simp only [fa_lit]); exact bs_1 _ (by omega) _ (by omega)) ?_
                have hbt8 := bt_01 ov q4_13
                refine lv_icmp_eq (tgt := 71) hx hb (dkS dF_159 DX12_priceOf (i := 34) rfl rfl rfl) (by decide) (fun c9 => ?_) (fun c9 => ?_)
                · simp (disch := omega) only [ta_lt, ta_le, ta_eq, tnI] at c9
                  refine lv_iinc (v := nI (q4_13 + 1)) (lv' := [(4, .int (nI (q4_13 + 1))), (3, .int (nI q3_4)), (2, .int q2_13), (0, .ref (ad 0)), (1, .int (nI ov))]) hx hb (dkI DX12_priceOf (i := 48) rfl rfl rfl rfl) hl (k := 0) rfl (nI_1 _) (by decide) rfl (fun ls hl => ?_)
                  refine lv_goto (tgt := 13) hx hb (dkS dF_167 DX12_priceOf (i := 49) rfl rfl rfl) (by decide) ?_
                  exact ih3 (q4_13 + 1) q2_13 _ _ _ (by omega) (by (try simp only [lg_cmp_lt, lg_cmp_le, lg_cmp_gt, lg_cmp_ge, lg_cmp_eq] at c2); (try simp (disch := omega) only [ta_lt, ta_le, ta_eq, tb_lt, tb_le, tb_eq, tw, tnI, tsub1, tsv, tn32 1 (by decide), tnj 1 (by decide), tl32 0 (by decide), tl64 0 (by decide), tl32 1 (by decide), tl64 1 (by decide), tl32 8 (by decide), tl64 8 (by decide), tl32 413480 (by decide), tl64 413480 (by decide)] at c2); (try simp only [lg_cmp_lt, lg_cmp_le, lg_cmp_gt, lg_cmp_ge, lg_cmp_eq] at c4); (try simp (disch := omega) only [ta_lt, ta_le, ta_eq, tb_lt, tb_le, tb_eq, tw, tnI, tsub1, tsv, tn32 1 (by decide), tnj 1 (by decide), tl32 0 (by decide), tl64 0 (by decide), tl32 1 (by decide), tl64 1 (by decide), tl32 8 (by decide), tl64 8 (by decide), tl32 413480 (by decide), tl64 413480 (by decide)] at c4); (try simp only [lg_cmp_lt, lg_cmp_le, lg_cmp_gt, lg_cmp_ge, lg_cmp_eq] at c6); (try simp (disch := omega) only [ta_lt, ta_le, ta_eq, tb_lt, tb_le, tb_eq, tw, tnI, tsub1, tsv, tn32 1 (by decide), tnj 1 (by decide), tl32 0 (by decide), tl64 0 (by decide), tl32 1 (by decide), tl64 1 (by decide), tl32 8 (by decide), tl64 8 (by decide), tl32 413480 (by decide), tl64 413480 (by decide)] at c6); (try simp only [lg_cmp_lt, lg_cmp_le, lg_cmp_gt, lg_cmp_ge, lg_cmp_eq] at c9); (try simp (disch := omega) only [ta_lt, ta_le, ta_eq, tb_lt, tb_le, tb_eq, tw, tnI, tsub1, tsv, tn32 1 (by decide), tnj 1 (by decide), tl32 0 (by decide), tl64 0 (by decide), tl32 1 (by decide), tl64 1 (by decide), tl32 8 (by decide), tl64 8 (by decide), tl32 413480 (by decide), tl64 413480 (by decide)] at c9); (try simp (disch := omega) only [ta_lt, ta_le, ta_eq, tb_lt, tb_le, tb_eq, tw, tnI, tsub1, tsv, tn32 1 (by decide), tnj 1 (by decide), tl32 0 (by decide), tl64 0 (by decide), tl32 1 (by decide), tl64 1 (by decide), tl32 8 (by decide), tl64 8 (by decide), tl32 413480 (by decide), tl64 413480 (by decide)]); omega) (by rw [ht]; exact (prc_0 (by omega) (Or.inr (by omega))).symm) hw (lv_sub hl [0, 1, 2, 3, 4] rfl)
                · simp (disch := omega) only [ta_lt, ta_le, ta_eq, tnI] at c9
                  refine lv_iload_n hx hb (dkP dF_28 DX12_priceOf (i := 35) rfl rfl) rfl (lv_at hl 2 rfl) ?_
                  refine lv_aload_n hx hb (dkP dF_42 DX12_priceOf (i := 36) rfl rfl) rfl (lv_at hl 3 rfl) ?_
                  refine z_gr C0 hw 0 1 1 rfl fl_X12_20 (dk2 dF_180 DX12_priceOf (i := 37) rfl rfl rfl) ?_
                  refine lv_ldc hx hb hown (hts _ kn_X12_143) (dk1 dF_18 DX12_priceOf (i := 38) rfl rfl rfl) ?_
                  refine lv_bipush (v := 8) hx hb (dks dF_16 DX12_priceOf (i := 39) rfl rfl rfl) (by decide) ?_
                  refine lv_iload_n hx hb (dkP dF_29 DX12_priceOf (i := 40) rfl rfl) rfl (lv_at hl 1 rfl) ?_
                  refine lv_imul hx hb (dkP dF_104 DX12_priceOf (i := 41) rfl rfl) ?_
                  refine z_top (y := nI (8 * q3_4)) (by simp only [fa_lit, nI_add, pk_mul]) ?_
                  refine lv_iadd hx hb (dkP dF_96 DX12_priceOf (i := 42) rfl rfl) ?_
                  refine z_top (y := nI (413480 + (8 * q3_4))) (by simp only [fa_lit, nI_add, pk_mul]) ?_
                  refine lv_iload hx hb (dk1 dF_21 DX12_priceOf (i := 43) rfl rfl rfl) (lv_at hl 0 rfl) ?_
                  refine lv_iadd hx hb (dkP dF_96 DX12_priceOf (i := 44) rfl rfl) ?_
                  refine z_top (y := nI ((413480 + (8 * q3_4)) + q4_13)) (by simp only [fa_lit, nI_add, pk_mul]) ?_
                  refine z_ialdN (n := 414128) C0 hw 1 ((413480 + (8 * q3_4)) + q4_13) rfl (by omega) (by decide) (dkP dF_46 DX12_priceOf (i := 45) rfl rfl) ?_
                  refine z_top (y := v5) ev5 ?_
                  refine lv_iadd hx hb (dkP dF_96 DX12_priceOf (i := 46) rfl rfl) ?_
                  refine lv_topi (fun v10 ev10 => ?_)
                  refine lv_istore_n (lv' := [(2, .int v10), (4, .int (nI q4_13)), (3, .int (nI q3_4)), (0, .ref (ad 0)), (1, .int (nI ov))]) hx hb (dkP dF_61 DX12_priceOf (i := 47) rfl rfl) rfl hl (by decide) rfl (fun ls hl => ?_)
                  refine lv_iinc (v := nI (q4_13 + 1)) (lv' := [(4, .int (nI (q4_13 + 1))), (2, .int v10), (3, .int (nI q3_4)), (0, .ref (ad 0)), (1, .int (nI ov))]) hx hb (dkI DX12_priceOf (i := 48) rfl rfl rfl rfl) hl (k := 1) rfl (nI_1 _) (by decide) rfl (fun ls hl => ?_)
                  refine lv_goto (tgt := 13) hx hb (dkS dF_167 DX12_priceOf (i := 49) rfl rfl rfl) (by decide) ?_
                  exact ih3 (q4_13 + 1) v10 _ _ _ (by omega) (by (try simp only [lg_cmp_lt, lg_cmp_le, lg_cmp_gt, lg_cmp_ge, lg_cmp_eq] at c2); (try simp (disch := omega) only [ta_lt, ta_le, ta_eq, tb_lt, tb_le, tb_eq, tw, tnI, tsub1, tsv, tn32 1 (by decide), tnj 1 (by decide), tl32 0 (by decide), tl64 0 (by decide), tl32 1 (by decide), tl64 1 (by decide), tl32 8 (by decide), tl64 8 (by decide), tl32 413480 (by decide), tl64 413480 (by decide)] at c2); (try simp only [lg_cmp_lt, lg_cmp_le, lg_cmp_gt, lg_cmp_ge, lg_cmp_eq] at c4); (try simp (disch := omega) only [ta_lt, ta_le, ta_eq, tb_lt, tb_le, tb_eq, tw, tnI, tsub1, tsv, tn32 1 (by decide), tnj 1 (by decide), tl32 0 (by decide), tl64 0 (by decide), tl32 1 (by decide), tl64 1 (by decide), tl32 8 (by decide), tl64 8 (by decide), tl32 413480 (by decide), tl64 413480 (by decide)] at c4); (try simp only [lg_cmp_lt, lg_cmp_le, lg_cmp_gt, lg_cmp_ge, lg_cmp_eq] at c6); (try simp (disch := omega) only [ta_lt, ta_le, ta_eq, tb_lt, tb_le, tb_eq, tw, tnI, tsub1, tsv, tn32 1 (by decide), tnj 1 (by decide), tl32 0 (by decide), tl64 0 (by decide), tl32 1 (by decide), tl64 1 (by decide), tl32 8 (by decide), tl64 8 (by decide), tl32 413480 (by decide), tl64 413480 (by decide)] at c6); (try simp only [lg_cmp_lt, lg_cmp_le, lg_cmp_gt, lg_cmp_ge, lg_cmp_eq] at c9); (try simp (disch := omega) only [ta_lt, ta_le, ta_eq, tb_lt, tb_le, tb_eq, tw, tnI, tsub1, tsv, tn32 1 (by decide), tnj 1 (by decide), tl32 0 (by decide), tl64 0 (by decide), tl32 1 (by decide), tl64 1 (by decide), tl32 8 (by decide), tl64 8 (by decide), tl32 413480 (by decide), tl64 413480 (by decide)] at c9); (try simp (disch := omega) only [ta_lt, ta_le, ta_eq, tb_lt, tb_le, tb_eq, tw, tnI, tsub1, tsv, tn32 1 (by decide), tnj 1 (by decide), tl32 0 (by decide), tl64 0 (by decide), tl32 1 (by decide), tl64 1 (by decide), tl32 8 (by decide), tl64 8 (by decide), tl32 413480 (by decide), tl64 413480 (by decide)]); omega) (ev10.trans (by rw [ht]; exact (prc_1 (by omega) ev5 c6 (by omega)).symm)) hw (lv_sub hl [0, 2, 1, 3, 4] rfl)
        exact lp3 _ 0 q2_4 _ _ _ (Nat.lt_succ_self _) (by (try simp only [lg_cmp_lt, lg_cmp_le, lg_cmp_gt, lg_cmp_ge, lg_cmp_eq] at c2); (try simp (disch := omega) only [ta_lt, ta_le, ta_eq, tb_lt, tb_le, tb_eq, tw, tnI, tsub1, tsv, tn32 1 (by decide), tnj 1 (by decide), tl32 0 (by decide), tl64 0 (by decide), tl32 1 (by decide), tl64 1 (by decide), tl32 8 (by decide), tl64 8 (by decide), tl32 413480 (by decide), tl64 413480 (by decide)] at c2); (try simp (disch := omega) only [ta_lt, ta_le, ta_eq, tb_lt, tb_le, tb_eq, tw, tnI, tsub1, tsv, tn32 1 (by decide), tnj 1 (by decide), tl32 0 (by decide), tl64 0 (by decide), tl32 1 (by decide), tl64 1 (by decide), tl32 8 (by decide), tl64 8 (by decide), tl32 413480 (by decide), tl64 413480 (by decide)]); omega) hs_ hw (lv_sub hl [0, 1, 2, 3, 4] rfl)
  exact lp1 _ 0 0 _ _ _ (Nat.lt_succ_self _) (by (try simp (disch := omega) only [ta_lt, ta_le, ta_eq, tb_lt, tb_le, tb_eq, tw, tnI, tsub1, tsv, tn32 1 (by decide), tnj 1 (by decide), tl32 0 (by decide), tl64 0 (by decide), tl32 1 (by decide), tl64 1 (by decide), tl32 8 (by decide), tl64 8 (by decide), tl32 413480 (by decide), tl64 413480 (by decide)]); omega) rfl hw (lv_sub hl [0, 1, 2, 3] rfl)
set_option maxRecDepth 100000 in
set_option maxHeartbeats 8000000 in
theorem c_X12_mayBeNext_b (l : Launch) (G : va_G) (kc : KC) (ad : Nat → Nat) (σ : Sg) (pg : Nat) (ov : Nat) (hp8 : pg < 8) (hov : ov < 256) (hT : TM σ) : MI l G kc yX12_mayBeNext cX12_mayBeNext 4 (some .boolean) 1 22 [.ref (ad 0), .int (nI pg), .int (nI ov)] shM ad σ (fun r σ1 => ((r = 1 ∧ (MB (σ.1 1) pg ov)) ∨ (r = 0 ∧ (¬ MB (σ.1 1) pg ov))) ∧ σ1 = σ) := by
  intro sz
  refine z_body (y := yX12_mayBeNext) (n := 4) (av := [.ref (ad 0), .int (nI pg), .int (nI ov)]) (Qc := fun A => va_Qi (fun r σ1 => ((r = 1 ∧ (MB (σ.1 1) pg ov)) ∨ (r = 0 ∧ (¬ MB (σ.1 1) pg ov))) ∧ σ1 = σ) (PoC G kc shM ad A) A) (plainFor_of_name (by decide)) (Nat.le_of_ble_eq_true rfl) (fun pr e s m below meth c A C0 hr hlk hnm hw hRo ls hl => ?_) sz
  have hx := C0.1
  have hb := C0.2.1
  have hown := C0.2.2.2.1
  have hts := C0.2.2.2.2.1
  have hl : lv_has ls 4 [(0, .ref (ad 0)), (1, .int (nI pg)), (2, .int (nI ov))] := hl
  refine lv_iconst (v := 0) hx hb (dkP dF_3 DX12_mayBeNext (i := 0) rfl rfl) (by decide) ?_
  refine lv_istore_n (lv' := [(3, .int 0), (0, .ref (ad 0)), (1, .int (nI pg)), (2, .int (nI ov))]) hx hb (dkP dF_62 DX12_mayBeNext (i := 1) rfl rfl) rfl hl (by decide) rfl (fun ls hl => ?_)
  have lp1 : ∀ (nq : Nat) (q3_2 : Nat) (H : Heap) (locs : List Loc) (ls : Array Slot), 8 - q3_2 < nq → (q3_2 ≤ 8) → (∀ q, q < q3_2 → NDr (σ.1 1) pg q → bt ov q = 1) → St G kc A s.heap shM ad σ H locs → lv_has ls 4 [(3, .int (nI q3_2)), (0, .ref (ad 0)), (1, .int (nI pg)), (2, .int (nI ov))] → W pr l e { frames := 1, cells := 0, slots := 0, locals := 22 } s m ([.ref (ad 0), .int (nI pg), .int (nI ov)] : List Value).toArray below meth c H locs 0 0 (MQ below (va_Qi (fun r σ1 => ((r = 1 ∧ (MB (σ.1 1) pg ov)) ∨ (r = 0 ∧ (¬ MB (σ.1 1) pg ov))) ∧ σ1 = σ) (PoC G kc shM ad A) A) ([.ref (ad 0), .int (nI pg), .int (nI ov)] : List Value).toArray s 0 0 A) (F0 m 2 ls []) := by
    intro nq
    induction nq with
    | zero => intro q3_2 H locs ls hmu; exact absurd hmu (Nat.not_lt_zero _)
    | succ nq ih1 =>
      intro q3_2 H locs ls hmu hq3_2 hm hw hl
      refine lv_iload_n hx hb (dkP dF_29 DX12_mayBeNext (i := 2) rfl rfl) rfl (lv_at hl 0 rfl) ?_
      refine lv_bipush (v := 8) hx hb (dks dF_16 DX12_mayBeNext (i := 3) rfl rfl rfl) (by decide) ?_
      refine lv_icmp_ge (tgt := 33) hx hb (dkS dF_162 DX12_mayBeNext (i := 4) rfl rfl rfl) (by decide) (fun c2 => ?_) (fun c2 => ?_)
      · simp (disch := omega) only [ta_lt, ta_le, ta_eq, tnI, tl32 8 (by decide)] at c2
        refine lv_iload_n hx hb (dkP dF_28 DX12_mayBeNext (i := 20) rfl rfl) rfl (lv_at hl 3 rfl) ?_
        refine lv_iload_n hx hb (dkP dF_27 DX12_mayBeNext (i := 21) rfl rfl) rfl (lv_at hl 2 rfl) ?_
        refine lv_ishr hx hb (dkP dF_122 DX12_mayBeNext (i := 22) rfl rfl) ?_
        refine lv_iconst (v := 1) hx hb (dkP dF_4 DX12_mayBeNext (i := 23) rfl rfl) (by decide) ?_
        refine lv_iand hx hb (dkP dF_126 DX12_mayBeNext (i := 24) rfl rfl) ?_
        refine z_top (y := nI (bt ov pg)) (by (try simp only [fa_lit]); exact bs_1 _ (by omega) _ (by omega)) ?_
        have hbt3 := bt_01 ov pg
        refine lv_if_ne (tgt := 45) hx hb (dkS dF_154 DX12_mayBeNext (i := 25) rfl rfl rfl) (by decide) (fun c4 => ?_) (fun c4 => ?_)
        · simp (disch := omega) only [ta_lt, ta_le, ta_eq, tnI, tl32 0 (by decide)] at c4
          refine lv_iconst (v := 0) hx hb (dkP dF_3 DX12_mayBeNext (i := 28) rfl rfl) (by decide) ?_
          exact z_zret C0 hr hlk (by decide) hw (⟨(Or.inr ⟨rfl, (fun h => absurd h.2 (by omega))⟩), rfl⟩) (dkP dF_172 DX12_mayBeNext (i := 29) rfl rfl)
        · simp (disch := omega) only [ta_lt, ta_le, ta_eq, tnI, tl32 0 (by decide)] at c4
          refine lv_iconst (v := 1) hx hb (dkP dF_4 DX12_mayBeNext (i := 26) rfl rfl) (by decide) ?_
          refine lv_goto (tgt := 46) hx hb (dkS dF_167 DX12_mayBeNext (i := 27) rfl rfl rfl) (by decide) ?_
          exact z_zret C0 hr hlk (by decide) hw (⟨(Or.inl ⟨rfl, ⟨fun q hq h => hm q (by omega) h, by omega⟩⟩), rfl⟩) (dkP dF_172 DX12_mayBeNext (i := 29) rfl rfl)
      · simp (disch := omega) only [ta_lt, ta_le, ta_eq, tnI, tl32 8 (by decide)] at c2
        refine lv_aload_n hx hb (dkP dF_42 DX12_mayBeNext (i := 5) rfl rfl) rfl (lv_at hl 1 rfl) ?_
        refine lv_iload_n hx hb (dkP dF_27 DX12_mayBeNext (i := 6) rfl rfl) rfl (lv_at hl 2 rfl) ?_
        refine lv_iload_n hx hb (dkP dF_29 DX12_mayBeNext (i := 7) rfl rfl) rfl (lv_at hl 0 rfl) ?_
        refine zk_I hw (zr_V (As := [.int (nI pg), .int (nI q3_2)]) (rest := []) C0 (c_X12_isNeed l G kc ad σ pg q3_2 (by first | omega | assumption | decide | rfl) (by first | omega | assumption | decide | rfl) hT _) cv_X12_isNeed lk_X12_455 (zp_V C0 hRo hw 0 rfl rfl rfl) rfl hl.1 rfl ⟨by decide, by decide⟩ (Nat.le_of_ble_eq_true rfl) (dk2 dF_182 DX12_mayBeNext (i := 8) rfl rfl rfl) ⟨Nat.le_refl _, Nat.le_refl _⟩) (fun r5 s5 H locs hp hw => ?_)
        obtain ⟨f5_0, hs5⟩ := hp
        (rw [hs5] at hw)
        rcases f5_0 with ⟨rfl, hc5⟩ | ⟨rfl, hc5⟩
        · skip
          refine lv_if_eq (tgt := 27) hx hb (dkS dF_153 DX12_mayBeNext (i := 9) rfl rfl rfl) (by decide) (fun h => absurd h (by decide)) (fun _ => ?_)
          refine lv_iload_n hx hb (dkP dF_28 DX12_mayBeNext (i := 10) rfl rfl) rfl (lv_at hl 3 rfl) ?_
          refine lv_iload_n hx hb (dkP dF_29 DX12_mayBeNext (i := 11) rfl rfl) rfl (lv_at hl 0 rfl) ?_
          refine lv_ishr hx hb (dkP dF_122 DX12_mayBeNext (i := 12) rfl rfl) ?_
          refine lv_iconst (v := 1) hx hb (dkP dF_4 DX12_mayBeNext (i := 13) rfl rfl) (by decide) ?_
          refine lv_iand hx hb (dkP dF_126 DX12_mayBeNext (i := 14) rfl rfl) ?_
          refine z_top (y := nI (bt ov q3_2)) (by (try simp only [fa_lit]); exact bs_1 _ (by omega) _ (by omega)) ?_
          have hbt6 := bt_01 ov q3_2
          refine lv_if_ne (tgt := 27) hx hb (dkS dF_154 DX12_mayBeNext (i := 15) rfl rfl rfl) (by decide) (fun c7 => ?_) (fun c7 => ?_)
          · simp (disch := omega) only [ta_lt, ta_le, ta_eq, tnI, tl32 0 (by decide)] at c7
            refine lv_iinc (v := nI (q3_2 + 1)) (lv' := [(3, .int (nI (q3_2 + 1))), (0, .ref (ad 0)), (1, .int (nI pg)), (2, .int (nI ov))]) hx hb (dkI DX12_mayBeNext (i := 18) rfl rfl rfl rfl) hl (k := 0) rfl (nI_1 _) (by decide) rfl (fun ls hl => ?_)
            refine lv_goto (tgt := 2) hx hb (dkS dF_167 DX12_mayBeNext (i := 19) rfl rfl rfl) (by decide) ?_
            exact ih1 (q3_2 + 1) _ _ _ (by omega) (by (try simp only [lg_cmp_lt, lg_cmp_le, lg_cmp_gt, lg_cmp_ge, lg_cmp_eq] at c2); (try simp (disch := omega) only [ta_lt, ta_le, ta_eq, tb_lt, tb_le, tb_eq, tw, tnI, tsub1, tsv, tn32 1 (by decide), tnj 1 (by decide), tl32 0 (by decide), tl64 0 (by decide), tl32 1 (by decide), tl64 1 (by decide), tl32 8 (by decide), tl64 8 (by decide)] at c2); (try simp only [lg_cmp_lt, lg_cmp_le, lg_cmp_gt, lg_cmp_ge, lg_cmp_eq] at f5_0); (try simp (disch := omega) only [ta_lt, ta_le, ta_eq, tb_lt, tb_le, tb_eq, tw, tnI, tsub1, tsv, tn32 1 (by decide), tnj 1 (by decide), tl32 0 (by decide), tl64 0 (by decide), tl32 1 (by decide), tl64 1 (by decide), tl32 8 (by decide), tl64 8 (by decide)] at f5_0); (try simp only [lg_cmp_lt, lg_cmp_le, lg_cmp_gt, lg_cmp_ge, lg_cmp_eq] at hc5); (try simp (disch := omega) only [ta_lt, ta_le, ta_eq, tb_lt, tb_le, tb_eq, tw, tnI, tsub1, tsv, tn32 1 (by decide), tnj 1 (by decide), tl32 0 (by decide), tl64 0 (by decide), tl32 1 (by decide), tl64 1 (by decide), tl32 8 (by decide), tl64 8 (by decide)] at hc5); (try simp only [lg_cmp_lt, lg_cmp_le, lg_cmp_gt, lg_cmp_ge, lg_cmp_eq] at c7); (try simp (disch := omega) only [ta_lt, ta_le, ta_eq, tb_lt, tb_le, tb_eq, tw, tnI, tsub1, tsv, tn32 1 (by decide), tnj 1 (by decide), tl32 0 (by decide), tl64 0 (by decide), tl32 1 (by decide), tl64 1 (by decide), tl32 8 (by decide), tl64 8 (by decide)] at c7); (try simp (disch := omega) only [ta_lt, ta_le, ta_eq, tb_lt, tb_le, tb_eq, tw, tnI, tsub1, tsv, tn32 1 (by decide), tnj 1 (by decide), tl32 0 (by decide), tl64 0 (by decide), tl32 1 (by decide), tl64 1 (by decide), tl32 8 (by decide), tl64 8 (by decide)]); omega) (fun q hq hn_ => by by_cases e_ : q = q3_2; (· rw [e_] at hn_ ⊢; exact (by omega)); (· exact hm q (by omega) hn_)) hw (lv_sub hl [0, 1, 2, 3] rfl)
          · simp (disch := omega) only [ta_lt, ta_le, ta_eq, tnI, tl32 0 (by decide)] at c7
            refine lv_iconst (v := 0) hx hb (dkP dF_3 DX12_mayBeNext (i := 16) rfl rfl) (by decide) ?_
            exact z_zret C0 hr hlk (by decide) hw (⟨(Or.inr ⟨rfl, (fun h => absurd (h.1 q3_2 (by omega) hc5) (by omega))⟩), rfl⟩) (dkP dF_172 DX12_mayBeNext (i := 17) rfl rfl)
        · skip
          refine lv_if_eq (tgt := 27) hx hb (dkS dF_153 DX12_mayBeNext (i := 9) rfl rfl rfl) (by decide) (fun _ => ?_) (fun h => absurd h (by decide))
          refine lv_iinc (v := nI (q3_2 + 1)) (lv' := [(3, .int (nI (q3_2 + 1))), (0, .ref (ad 0)), (1, .int (nI pg)), (2, .int (nI ov))]) hx hb (dkI DX12_mayBeNext (i := 18) rfl rfl rfl rfl) hl (k := 0) rfl (nI_1 _) (by decide) rfl (fun ls hl => ?_)
          refine lv_goto (tgt := 2) hx hb (dkS dF_167 DX12_mayBeNext (i := 19) rfl rfl rfl) (by decide) ?_
          exact ih1 (q3_2 + 1) _ _ _ (by omega) (by (try simp only [lg_cmp_lt, lg_cmp_le, lg_cmp_gt, lg_cmp_ge, lg_cmp_eq] at c2); (try simp (disch := omega) only [ta_lt, ta_le, ta_eq, tb_lt, tb_le, tb_eq, tw, tnI, tsub1, tsv, tn32 1 (by decide), tnj 1 (by decide), tl32 0 (by decide), tl64 0 (by decide), tl32 1 (by decide), tl64 1 (by decide), tl32 8 (by decide), tl64 8 (by decide)] at c2); (try simp only [lg_cmp_lt, lg_cmp_le, lg_cmp_gt, lg_cmp_ge, lg_cmp_eq] at f5_0); (try simp (disch := omega) only [ta_lt, ta_le, ta_eq, tb_lt, tb_le, tb_eq, tw, tnI, tsub1, tsv, tn32 1 (by decide), tnj 1 (by decide), tl32 0 (by decide), tl64 0 (by decide), tl32 1 (by decide), tl64 1 (by decide), tl32 8 (by decide), tl64 8 (by decide)] at f5_0); (try simp only [lg_cmp_lt, lg_cmp_le, lg_cmp_gt, lg_cmp_ge, lg_cmp_eq] at hc5); (try simp (disch := omega) only [ta_lt, ta_le, ta_eq, tb_lt, tb_le, tb_eq, tw, tnI, tsub1, tsv, tn32 1 (by decide), tnj 1 (by decide), tl32 0 (by decide), tl64 0 (by decide), tl32 1 (by decide), tl64 1 (by decide), tl32 8 (by decide), tl64 8 (by decide)] at hc5); (try simp (disch := omega) only [ta_lt, ta_le, ta_eq, tb_lt, tb_le, tb_eq, tw, tnI, tsub1, tsv, tn32 1 (by decide), tnj 1 (by decide), tl32 0 (by decide), tl64 0 (by decide), tl32 1 (by decide), tl64 1 (by decide), tl32 8 (by decide), tl64 8 (by decide)]); omega) (fun q hq hn_ => by by_cases e_ : q = q3_2; (· rw [e_] at hn_ ⊢; exact absurd hn_ hc5); (· exact hm q (by omega) hn_)) hw (lv_sub hl [0, 1, 2, 3] rfl)
  exact lp1 _ 0 _ _ _ (Nat.lt_succ_self _) (by (try simp (disch := omega) only [ta_lt, ta_le, ta_eq, tb_lt, tb_le, tb_eq, tw, tnI, tsub1, tsv, tn32 1 (by decide), tnj 1 (by decide), tl32 0 (by decide), tl64 0 (by decide), tl32 1 (by decide), tl64 1 (by decide), tl32 8 (by decide), tl64 8 (by decide)]); omega) (fun q hq => absurd hq (Nat.not_lt_zero q)) hw (lv_sub hl [0, 1, 2, 3] rfl)
