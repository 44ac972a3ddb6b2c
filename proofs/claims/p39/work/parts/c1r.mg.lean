set_option maxRecDepth 100000 in
set_option maxHeartbeats 8000000 in
theorem c_X12_restore_q (l : Launch) (G : va_G) (kc : KC) (ad : Nat → Nat) (σ : Sg) (ik : Int32) (hJ : JM σ) (hT : TM σ) : MI l G kc yX12_restore cX12_restore 3 (some .int) 1 25 [.ref (ad 0), .int ik] shM ad σ (fun r σ1 => (RSQ (σ.1 3) ik r) ∧ (JM σ1) ∧ TM σ1 ∧ fr false [1] [] σ σ1) := by
  intro sz
  refine z_body (y := yX12_restore) (n := 3) (av := [.ref (ad 0), .int ik]) (Qc := fun A => va_Qi (fun r σ1 => (RSQ (σ.1 3) ik r) ∧ (JM σ1) ∧ TM σ1 ∧ fr false [1] [] σ σ1) (PoC G kc shM ad A) A) (plainFor_of_name (by decide)) (Nat.le_of_ble_eq_true rfl) (fun pr e s m below meth c A C0 hr hlk hnm hw hRo ls hl => ?_) sz
  have hx := C0.1
  have hb := C0.2.1
  have hown := C0.2.2.2.1
  have hts := C0.2.2.2.2.1
  have hl : lv_has ls 3 [(0, .ref (ad 0)), (1, .int ik)] := hl
  refine lv_iload_n hx hb (dkP dF_27 DX12_restore (i := 0) rfl rfl) rfl (lv_at hl 1 rfl) ?_
  refine lv_i2l hx hb (dkP dF_133 DX12_restore (i := 1) rfl rfl) rfl ?_
  refine lv_lconst (v := 0) hx hb (dkP dF_9 DX12_restore (i := 2) rfl rfl) (by decide) ?_
  refine lv_ldc2 hx hb hown (hts _ kn_X12_145) (dk2 dF_20 DX12_restore (i := 3) rfl rfl rfl) ?_
  refine zn_I hw (zr_S (As := [.long ik.toInt64, .long 0, .long 2]) (rest := []) C0 (c_X12_in l G kc ik.toInt64 0 2  _) cs_X12_in lk_X12_9 (zp_P C0 hRo hw a00 s00) rfl hl.1 rfl ⟨by decide, by decide⟩ (Nat.le_of_ble_eq_true rfl) (dk2 dF_184 DX12_restore (i := 4) rfl rfl rfl) ⟨Nat.le_refl _, Nat.le_refl _⟩) (fun r1 s1 H locs hp hw => ?_)
  rcases hp with ⟨rfl, hc1⟩ | ⟨rfl, hc1⟩
  · skip
    (try simp (disch := omega) only [ta_lt, ta_le, ta_eq, tb_lt, tb_le, tb_eq, tw, tnI, tn32 1 (by decide), tnj 1 (by decide), tl32 0 (by decide), tl64 0 (by decide), tl32 2 (by decide), tl64 2 (by decide)] at hc1)
    obtain ⟨k_ik, hk_ik, rfl⟩ := to_nat (x := ik) (n := 3) (by (try simp only [lg_cmp_lt, lg_cmp_le, lg_cmp_gt, lg_cmp_ge, lg_cmp_eq] at hc1); (try simp (disch := omega) only [ta_lt, ta_le, ta_eq, tb_lt, tb_le, tb_eq, tw, tnI, tn32 1 (by decide), tnj 1 (by decide), tl32 0 (by decide), tl64 0 (by decide), tl32 2 (by decide), tl64 2 (by decide)] at hc1); (try simp (disch := omega) only [ta_lt, ta_le, ta_eq, tb_lt, tb_le, tb_eq, tw, tnI, tn32 1 (by decide), tnj 1 (by decide), tl32 0 (by decide), tl64 0 (by decide), tl32 2 (by decide), tl64 2 (by decide)]); omega)
    refine lv_if_ne (tgt := 15) hx hb (dkS dF_154 DX12_restore (i := 5) rfl rfl rfl) (by decide) (fun _ => ?_) (fun h => absurd h (by decide))
    refine lv_aload_n hx hb (dkP dF_42 DX12_restore (i := 8) rfl rfl) rfl (lv_at hl 0 rfl) ?_
    refine z_gr C0 hw 0 3 3 rfl fl_X12_28 (dk2 dF_180 DX12_restore (i := 9) rfl rfl rfl) ?_
    refine lv_iload_n hx hb (dkP dF_27 DX12_restore (i := 10) rfl rfl) rfl (lv_at hl 1 rfl) ?_
    refine z_zaldN (n := 3) C0 hw 3 k_ik rfl (by omega) (by decide) (dkP dF_51 DX12_restore (i := 11) rfl rfl) ?_
    obtain ⟨n2, hn2, en2⟩ := rngN (x := σ.1 3 k_ik) (h := 1) (show 0 ≤ _ ∧ _ ≤ 1 from hT 3 _)
    refine z_top (y := nI n2) en2 ?_
    refine lv_if_ne (tgt := 27) hx hb (dkS dF_154 DX12_restore (i := 12) rfl rfl rfl) (by decide) (fun c3 => ?_) (fun c3 => ?_)
    · simp (disch := omega) only [ta_lt, ta_le, ta_eq, tnI, tl32 0 (by decide)] at c3
      have hh1 : σ.1 3 k_ik = 1 := en2.trans (by have h := nI01 (n := n2) (by omega); rcases h with h | h; (· exact absurd h (nI_ne (by omega) (by omega))); (· exact h))
      refine lv_iconst (v := 0) hx hb (dkP dF_3 DX12_restore (i := 15) rfl rfl) (by decide) ?_
      refine lv_istore_n (lv' := [(2, .int 0), (0, .ref (ad 0)), (1, .int (nI k_ik))]) hx hb (dkP dF_61 DX12_restore (i := 16) rfl rfl) rfl hl (by decide) rfl (fun ls hl => ?_)
      have lp5 : ∀ (nq : Nat) (q2_29 : Nat) (τ4 : Sg) (H : Heap) (locs : List Loc) (ls : Array Slot), 414128 - q2_29 < nq → (q2_29 ≤ 414128) → ((∀ i, i < q2_29 → τ4.1 1 i = σ.1 2 (414128 * k_ik + i))) → (TM τ4) → (fr false [1] [] σ τ4) → St G kc A s.heap shM ad τ4 H locs → lv_has ls 3 [(2, .int (nI q2_29)), (0, .ref (ad 0)), (1, .int (nI k_ik))] → W pr l e { frames := 1, cells := 0, slots := 0, locals := 25 } s m ([.ref (ad 0), .int (nI k_ik)] : List Value).toArray below meth c H locs 0 0 (MQ below (va_Qi (fun r σ1 => (RSQ (σ.1 3) (nI k_ik) r) ∧ (JM σ1) ∧ TM σ1 ∧ fr false [1] [] σ σ1) (PoC G kc shM ad A) A) ([.ref (ad 0), .int (nI k_ik)] : List Value).toArray s 0 0 A) (F0 m 29 ls []) := by
        intro nq
        induction nq with
        | zero => intro q2_29 τ4 H locs ls hmu; exact absurd hmu (Nat.not_lt_zero _)
        | succ nq ih5 =>
          intro q2_29 τ4 H locs ls hmu hq2_29 hri hT_τ4 hF_τ4 hw hl
          refine lv_iload_n hx hb (dkP dF_28 DX12_restore (i := 17) rfl rfl) rfl (lv_at hl 0 rfl) ?_
          refine lv_ldc hx hb hown (hts _ kn_X12_19) (dk1 dF_18 DX12_restore (i := 18) rfl rfl rfl) ?_
          refine lv_icmp_ge (tgt := 58) hx hb (dkS dF_162 DX12_restore (i := 19) rfl rfl rfl) (by decide) (fun c6 => ?_) (fun c6 => ?_)
          · simp (disch := omega) only [ta_lt, ta_le, ta_eq, tnI, tl32 414128 (by decide)] at c6
            refine lv_iconst (v := 0) hx hb (dkP dF_3 DX12_restore (i := 34) rfl rfl) (by decide) ?_
            exact z_iret C0 hr hlk hw (⟨(Or.inr ⟨k_ik, by omega, rfl, Or.inr ⟨hh1, rfl⟩⟩), (JM_rest hJ (by omega) (fun i hi => hri i (by omega)) ((hF_τ4.1 2 (by decide) (by decide)).trans rfl) ((hF_τ4.1 3 (by decide) (by decide)).trans rfl)), hT_τ4, hF_τ4⟩) (dkP dF_172 DX12_restore (i := 35) rfl rfl)
          · simp (disch := omega) only [ta_lt, ta_le, ta_eq, tnI, tl32 414128 (by decide)] at c6
            refine lv_aload_n hx hb (dkP dF_42 DX12_restore (i := 20) rfl rfl) rfl (lv_at hl 1 rfl) ?_
            refine z_gr C0 hw 0 1 1 rfl fl_X12_20 (dk2 dF_180 DX12_restore (i := 21) rfl rfl rfl) ?_
            refine lv_iload_n hx hb (dkP dF_28 DX12_restore (i := 22) rfl rfl) rfl (lv_at hl 0 rfl) ?_
            refine lv_aload_n hx hb (dkP dF_42 DX12_restore (i := 23) rfl rfl) rfl (lv_at hl 1 rfl) ?_
            refine z_gr C0 hw 0 2 2 rfl fl_X12_25 (dk2 dF_180 DX12_restore (i := 24) rfl rfl rfl) ?_
            refine lv_ldc hx hb hown (hts _ kn_X12_19) (dk1 dF_18 DX12_restore (i := 25) rfl rfl rfl) ?_
            refine lv_iload_n hx hb (dkP dF_27 DX12_restore (i := 26) rfl rfl) rfl (lv_at hl 2 rfl) ?_
            refine lv_imul hx hb (dkP dF_104 DX12_restore (i := 27) rfl rfl) ?_
            refine z_top (y := nI (414128 * k_ik)) (by simp only [fa_lit, nI_add, pk_mul]) ?_
            refine lv_iload_n hx hb (dkP dF_28 DX12_restore (i := 28) rfl rfl) rfl (lv_at hl 0 rfl) ?_
            refine lv_iadd hx hb (dkP dF_96 DX12_restore (i := 29) rfl rfl) ?_
            refine z_top (y := nI ((414128 * k_ik) + q2_29)) (by simp only [fa_lit, nI_add, pk_mul]) ?_
            refine z_ialdN (n := 1242384) C0 hw 2 ((414128 * k_ik) + q2_29) rfl (by omega) (by decide) (dkP dF_46 DX12_restore (i := 30) rfl rfl) ?_
            obtain ⟨v7, ev7⟩ : ∃ y : Int32, τ4.1 2 ((414128 * k_ik) + q2_29) = y := ⟨_, rfl⟩
            refine z_top (y := v7) ev7 ?_
            refine z_iastN (n := 414128) C0 hw 1 q2_29 rfl (by omega) (by decide) (dkP dF_79 DX12_restore (i := 31) rfl rfl) (fun H locs hw => ?_)
            have hT8 : TM (sI τ4 1 q2_29 v7) := TM.w hT_τ4 (ty_rs (by omega) (by rw [← ev7]; exact hT_τ4 2 _) (fun e3 => by subst e3; rw [← ((congrFun ((hF_τ4.1 2 (by decide) (by decide)).trans rfl) _).symm.trans ev7)]; exact (hJ.2 k_ik (by omega)).2 hh1))
            have hF8 : fr false [1] [] σ (sI τ4 1 q2_29 v7) := fr.w hF_τ4 (Or.inl ⟨by decide, by decide⟩) (fun h => absurd h (by decide))
            refine lv_iinc (v := nI (q2_29 + 1)) (lv' := [(2, .int (nI (q2_29 + 1))), (0, .ref (ad 0)), (1, .int (nI k_ik))]) hx hb (dkI DX12_restore (i := 32) rfl rfl rfl rfl) hl (k := 0) rfl (nI_1 _) (by decide) rfl (fun ls hl => ?_)
            refine lv_goto (tgt := 29) hx hb (dkS dF_167 DX12_restore (i := 33) rfl rfl rfl) (by decide) ?_
            exact ih5 (q2_29 + 1) (sI τ4 1 q2_29 v7) _ _ _ (by omega) (by (try simp only [lg_cmp_lt, lg_cmp_le, lg_cmp_gt, lg_cmp_ge, lg_cmp_eq] at hc1); (try simp (disch := omega) only [ta_lt, ta_le, ta_eq, tb_lt, tb_le, tb_eq, tw, tnI, tsub1, tsv, tn32 1 (by decide), tnj 1 (by decide), tl32 0 (by decide), tl64 0 (by decide), tl32 2 (by decide), tl64 2 (by decide), tl32 414128 (by decide), tl64 414128 (by decide)] at hc1); (try simp only [lg_cmp_lt, lg_cmp_le, lg_cmp_gt, lg_cmp_ge, lg_cmp_eq] at c3); (try simp (disch := omega) only [ta_lt, ta_le, ta_eq, tb_lt, tb_le, tb_eq, tw, tnI, tsub1, tsv, tn32 1 (by decide), tnj 1 (by decide), tl32 0 (by decide), tl64 0 (by decide), tl32 2 (by decide), tl64 2 (by decide), tl32 414128 (by decide), tl64 414128 (by decide)] at c3); (try simp only [lg_cmp_lt, lg_cmp_le, lg_cmp_gt, lg_cmp_ge, lg_cmp_eq] at c6); (try simp (disch := omega) only [ta_lt, ta_le, ta_eq, tb_lt, tb_le, tb_eq, tw, tnI, tsub1, tsv, tn32 1 (by decide), tnj 1 (by decide), tl32 0 (by decide), tl64 0 (by decide), tl32 2 (by decide), tl64 2 (by decide), tl32 414128 (by decide), tl64 414128 (by decide)] at c6); (try simp (disch := omega) only [ta_lt, ta_le, ta_eq, tb_lt, tb_le, tb_eq, tw, tnI, tsub1, tsv, tn32 1 (by decide), tnj 1 (by decide), tl32 0 (by decide), tl64 0 (by decide), tl32 2 (by decide), tl64 2 (by decide), tl32 414128 (by decide), tl64 414128 (by decide)]); omega) (fun i hi => by by_cases e_ : i = q2_29; (· rw [e_]; exact rd_s.trans (Eq.symm ((congrFun ((hF_τ4.1 2 (by decide) (by decide)).trans rfl) _).symm.trans ev7))); (· exact (rd_n (by omega)).trans (hri i (by omega)))) hT8 hF8 hw (lv_sub hl [0, 1, 2] rfl)
      exact lp5 _ 0 σ _ _ _ (Nat.lt_succ_self _) (by (try simp only [lg_cmp_lt, lg_cmp_le, lg_cmp_gt, lg_cmp_ge, lg_cmp_eq] at hc1); (try simp (disch := omega) only [ta_lt, ta_le, ta_eq, tb_lt, tb_le, tb_eq, tw, tnI, tsub1, tsv, tn32 1 (by decide), tnj 1 (by decide), tl32 0 (by decide), tl64 0 (by decide), tl32 2 (by decide), tl64 2 (by decide), tl32 414128 (by decide), tl64 414128 (by decide)] at hc1); (try simp only [lg_cmp_lt, lg_cmp_le, lg_cmp_gt, lg_cmp_ge, lg_cmp_eq] at c3); (try simp (disch := omega) only [ta_lt, ta_le, ta_eq, tb_lt, tb_le, tb_eq, tw, tnI, tsub1, tsv, tn32 1 (by decide), tnj 1 (by decide), tl32 0 (by decide), tl64 0 (by decide), tl32 2 (by decide), tl64 2 (by decide), tl32 414128 (by decide), tl64 414128 (by decide)] at c3); (try simp (disch := omega) only [ta_lt, ta_le, ta_eq, tb_lt, tb_le, tb_eq, tw, tnI, tsub1, tsv, tn32 1 (by decide), tnj 1 (by decide), tl32 0 (by decide), tl64 0 (by decide), tl32 2 (by decide), tl64 2 (by decide), tl32 414128 (by decide), tl64 414128 (by decide)]); omega) (fun i hi => absurd hi (Nat.not_lt_zero i)) hT fr.refl hw (lv_sub hl [0, 1, 2] rfl)
    · simp (disch := omega) only [ta_lt, ta_le, ta_eq, tnI, tl32 0 (by decide)] at c3
      refine lv_bipush (v := (-6)) hx hb (dks dF_16 DX12_restore (i := 13) rfl rfl rfl) (by decide) ?_
      exact z_iret C0 hr hlk hw (⟨(Or.inr ⟨k_ik, by omega, rfl, Or.inl ⟨en2.trans (by rw [show n2 = 0 from by omega]; rfl), rfl⟩⟩), hJ, hT, fr.refl⟩) (dkP dF_172 DX12_restore (i := 14) rfl rfl)
  · skip
    (try simp (disch := omega) only [ta_lt, ta_le, ta_eq, tb_lt, tb_le, tb_eq, tw, tnI, tn32 6 (by decide), tnj 6 (by decide), tn32 1 (by decide), tnj 1 (by decide), tl32 0 (by decide), tl64 0 (by decide), tl32 2 (by decide), tl64 2 (by decide), tl32 414128 (by decide), tl64 414128 (by decide)] at hc1)
    refine lv_if_ne (tgt := 15) hx hb (dkS dF_154 DX12_restore (i := 5) rfl rfl rfl) (by decide) (fun h => absurd h (by decide)) (fun _ => ?_)
    refine lv_bipush (v := (-2)) hx hb (dks dF_16 DX12_restore (i := 6) rfl rfl rfl) (by decide) ?_
    exact z_iret C0 hr hlk hw (⟨(by unfold RSQ; left; refine ⟨?_, rfl⟩; (try simp only [lg_cmp_lt, lg_cmp_le, lg_cmp_gt, lg_cmp_ge, lg_cmp_eq] at hc1); (try simp (disch := omega) only [ta_lt, ta_le, ta_eq, tb_lt, tb_le, tb_eq, tw, tnI, tsub1, tsv, tn32 6 (by decide), tnj 6 (by decide), tn32 2 (by decide), tnj 2 (by decide), tn32 1 (by decide), tnj 1 (by decide), tl32 0 (by decide), tl64 0 (by decide), tl32 2 (by decide), tl64 2 (by decide), tl32 414128 (by decide), tl64 414128 (by decide)] at hc1); (try simp (disch := omega) only [ta_lt, ta_le, ta_eq, tb_lt, tb_le, tb_eq, tw, tnI, tsub1, tsv, tn32 6 (by decide), tnj 6 (by decide), tn32 2 (by decide), tnj 2 (by decide), tn32 1 (by decide), tnj 1 (by decide), tl32 0 (by decide), tl64 0 (by decide), tl32 2 (by decide), tl64 2 (by decide), tl32 414128 (by decide), tl64 414128 (by decide)]); omega), hJ, hT, fr.refl⟩) (dkP dF_172 DX12_restore (i := 7) rfl rfl)
