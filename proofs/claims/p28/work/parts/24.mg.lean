set_option maxRecDepth 100000 in
set_option maxHeartbeats 8000000 in
theorem c_X12_isPut (l : Launch) (G : va_G) (kc : KC) (ad : Nat → Nat) (σ : Sg) (cs : Nat) (f : Int32) {n : Nat} (hcs : cs ≤ 11) (hn8 : n ≤ 8) (hn : σ.1 8 (2 * cs + 1) = nI n) (hT : TM σ) : MI l G kc yX12_isPut cX12_isPut 5 (some .boolean) 0 0 [.ref (ad 0), .int (nI cs), .int f] shM ad σ (fun r σ1 => ((r = 1 ∧ (True)) ∨ (r = 0 ∧ (∀ j, j < n → ¬ σ.1 10 (10 * (8 * cs + j)) = f))) ∧ σ1 = σ) := by
  intro sz
  refine z_body (y := yX12_isPut) (n := 5) (av := [.ref (ad 0), .int (nI cs), .int f]) (Qc := fun A => va_Qi (fun r σ1 => ((r = 1 ∧ (True)) ∨ (r = 0 ∧ (∀ j, j < n → ¬ σ.1 10 (10 * (8 * cs + j)) = f))) ∧ σ1 = σ) (PoC G kc shM ad A) A) (plainFor_of_name (by decide)) (Nat.le_of_ble_eq_true rfl) (fun pr e s m below meth c A C0 hr hlk hnm hw hRo ls hl => ?_) sz
  have hx := C0.1
  have hb := C0.2.1
  have hown := C0.2.2.2.1
  have hts := C0.2.2.2.2.1
  have hl : lv_has ls 5 [(0, .ref (ad 0)), (1, .int (nI cs)), (2, .int f)] := hl
  refine lv_iconst (v := 0) hx hb (dkP dF_3 DX12_isPut (i := 0) rfl rfl) (by decide) ?_
  refine lv_istore_n (lv' := [(3, .int 0), (0, .ref (ad 0)), (1, .int (nI cs)), (2, .int f)]) hx hb (dkP dF_62 DX12_isPut (i := 1) rfl rfl) rfl hl (by decide) rfl (fun ls hl => ?_)
  refine lv_iconst (v := 0) hx hb (dkP dF_3 DX12_isPut (i := 2) rfl rfl) (by decide) ?_
  refine lv_istore (lv' := [(4, .int 0), (3, .int 0), (0, .ref (ad 0)), (1, .int (nI cs)), (2, .int f)]) hx hb (dk1 dF_54 DX12_isPut (i := 3) rfl rfl rfl) hl (by decide) rfl (fun ls hl => ?_)
  have lp1 : ∀ (nq : Nat) (q4_5 : Nat) (q3_5 : Int32) (H : Heap) (locs : List Loc) (ls : Array Slot), n - q4_5 < nq → (q4_5 ≤ n) → (q3_5 = 1 ∨ (q3_5 = 0 ∧ ∀ j, j < q4_5 → ¬ σ.1 10 (10 * (8 * cs + j)) = f)) → St G kc A s.heap shM ad σ H locs → lv_has ls 5 [(4, .int (nI q4_5)), (3, .int q3_5), (0, .ref (ad 0)), (1, .int (nI cs)), (2, .int f)] → W pr l e { frames := 0, cells := 0, slots := 0, locals := 0 } s m ([.ref (ad 0), .int (nI cs), .int f] : List Value).toArray below meth c H locs 0 0 (MQ below (va_Qi (fun r σ1 => ((r = 1 ∧ (True)) ∨ (r = 0 ∧ (∀ j, j < n → ¬ σ.1 10 (10 * (8 * cs + j)) = f))) ∧ σ1 = σ) (PoC G kc shM ad A) A) ([.ref (ad 0), .int (nI cs), .int f] : List Value).toArray s 0 0 A) (F0 m 5 ls []) := by
    intro nq
    induction nq with
    | zero => intro q4_5 q3_5 H locs ls hmu; exact absurd hmu (Nat.not_lt_zero _)
    | succ nq ih1 =>
      intro q4_5 q3_5 H locs ls hmu hq4_5 hq hw hl
      refine lv_iload hx hb (dk1 dF_21 DX12_isPut (i := 4) rfl rfl rfl) (lv_at hl 0 rfl) ?_
      refine lv_aload_n hx hb (dkP dF_42 DX12_isPut (i := 5) rfl rfl) rfl (lv_at hl 2 rfl) ?_
      refine z_gr C0 hw 0 16 8 rfl fl_X12_48 (dk2 dF_180 DX12_isPut (i := 6) rfl rfl rfl) ?_
      refine lv_iconst (v := 2) hx hb (dkP dF_5 DX12_isPut (i := 7) rfl rfl) (by decide) ?_
      refine lv_iload_n hx hb (dkP dF_27 DX12_isPut (i := 8) rfl rfl) rfl (lv_at hl 3 rfl) ?_
      refine lv_imul hx hb (dkP dF_104 DX12_isPut (i := 9) rfl rfl) ?_
      refine z_top (y := nI (2 * cs)) (by simp only [fa_lit, nI_add, pk_mul]) ?_
      refine lv_iconst (v := 1) hx hb (dkP dF_4 DX12_isPut (i := 10) rfl rfl) (by decide) ?_
      refine lv_iadd hx hb (dkP dF_96 DX12_isPut (i := 11) rfl rfl) ?_
      refine z_top (y := nI ((2 * cs) + 1)) (by simp only [fa_lit, nI_add, pk_mul]) ?_
      refine z_ialdN (n := 24) C0 hw 8 ((2 * cs) + 1) rfl (by omega) (by decide) (dkP dF_46 DX12_isPut (i := 12) rfl rfl) ?_
      refine z_top (y := (nI n)) hn ?_
      refine lv_icmp_ge (tgt := 55) hx hb (dkS dF_162 DX12_isPut (i := 13) rfl rfl rfl) (by decide) (fun c2 => ?_) (fun c2 => ?_)
      · simp (disch := omega) only [ta_lt, ta_le, ta_eq, tnI] at c2
        refine lv_iload_n hx hb (dkP dF_29 DX12_isPut (i := 34) rfl rfl) rfl (lv_at hl 1 rfl) ?_
        exact z_zret C0 hr hlk (by rcases hq with h | h; (· exact Or.inr h); (· exact Or.inl h.1)) hw (⟨(by rcases hq with h | h; (· exact Or.inl ⟨h, trivial⟩); (· exact Or.inr ⟨h.1, fun j hj => h.2 j (by omega)⟩)), rfl⟩) (dkP dF_172 DX12_isPut (i := 35) rfl rfl)
      · simp (disch := omega) only [ta_lt, ta_le, ta_eq, tnI] at c2
        refine lv_iload_n hx hb (dkP dF_29 DX12_isPut (i := 14) rfl rfl) rfl (lv_at hl 1 rfl) ?_
        refine lv_if_ne (tgt := 43) hx hb (dkS dF_154 DX12_isPut (i := 15) rfl rfl rfl) (by decide) (fun c3 => ?_) (fun c3 => ?_)
        · skip
          refine lv_iconst (v := 1) hx hb (dkP dF_4 DX12_isPut (i := 28) rfl rfl) (by decide) ?_
          refine lv_goto (tgt := 48) hx hb (dkS dF_167 DX12_isPut (i := 29) rfl rfl rfl) (by decide) ?_
          refine lv_istore_n (lv' := [(3, .int 1), (4, .int (nI q4_5)), (0, .ref (ad 0)), (1, .int (nI cs)), (2, .int f)]) hx hb (dkP dF_62 DX12_isPut (i := 31) rfl rfl) rfl hl (by decide) rfl (fun ls hl => ?_)
          refine lv_iinc (v := nI (q4_5 + 1)) (lv' := [(4, .int (nI (q4_5 + 1))), (3, .int 1), (0, .ref (ad 0)), (1, .int (nI cs)), (2, .int f)]) hx hb (dkI DX12_isPut (i := 32) rfl rfl rfl rfl) hl (k := 1) rfl (nI_1 _) (by decide) rfl (fun ls hl => ?_)
          refine lv_goto (tgt := 5) hx hb (dkS dF_167 DX12_isPut (i := 33) rfl rfl rfl) (by decide) ?_
          exact ih1 (q4_5 + 1) 1 _ _ _ (by omega) (by (try simp only [lg_cmp_lt, lg_cmp_le, lg_cmp_gt, lg_cmp_ge, lg_cmp_eq] at c2); (try simp (disch := omega) only [ta_lt, ta_le, ta_eq, tb_lt, tb_le, tb_eq, tw, tnI, tsub1, tsv, tn32 1 (by decide), tnj 1 (by decide), tl32 0 (by decide), tl64 0 (by decide), tl32 1 (by decide), tl64 1 (by decide), tl32 2 (by decide), tl64 2 (by decide)] at c2); (try simp only [lg_cmp_lt, lg_cmp_le, lg_cmp_gt, lg_cmp_ge, lg_cmp_eq] at c3); (try simp (disch := omega) only [ta_lt, ta_le, ta_eq, tb_lt, tb_le, tb_eq, tw, tnI, tsub1, tsv, tn32 1 (by decide), tnj 1 (by decide), tl32 0 (by decide), tl64 0 (by decide), tl32 1 (by decide), tl64 1 (by decide), tl32 2 (by decide), tl64 2 (by decide)] at c3); (try simp (disch := omega) only [ta_lt, ta_le, ta_eq, tb_lt, tb_le, tb_eq, tw, tnI, tsub1, tsv, tn32 1 (by decide), tnj 1 (by decide), tl32 0 (by decide), tl64 0 (by decide), tl32 1 (by decide), tl64 1 (by decide), tl32 2 (by decide), tl64 2 (by decide)]); omega) (Or.inl rfl) hw (lv_sub hl [0, 1, 2, 3, 4] rfl)
        · skip
          refine lv_aload_n hx hb (dkP dF_42 DX12_isPut (i := 16) rfl rfl) rfl (lv_at hl 2 rfl) ?_
          refine z_gr C0 hw 0 18 10 rfl fl_X12_54 (dk2 dF_180 DX12_isPut (i := 17) rfl rfl rfl) ?_
          refine lv_bipush (v := 10) hx hb (dks dF_16 DX12_isPut (i := 18) rfl rfl rfl) (by decide) ?_
          refine lv_bipush (v := 8) hx hb (dks dF_16 DX12_isPut (i := 19) rfl rfl rfl) (by decide) ?_
          refine lv_iload_n hx hb (dkP dF_27 DX12_isPut (i := 20) rfl rfl) rfl (lv_at hl 3 rfl) ?_
          refine lv_imul hx hb (dkP dF_104 DX12_isPut (i := 21) rfl rfl) ?_
          refine z_top (y := nI (8 * cs)) (by simp only [fa_lit, nI_add, pk_mul]) ?_
          refine lv_iload hx hb (dk1 dF_21 DX12_isPut (i := 22) rfl rfl rfl) (lv_at hl 0 rfl) ?_
          refine lv_iadd hx hb (dkP dF_96 DX12_isPut (i := 23) rfl rfl) ?_
          refine z_top (y := nI ((8 * cs) + q4_5)) (by simp only [fa_lit, nI_add, pk_mul]) ?_
          refine lv_imul hx hb (dkP dF_104 DX12_isPut (i := 24) rfl rfl) ?_
          refine z_top (y := nI (10 * ((8 * cs) + q4_5))) (by simp only [fa_lit, nI_add, pk_mul]) ?_
          refine z_ialdN (n := 960) C0 hw 10 (10 * ((8 * cs) + q4_5)) rfl (by omega) (by decide) (dkP dF_46 DX12_isPut (i := 25) rfl rfl) ?_
          obtain ⟨n4, hn4, en4⟩ := rngN (x := σ.1 10 (10 * ((8 * cs) + q4_5))) (h := 7) (ty_fp (by omega) (hT 10 _))
          refine z_top (y := nI n4) en4 ?_
          refine lv_iload_n hx hb (dkP dF_28 DX12_isPut (i := 26) rfl rfl) rfl (lv_at hl 4 rfl) ?_
          refine lv_icmp_ne (tgt := 47) hx hb (dkS dF_160 DX12_isPut (i := 27) rfl rfl rfl) (by decide) (fun c5 => ?_) (fun c5 => ?_)
          · skip
            refine lv_iconst (v := 0) hx hb (dkP dF_3 DX12_isPut (i := 30) rfl rfl) (by decide) ?_
            refine lv_istore_n (lv' := [(3, .int 0), (4, .int (nI q4_5)), (0, .ref (ad 0)), (1, .int (nI cs)), (2, .int f)]) hx hb (dkP dF_62 DX12_isPut (i := 31) rfl rfl) rfl hl (by decide) rfl (fun ls hl => ?_)
            refine lv_iinc (v := nI (q4_5 + 1)) (lv' := [(4, .int (nI (q4_5 + 1))), (3, .int 0), (0, .ref (ad 0)), (1, .int (nI cs)), (2, .int f)]) hx hb (dkI DX12_isPut (i := 32) rfl rfl rfl rfl) hl (k := 1) rfl (nI_1 _) (by decide) rfl (fun ls hl => ?_)
            refine lv_goto (tgt := 5) hx hb (dkS dF_167 DX12_isPut (i := 33) rfl rfl rfl) (by decide) ?_
            exact ih1 (q4_5 + 1) 0 _ _ _ (by omega) (by (try simp only [lg_cmp_lt, lg_cmp_le, lg_cmp_gt, lg_cmp_ge, lg_cmp_eq] at c2); (try simp (disch := omega) only [ta_lt, ta_le, ta_eq, tb_lt, tb_le, tb_eq, tw, tnI, tsub1, tsv, tn32 1 (by decide), tnj 1 (by decide), tl32 0 (by decide), tl64 0 (by decide), tl32 1 (by decide), tl64 1 (by decide), tl32 2 (by decide), tl64 2 (by decide), tl32 8 (by decide), tl64 8 (by decide), tl32 10 (by decide), tl64 10 (by decide)] at c2); (try simp only [lg_cmp_lt, lg_cmp_le, lg_cmp_gt, lg_cmp_ge, lg_cmp_eq] at c3); (try simp (disch := omega) only [ta_lt, ta_le, ta_eq, tb_lt, tb_le, tb_eq, tw, tnI, tsub1, tsv, tn32 1 (by decide), tnj 1 (by decide), tl32 0 (by decide), tl64 0 (by decide), tl32 1 (by decide), tl64 1 (by decide), tl32 2 (by decide), tl64 2 (by decide), tl32 8 (by decide), tl64 8 (by decide), tl32 10 (by decide), tl64 10 (by decide)] at c3); (try simp only [lg_cmp_lt, lg_cmp_le, lg_cmp_gt, lg_cmp_ge, lg_cmp_eq] at c5); (try simp (disch := omega) only [ta_lt, ta_le, ta_eq, tb_lt, tb_le, tb_eq, tw, tnI, tsub1, tsv, tn32 1 (by decide), tnj 1 (by decide), tl32 0 (by decide), tl64 0 (by decide), tl32 1 (by decide), tl64 1 (by decide), tl32 2 (by decide), tl64 2 (by decide), tl32 8 (by decide), tl64 8 (by decide), tl32 10 (by decide), tl64 10 (by decide)] at c5); (try simp (disch := omega) only [ta_lt, ta_le, ta_eq, tb_lt, tb_le, tb_eq, tw, tnI, tsub1, tsv, tn32 1 (by decide), tnj 1 (by decide), tl32 0 (by decide), tl64 0 (by decide), tl32 1 (by decide), tl64 1 (by decide), tl32 2 (by decide), tl64 2 (by decide), tl32 8 (by decide), tl64 8 (by decide), tl32 10 (by decide), tl64 10 (by decide)]); omega) (Or.inr ⟨rfl, fun j hj => by rcases hq with h | h; (· exact absurd (h.symm.trans (by first | exact c3 | exact Decidable.not_not.mp c3)) (by decide)); (· by_cases ej : j = q4_5; (· subst ej; rw [en4]; exact c5); (· exact h.2 j (by omega)))⟩) hw (lv_sub hl [0, 1, 2, 3, 4] rfl)
          · skip
            refine lv_iconst (v := 1) hx hb (dkP dF_4 DX12_isPut (i := 28) rfl rfl) (by decide) ?_
            refine lv_goto (tgt := 48) hx hb (dkS dF_167 DX12_isPut (i := 29) rfl rfl rfl) (by decide) ?_
            refine lv_istore_n (lv' := [(3, .int 1), (4, .int (nI q4_5)), (0, .ref (ad 0)), (1, .int (nI cs)), (2, .int f)]) hx hb (dkP dF_62 DX12_isPut (i := 31) rfl rfl) rfl hl (by decide) rfl (fun ls hl => ?_)
            refine lv_iinc (v := nI (q4_5 + 1)) (lv' := [(4, .int (nI (q4_5 + 1))), (3, .int 1), (0, .ref (ad 0)), (1, .int (nI cs)), (2, .int f)]) hx hb (dkI DX12_isPut (i := 32) rfl rfl rfl rfl) hl (k := 1) rfl (nI_1 _) (by decide) rfl (fun ls hl => ?_)
            refine lv_goto (tgt := 5) hx hb (dkS dF_167 DX12_isPut (i := 33) rfl rfl rfl) (by decide) ?_
            exact ih1 (q4_5 + 1) 1 _ _ _ (by omega) (by (try simp only [lg_cmp_lt, lg_cmp_le, lg_cmp_gt, lg_cmp_ge, lg_cmp_eq] at c2); (try simp (disch := omega) only [ta_lt, ta_le, ta_eq, tb_lt, tb_le, tb_eq, tw, tnI, tsub1, tsv, tn32 1 (by decide), tnj 1 (by decide), tl32 0 (by decide), tl64 0 (by decide), tl32 1 (by decide), tl64 1 (by decide), tl32 2 (by decide), tl64 2 (by decide), tl32 8 (by decide), tl64 8 (by decide), tl32 10 (by decide), tl64 10 (by decide)] at c2); (try simp only [lg_cmp_lt, lg_cmp_le, lg_cmp_gt, lg_cmp_ge, lg_cmp_eq] at c3); (try simp (disch := omega) only [ta_lt, ta_le, ta_eq, tb_lt, tb_le, tb_eq, tw, tnI, tsub1, tsv, tn32 1 (by decide), tnj 1 (by decide), tl32 0 (by decide), tl64 0 (by decide), tl32 1 (by decide), tl64 1 (by decide), tl32 2 (by decide), tl64 2 (by decide), tl32 8 (by decide), tl64 8 (by decide), tl32 10 (by decide), tl64 10 (by decide)] at c3); (try simp only [lg_cmp_lt, lg_cmp_le, lg_cmp_gt, lg_cmp_ge, lg_cmp_eq] at c5); (try simp (disch := omega) only [ta_lt, ta_le, ta_eq, tb_lt, tb_le, tb_eq, tw, tnI, tsub1, tsv, tn32 1 (by decide), tnj 1 (by decide), tl32 0 (by decide), tl64 0 (by decide), tl32 1 (by decide), tl64 1 (by decide), tl32 2 (by decide), tl64 2 (by decide), tl32 8 (by decide), tl64 8 (by decide), tl32 10 (by decide), tl64 10 (by decide)] at c5); (try simp (disch := omega) only [ta_lt, ta_le, ta_eq, tb_lt, tb_le, tb_eq, tw, tnI, tsub1, tsv, tn32 1 (by decide), tnj 1 (by decide), tl32 0 (by decide), tl64 0 (by decide), tl32 1 (by decide), tl64 1 (by decide), tl32 2 (by decide), tl64 2 (by decide), tl32 8 (by decide), tl64 8 (by decide), tl32 10 (by decide), tl64 10 (by decide)]); omega) (Or.inl rfl) hw (lv_sub hl [0, 1, 2, 3, 4] rfl)
  exact lp1 _ 0 0 _ _ _ (Nat.lt_succ_self _) (by (try simp (disch := omega) only [ta_lt, ta_le, ta_eq, tb_lt, tb_le, tb_eq, tw, tnI, tsub1, tsv, tn32 1 (by decide), tnj 1 (by decide), tl32 0 (by decide), tl64 0 (by decide), tl32 1 (by decide), tl64 1 (by decide), tl32 2 (by decide), tl64 2 (by decide), tl32 8 (by decide), tl64 8 (by decide), tl32 10 (by decide), tl64 10 (by decide)]); omega) (Or.inr ⟨rfl, fun j hj => absurd hj (Nat.not_lt_zero j)⟩) hw (lv_sub hl [0, 1, 2, 3, 4] rfl)
set_option maxRecDepth 100000 in
set_option maxHeartbeats 8000000 in
theorem c_X12_readPut (l : Launch) (G : va_G) (kc : KC) (ad : Nat → Nat) (σ : Sg) (cs : Nat) {n : Nat} (hcs : cs ≤ 11) (hPD : PD σ cs n) (hT : TM σ) : MV l G kc yX12_readPut cX12_readPut 4 5 115 [.ref (ad 0), .int (nI cs)] shM ad σ (fun σ1 => (¬ σ1.1 0 12 = 0 ∨ PD σ1 cs (n + 1)) ∧ TM σ1 ∧ fr true [6, 8, 10] [8, 9, 10, 11, 12, 13] σ σ1) := by
  intro sz
  refine z_body (y := yX12_readPut) (n := 4) (av := [.ref (ad 0), .int (nI cs)]) (Qc := fun A => va_Qv (fun σ1 => (¬ σ1.1 0 12 = 0 ∨ PD σ1 cs (n + 1)) ∧ TM σ1 ∧ fr true [6, 8, 10] [8, 9, 10, 11, 12, 13] σ σ1) (PoC G kc shM ad A) A) (plainFor_of_name (by decide)) (Nat.le_of_ble_eq_true rfl) (fun pr e s m below meth c A C0 hr hlk hnm hw hRo ls hl => ?_) sz
  have hx := C0.1
  have hb := C0.2.1
  have hown := C0.2.2.2.1
  have hts := C0.2.2.2.2.1
  have hl : lv_has ls 4 [(0, .ref (ad 0)), (1, .int (nI cs))] := hl
  have hn8 := hPD.1
  refine lv_aload_n hx hb (dkP dF_42 DX12_readPut (i := 0) rfl rfl) rfl (lv_at hl 0 rfl) ?_
  refine zk_I hw (zr_V (As := []) (rest := []) C0 (c_X12_fieldHere l G kc ad σ hT _) cv_X12_fieldHere lk_X12_226 (zp_V C0 hRo hw 0 rfl rfl rfl) rfl hl.1 rfl ⟨by decide, by decide⟩ (Nat.le_of_ble_eq_true rfl) (dk2 dF_182 DX12_readPut (i := 1) rfl rfl rfl) ⟨Nat.le_refl _, Nat.le_refl _⟩) (fun r1 s1 H locs hp hw => ?_)
  obtain ⟨f1_0, hs1⟩ := hp
  (rw [hs1] at hw)
  refine lv_istore_n (lv' := [(2, .int r1), (0, .ref (ad 0)), (1, .int (nI cs))]) hx hb (dkP dF_61 DX12_readPut (i := 2) rfl rfl) rfl hl (by decide) rfl (fun ls hl => ?_)
  refine lv_iload_n hx hb (dkP dF_28 DX12_readPut (i := 3) rfl rfl) rfl (lv_at hl 0 rfl) ?_
  refine lv_iconst (v := (-1)) hx hb (dkP dF_2 DX12_readPut (i := 4) rfl rfl) (by decide) ?_
  refine lv_icmp_ne (tgt := 18) hx hb (dkS dF_160 DX12_readPut (i := 5) rfl rfl rfl) (by decide) (fun c2 => ?_) (fun c2 => ?_)
  · (try simp (disch := omega) only [ta_lt, ta_le, ta_eq, tnI, tn32 1 (by decide)] at c2)
    refine lv_aload_n hx hb (dkP dF_42 DX12_readPut (i := 10) rfl rfl) rfl (lv_at hl 1 rfl) ?_
    refine lv_iload_n hx hb (dkP dF_27 DX12_readPut (i := 11) rfl rfl) rfl (lv_at hl 2 rfl) ?_
    refine lv_iload_n hx hb (dkP dF_28 DX12_readPut (i := 12) rfl rfl) rfl (lv_at hl 0 rfl) ?_
    refine zk_I hw (zr_V (As := [.int (nI cs), .int r1]) (rest := []) C0 (c_X12_isPut l G kc ad σ cs r1 hcs hPD.1 hPD.2.1 hT _) cv_X12_isPut lk_X12_287 (zp_V C0 hRo hw 0 rfl rfl rfl) rfl hl.1 rfl ⟨by decide, by decide⟩ (Nat.le_of_ble_eq_true rfl) (dk2 dF_182 DX12_readPut (i := 13) rfl rfl rfl) ⟨Nat.le_refl _, Nat.le_refl _⟩) (fun r3 s3 H locs hp hw => ?_)
    obtain ⟨f3_0, hs3⟩ := hp
    (rw [hs3] at hw)
    rcases f3_0 with ⟨rfl, hc3⟩ | ⟨rfl, hc3⟩
    · skip
      refine lv_if_eq (tgt := 32) hx hb (dkS dF_153 DX12_readPut (i := 14) rfl rfl rfl) (by decide) (fun h => absurd h (by decide)) (fun _ => ?_)
      refine lv_aload_n hx hb (dkP dF_42 DX12_readPut (i := 15) rfl rfl) rfl (lv_at hl 1 rfl) ?_
      refine lv_iconst (v := 2) hx hb (dkP dF_5 DX12_readPut (i := 16) rfl rfl) (by decide) ?_
      refine zk_V hw (zr_V (As := [.int 2]) (rest := []) C0 (c_X12_wrong l G kc ad σ 2 (by decide) hT _) cv_X12_wrong lk_X12_214 (zp_V C0 hRo hw 0 rfl rfl rfl) rfl hl.1 rfl ⟨by decide, by decide⟩ (Nat.le_of_ble_eq_true rfl) (dk2 dF_182 DX12_readPut (i := 17) rfl rfl rfl) ⟨Nat.le_refl _, Nat.le_refl _⟩) (fun s4 H locs hp hw => ?_)
      obtain ⟨f4_0, hT4, hG4⟩ := hp
      have hF4 : fr true [6, 8, 10] [8, 9, 10, 11, 12, 13] σ s4 := fr.t fr.refl hG4 (by decide) (by decide) (by decide)
      refine lv_aload_n hx hb (dkP dF_42 DX12_readPut (i := 18) rfl rfl) rfl (lv_at hl 1 rfl) ?_
      refine zk_I hw (zr_V (As := []) (rest := []) C0 (c_X12_good l G kc ad s4  _) cv_X12_good lk_X12_190 (zp_V C0 hRo hw 0 rfl rfl rfl) rfl hl.1 rfl ⟨by decide, by decide⟩ (Nat.le_of_ble_eq_true rfl) (dk2 dF_182 DX12_readPut (i := 19) rfl rfl rfl) ⟨Nat.le_refl _, Nat.le_refl _⟩) (fun r5 s5 H locs hp hw => ?_)
      obtain ⟨hq5, hs5⟩ := hp
      (rw [hs5] at hw; clear hs5)
      rcases hq5 with ⟨rfl, hc5⟩ | ⟨rfl, hc5⟩
      · exact absurd hc5 f4_0
      · skip
        refine lv_if_ne (tgt := 40) hx hb (dkS dF_154 DX12_readPut (i := 20) rfl rfl rfl) (by decide) (fun h => absurd h (by decide)) (fun _ => ?_)
        exact z_vret C0 hr hlk hw (⟨(Or.inl hc5), hT4, hF4⟩) (dkP dF_177 DX12_readPut (i := 21) rfl rfl)
    · skip
      refine lv_if_eq (tgt := 32) hx hb (dkS dF_153 DX12_readPut (i := 14) rfl rfl rfl) (by decide) (fun _ => ?_) (fun h => absurd h (by decide))
      refine lv_aload_n hx hb (dkP dF_42 DX12_readPut (i := 18) rfl rfl) rfl (lv_at hl 1 rfl) ?_
      refine zk_I hw (zr_V (As := []) (rest := []) C0 (c_X12_good l G kc ad σ  _) cv_X12_good lk_X12_190 (zp_V C0 hRo hw 0 rfl rfl rfl) rfl hl.1 rfl ⟨by decide, by decide⟩ (Nat.le_of_ble_eq_true rfl) (dk2 dF_182 DX12_readPut (i := 19) rfl rfl rfl) ⟨Nat.le_refl _, Nat.le_refl _⟩) (fun r6 s6 H locs hp hw => ?_)
      obtain ⟨hq6, hs6⟩ := hp
      (rw [hs6] at hw; clear hs6)
      rcases hq6 with ⟨rfl, hc6⟩ | ⟨rfl, hc6⟩
      · skip
        refine lv_if_ne (tgt := 40) hx hb (dkS dF_154 DX12_readPut (i := 20) rfl rfl rfl) (by decide) (fun _ => ?_) (fun h => absurd h (by decide))
        obtain ⟨n7, hn7, en7⟩ := rngN (x := r1) (h := 7) (show 0 ≤ _ ∧ _ ≤ 7 from by (try simp only [lg_cmp_lt, lg_cmp_le, lg_cmp_gt, lg_cmp_ge, lg_cmp_eq] at f1_0); (try simp (disch := omega) only [ta_lt, ta_le, ta_eq, tb_lt, tb_le, tb_eq, tw, tnI, tsub1, tsv, tn32 1 (by decide), tnj 1 (by decide), tl32 0 (by decide), tl64 0 (by decide), tl32 2 (by decide), tl64 2 (by decide)] at f1_0); (try simp only [lg_cmp_lt, lg_cmp_le, lg_cmp_gt, lg_cmp_ge, lg_cmp_eq] at c2); (try simp (disch := omega) only [ta_lt, ta_le, ta_eq, tb_lt, tb_le, tb_eq, tw, tnI, tsub1, tsv, tn32 1 (by decide), tnj 1 (by decide), tl32 0 (by decide), tl64 0 (by decide), tl32 2 (by decide), tl64 2 (by decide)] at c2); (try simp only [lg_cmp_lt, lg_cmp_le, lg_cmp_gt, lg_cmp_ge, lg_cmp_eq] at f3_0); (try simp (disch := omega) only [ta_lt, ta_le, ta_eq, tb_lt, tb_le, tb_eq, tw, tnI, tsub1, tsv, tn32 1 (by decide), tnj 1 (by decide), tl32 0 (by decide), tl64 0 (by decide), tl32 2 (by decide), tl64 2 (by decide)] at f3_0); (try simp only [lg_cmp_lt, lg_cmp_le, lg_cmp_gt, lg_cmp_ge, lg_cmp_eq] at hc3); (try simp (disch := omega) only [ta_lt, ta_le, ta_eq, tb_lt, tb_le, tb_eq, tw, tnI, tsub1, tsv, tn32 1 (by decide), tnj 1 (by decide), tl32 0 (by decide), tl64 0 (by decide), tl32 2 (by decide), tl64 2 (by decide)] at hc3); (try simp only [lg_cmp_lt, lg_cmp_le, lg_cmp_gt, lg_cmp_ge, lg_cmp_eq] at hc6); (try simp (disch := omega) only [ta_lt, ta_le, ta_eq, tb_lt, tb_le, tb_eq, tw, tnI, tsub1, tsv, tn32 1 (by decide), tnj 1 (by decide), tl32 0 (by decide), tl64 0 (by decide), tl32 2 (by decide), tl64 2 (by decide)] at hc6); (try simp (disch := omega) only [ta_lt, ta_le, ta_eq, tb_lt, tb_le, tb_eq, tw, tnI, tsub1, tsv, tn32 1 (by decide), tnj 1 (by decide), tl32 0 (by decide), tl64 0 (by decide), tl32 2 (by decide), tl64 2 (by decide)]); omega)
        subst en7
        have hn7 : n < 8 := PD_lt hT hcs hPD (by omega) hc3
        refine lv_bipush (v := 10) hx hb (dks dF_16 DX12_readPut (i := 22) rfl rfl rfl) (by decide) ?_
        refine lv_bipush (v := 8) hx hb (dks dF_16 DX12_readPut (i := 23) rfl rfl rfl) (by decide) ?_
        refine lv_iload_n hx hb (dkP dF_27 DX12_readPut (i := 24) rfl rfl) rfl (lv_at hl 2 rfl) ?_
        refine lv_imul hx hb (dkP dF_104 DX12_readPut (i := 25) rfl rfl) ?_
        refine z_top (y := nI (8 * cs)) (by simp only [fa_lit, nI_add, pk_mul]) ?_
        refine lv_aload_n hx hb (dkP dF_42 DX12_readPut (i := 26) rfl rfl) rfl (lv_at hl 1 rfl) ?_
        refine z_gr C0 hw 0 16 8 rfl fl_X12_48 (dk2 dF_180 DX12_readPut (i := 27) rfl rfl rfl) ?_
        refine lv_iconst (v := 2) hx hb (dkP dF_5 DX12_readPut (i := 28) rfl rfl) (by decide) ?_
        refine lv_iload_n hx hb (dkP dF_27 DX12_readPut (i := 29) rfl rfl) rfl (lv_at hl 2 rfl) ?_
        refine lv_imul hx hb (dkP dF_104 DX12_readPut (i := 30) rfl rfl) ?_
        refine z_top (y := nI (2 * cs)) (by simp only [fa_lit, nI_add, pk_mul]) ?_
        refine lv_iconst (v := 1) hx hb (dkP dF_4 DX12_readPut (i := 31) rfl rfl) (by decide) ?_
        refine lv_iadd hx hb (dkP dF_96 DX12_readPut (i := 32) rfl rfl) ?_
        refine z_top (y := nI ((2 * cs) + 1)) (by simp only [fa_lit, nI_add, pk_mul]) ?_
        refine z_ialdN (n := 24) C0 hw 8 ((2 * cs) + 1) rfl (by omega) (by decide) (dkP dF_46 DX12_readPut (i := 33) rfl rfl) ?_
        refine z_top (y := (nI n)) hPD.2.1 ?_
        refine lv_iadd hx hb (dkP dF_96 DX12_readPut (i := 34) rfl rfl) ?_
        refine z_top (y := nI ((8 * cs) + n)) (by simp only [fa_lit, nI_add, pk_mul]) ?_
        refine lv_imul hx hb (dkP dF_104 DX12_readPut (i := 35) rfl rfl) ?_
        refine z_top (y := nI (10 * ((8 * cs) + n))) (by simp only [fa_lit, nI_add, pk_mul]) ?_
        refine lv_istore_n (lv' := [(3, .int (nI (10 * ((8 * cs) + n)))), (2, .int (nI n7)), (0, .ref (ad 0)), (1, .int (nI cs))]) hx hb (dkP dF_62 DX12_readPut (i := 36) rfl rfl) rfl hl (by decide) rfl (fun ls hl => ?_)
        refine lv_aload_n hx hb (dkP dF_42 DX12_readPut (i := 37) rfl rfl) rfl (lv_at hl 2 rfl) ?_
        refine zk_V hw (zr_V (As := []) (rest := []) C0 (c_X12_step l G kc ad σ hT _) cv_X12_step lk_X12_208 (zp_V C0 hRo hw 0 rfl rfl rfl) rfl hl.1 rfl ⟨by decide, by decide⟩ (Nat.le_of_ble_eq_true rfl) (dk2 dF_182 DX12_readPut (i := 38) rfl rfl rfl) ⟨Nat.le_refl _, Nat.le_refl _⟩) (fun s8 H locs hp hw => ?_)
        obtain ⟨hT8, hG8⟩ := hp
        have hF8 : fr true [6, 8, 10] [8, 9, 10, 11, 12, 13] σ s8 := fr.t fr.refl hG8 (by decide) (by decide) (by decide)
        refine lv_aload_n hx hb (dkP dF_42 DX12_readPut (i := 39) rfl rfl) rfl (lv_at hl 2 rfl) ?_
        refine lv_bipush (v := 61) hx hb (dks dF_16 DX12_readPut (i := 40) rfl rfl rfl) (by decide) ?_
        refine zk_V hw (zr_V (As := [.int 61]) (rest := []) C0 (c_X12_needsSign l G kc ad s8 61 hT8 _) cv_X12_needsSign lk_X12_244 (zp_V C0 hRo hw 0 rfl rfl rfl) rfl hl.1 rfl ⟨by decide, by decide⟩ (Nat.le_of_ble_eq_true rfl) (dk2 dF_182 DX12_readPut (i := 41) rfl rfl rfl) ⟨Nat.le_refl _, Nat.le_refl _⟩) (fun s9 H locs hp hw => ?_)
        obtain ⟨hT9, hG9⟩ := hp
        have hF9 : fr true [6, 8, 10] [8, 9, 10, 11, 12, 13] σ s9 := fr.t hF8 hG9 (by decide) (by decide) (by decide)
        refine lv_aload_n hx hb (dkP dF_42 DX12_readPut (i := 42) rfl rfl) rfl (lv_at hl 2 rfl) ?_
        refine zk_V hw (zr_V (As := []) (rest := []) C0 (c_X12_readSum l G kc ad s9 hT9 _) cv_X12_readSum lk_X12_252 (zp_V C0 hRo hw 0 rfl rfl rfl) rfl hl.1 rfl ⟨by decide, by decide⟩ (Nat.le_of_ble_eq_true rfl) (dk2 dF_182 DX12_readPut (i := 43) rfl rfl rfl) ⟨Nat.le_refl _, Nat.le_refl _⟩) (fun s10 H locs hp hw => ?_)
        obtain ⟨hT10, hG10⟩ := hp
        have hF10 : fr true [6, 8, 10] [8, 9, 10, 11, 12, 13] σ s10 := fr.t hF9 hG10 (by decide) (by decide) (by decide)
        refine lv_aload_n hx hb (dkP dF_42 DX12_readPut (i := 44) rfl rfl) rfl (lv_at hl 2 rfl) ?_
        refine lv_bipush (v := 59) hx hb (dks dF_16 DX12_readPut (i := 45) rfl rfl rfl) (by decide) ?_
        refine zk_V hw (zr_V (As := [.int 59]) (rest := []) C0 (c_X12_needsSign l G kc ad s10 59 hT10 _) cv_X12_needsSign lk_X12_244 (zp_V C0 hRo hw 0 rfl rfl rfl) rfl hl.1 rfl ⟨by decide, by decide⟩ (Nat.le_of_ble_eq_true rfl) (dk2 dF_182 DX12_readPut (i := 46) rfl rfl rfl) ⟨Nat.le_refl _, Nat.le_refl _⟩) (fun s11 H locs hp hw => ?_)
        obtain ⟨hT11, hG11⟩ := hp
        have hF11 : fr true [6, 8, 10] [8, 9, 10, 11, 12, 13] σ s11 := fr.t hF10 hG11 (by decide) (by decide) (by decide)
        refine lv_aload_n hx hb (dkP dF_42 DX12_readPut (i := 47) rfl rfl) rfl (lv_at hl 2 rfl) ?_
        refine zk_I hw (zr_V (As := []) (rest := []) C0 (c_X12_good l G kc ad s11  _) cv_X12_good lk_X12_190 (zp_V C0 hRo hw 0 rfl rfl rfl) rfl hl.1 rfl ⟨by decide, by decide⟩ (Nat.le_of_ble_eq_true rfl) (dk2 dF_182 DX12_readPut (i := 48) rfl rfl rfl) ⟨Nat.le_refl _, Nat.le_refl _⟩) (fun r12 s12 H locs hp hw => ?_)
        obtain ⟨hq12, hs12⟩ := hp
        (rw [hs12] at hw; clear hs12)
        rcases hq12 with ⟨rfl, hc12⟩ | ⟨rfl, hc12⟩
        · skip
          refine lv_if_ne (tgt := 87) hx hb (dkS dF_154 DX12_readPut (i := 49) rfl rfl rfl) (by decide) (fun _ => ?_) (fun h => absurd h (by decide))
          refine lv_aload_n hx hb (dkP dF_42 DX12_readPut (i := 51) rfl rfl) rfl (lv_at hl 2 rfl) ?_
          refine z_gr C0 hw 0 18 10 rfl fl_X12_54 (dk2 dF_180 DX12_readPut (i := 52) rfl rfl rfl) ?_
          refine lv_iload_n hx hb (dkP dF_29 DX12_readPut (i := 53) rfl rfl) rfl (lv_at hl 0 rfl) ?_
          refine lv_iload_n hx hb (dkP dF_28 DX12_readPut (i := 54) rfl rfl) rfl (lv_at hl 1 rfl) ?_
          refine z_iastN (n := 960) C0 hw 10 (10 * ((8 * cs) + n)) rfl (by omega) (by decide) (dkP dF_79 DX12_readPut (i := 55) rfl rfl) (fun H locs hw => ?_)
          have hT13 : TM (sI s11 10 (10 * ((8 * cs) + n)) (nI n7)) := TM.w hT11 (by simp only [tyM, wTy]; (repeat' split) <;> first | trivial | omega | (simp (disch := omega) only [tnI, tn32 1 (by decide), tl32 0 (by decide), tl32 1 (by decide), tl32 2 (by decide), tl32 8 (by decide), tl32 10 (by decide), tl32 59 (by decide), tl32 61 (by decide)]; omega))
          have hF13 : fr true [6, 8, 10] [8, 9, 10, 11, 12, 13] σ (sI s11 10 (10 * ((8 * cs) + n)) (nI n7)) := fr.w hF11 (Or.inl ⟨by decide, by decide⟩) (fun _ h => absurd h (by decide))
          refine lv_aload_n hx hb (dkP dF_42 DX12_readPut (i := 56) rfl rfl) rfl (lv_at hl 2 rfl) ?_
          refine z_gr C0 hw 0 14 6 rfl fl_X12_42 (dk2 dF_180 DX12_readPut (i := 57) rfl rfl rfl) ?_
          refine lv_iconst (v := 0) hx hb (dkP dF_3 DX12_readPut (i := 58) rfl rfl) (by decide) ?_
          refine lv_aload_n hx hb (dkP dF_42 DX12_readPut (i := 59) rfl rfl) rfl (lv_at hl 2 rfl) ?_
          refine z_gr C0 hw 0 18 10 rfl fl_X12_54 (dk2 dF_180 DX12_readPut (i := 60) rfl rfl rfl) ?_
          refine lv_iload_n hx hb (dkP dF_29 DX12_readPut (i := 61) rfl rfl) rfl (lv_at hl 0 rfl) ?_
          refine lv_iconst (v := 1) hx hb (dkP dF_4 DX12_readPut (i := 62) rfl rfl) (by decide) ?_
          refine lv_iadd hx hb (dkP dF_96 DX12_readPut (i := 63) rfl rfl) ?_
          refine z_top (y := nI ((10 * ((8 * cs) + n)) + 1)) (by simp only [fa_lit, nI_add, pk_mul]) ?_
          refine lv_bipush (v := 9) hx hb (dks dF_16 DX12_readPut (i := 64) rfl rfl rfl) (by decide) ?_
          refine zk_V hw (zr_S (As := [.ref (ad 6), .int 0, .ref (ad 10), .int (nI ((10 * ((8 * cs) + n)) + 1)), .int 9]) (rest := []) C0 (c_X12_lays_6_10 l G kc ad (sI s11 10 (10 * ((8 * cs) + n)) (nI n7)) 0 ((10 * ((8 * cs) + n)) + 1) 9 (by omega) (by omega) (fun i hi v _ => ty_fpn (by omega)) hT13 _) cs_X12_lays lk_X12_255 (zp_S C0 hRo hw) rfl hl.1 rfl ⟨by decide, by decide⟩ (Nat.le_of_ble_eq_true rfl) (dk2 dF_184 DX12_readPut (i := 65) rfl rfl rfl) ⟨Nat.le_refl _, Nat.le_refl _⟩) (fun s14 H locs hp hw => ?_)
          obtain ⟨f14_0, hT14, hG14⟩ := hp
          have hF14 : fr true [6, 8, 10] [8, 9, 10, 11, 12, 13] σ s14 := fr.t hF13 hG14 (by decide) (by decide) (by decide)
          refine lv_aload_n hx hb (dkP dF_42 DX12_readPut (i := 66) rfl rfl) rfl (lv_at hl 2 rfl) ?_
          refine z_gr C0 hw 0 16 8 rfl fl_X12_48 (dk2 dF_180 DX12_readPut (i := 67) rfl rfl rfl) ?_
          refine lv_iconst (v := 2) hx hb (dkP dF_5 DX12_readPut (i := 68) rfl rfl) (by decide) ?_
          refine lv_iload_n hx hb (dkP dF_27 DX12_readPut (i := 69) rfl rfl) rfl (lv_at hl 3 rfl) ?_
          refine lv_imul hx hb (dkP dF_104 DX12_readPut (i := 70) rfl rfl) ?_
          refine z_top (y := nI (2 * cs)) (by simp only [fa_lit, nI_add, pk_mul]) ?_
          refine lv_iconst (v := 1) hx hb (dkP dF_4 DX12_readPut (i := 71) rfl rfl) (by decide) ?_
          refine lv_iadd hx hb (dkP dF_96 DX12_readPut (i := 72) rfl rfl) ?_
          refine z_top (y := nI ((2 * cs) + 1)) (by simp only [fa_lit, nI_add, pk_mul]) ?_
          refine lv_dup2_11 hx hb (dkP dF_92 DX12_readPut (i := 73) rfl rfl) rfl rfl ?_
          refine z_ialdN (n := 24) C0 hw 8 ((2 * cs) + 1) rfl (by omega) (by decide) (dkP dF_46 DX12_readPut (i := 74) rfl rfl) ?_
          refine z_top (y := (nI n)) ((congrFun (hG14.1 8 (by decide) (by decide)) _).trans ((rd_n (by omega)).trans ((congrFun (hG11.1 8 (by decide) (by decide)) _).trans ((congrFun (hG10.1 8 (by decide) (by decide)) _).trans ((congrFun (hG9.1 8 (by decide) (by decide)) _).trans ((congrFun (hG8.1 8 (by decide) (by decide)) _).trans hPD.2.1)))))) ?_
          refine lv_iconst (v := 1) hx hb (dkP dF_4 DX12_readPut (i := 75) rfl rfl) (by decide) ?_
          refine lv_iadd hx hb (dkP dF_96 DX12_readPut (i := 76) rfl rfl) ?_
          refine z_top (y := nI (n + 1)) (by simp only [fa_lit, nI_add, pk_mul]) ?_
          refine z_iastN (n := 24) C0 hw 8 ((2 * cs) + 1) rfl (by omega) (by decide) (dkP dF_79 DX12_readPut (i := 77) rfl rfl) (fun H locs hw => ?_)
          have hT15 : TM (sI s14 8 ((2 * cs) + 1) (nI (n + 1))) := TM.w hT14 (by simp only [tyM, wTy]; (repeat' split) <;> first | trivial | omega | (simp (disch := omega) only [tnI, tn32 1 (by decide), tl32 0 (by decide), tl32 1 (by decide), tl32 2 (by decide), tl32 8 (by decide), tl32 9 (by decide), tl32 10 (by decide), tl32 59 (by decide), tl32 61 (by decide)]; omega))
          have hF15 : fr true [6, 8, 10] [8, 9, 10, 11, 12, 13] σ (sI s14 8 ((2 * cs) + 1) (nI (n + 1))) := fr.w hF14 (Or.inl ⟨by decide, by decide⟩) (fun _ h => absurd h (by decide))
          exact z_vret C0 hr hlk hw (⟨(Or.inr (PD_add hPD hn7 (fun x hx => (rd_n (by omega)).trans ((f14_0 _ (Or.inl (by omega))).trans ((rd_n (by omega)).trans ((congrFun (hG11.1 10 (by decide) (by decide)) _).trans ((congrFun (hG10.1 10 (by decide) (by decide)) _).trans ((congrFun (hG9.1 10 (by decide) (by decide)) _).trans ((congrFun (hG8.1 10 (by decide) (by decide)) _).trans rfl))))))) ((rd_n (by omega)).trans ((f14_0 _ (Or.inl (by omega))).trans rd_s)) rd_s hc3)), hT15, hF15⟩) (dkP dF_177 DX12_readPut (i := 78) rfl rfl)
        · skip
          refine lv_if_ne (tgt := 87) hx hb (dkS dF_154 DX12_readPut (i := 49) rfl rfl rfl) (by decide) (fun h => absurd h (by decide)) (fun _ => ?_)
          exact z_vret C0 hr hlk hw (⟨(Or.inl hc12), hT11, hF11⟩) (dkP dF_177 DX12_readPut (i := 50) rfl rfl)
      · skip
        refine lv_if_ne (tgt := 40) hx hb (dkS dF_154 DX12_readPut (i := 20) rfl rfl rfl) (by decide) (fun h => absurd h (by decide)) (fun _ => ?_)
        exact z_vret C0 hr hlk hw (⟨(Or.inl hc6), hT, fr.refl⟩) (dkP dF_177 DX12_readPut (i := 21) rfl rfl)
  · (try simp (disch := omega) only [ta_lt, ta_le, ta_eq, tnI, tn32 1 (by decide)] at c2)
    refine lv_aload_n hx hb (dkP dF_42 DX12_readPut (i := 6) rfl rfl) rfl (lv_at hl 1 rfl) ?_
    refine lv_iconst (v := 1) hx hb (dkP dF_4 DX12_readPut (i := 7) rfl rfl) (by decide) ?_
    refine zk_V hw (zr_V (As := [.int 1]) (rest := []) C0 (c_X12_wrong l G kc ad σ 1 (by decide) hT _) cv_X12_wrong lk_X12_214 (zp_V C0 hRo hw 0 rfl rfl rfl) rfl hl.1 rfl ⟨by decide, by decide⟩ (Nat.le_of_ble_eq_true rfl) (dk2 dF_182 DX12_readPut (i := 8) rfl rfl rfl) ⟨Nat.le_refl _, Nat.le_refl _⟩) (fun s16 H locs hp hw => ?_)
    obtain ⟨f16_0, hT16, hG16⟩ := hp
    have hF16 : fr true [6, 8, 10] [8, 9, 10, 11, 12, 13] σ s16 := fr.t fr.refl hG16 (by decide) (by decide) (by decide)
    refine lv_goto (tgt := 32) hx hb (dkS dF_167 DX12_readPut (i := 9) rfl rfl rfl) (by decide) ?_
    refine lv_aload_n hx hb (dkP dF_42 DX12_readPut (i := 18) rfl rfl) rfl (lv_at hl 1 rfl) ?_
    refine zk_I hw (zr_V (As := []) (rest := []) C0 (c_X12_good l G kc ad s16  _) cv_X12_good lk_X12_190 (zp_V C0 hRo hw 0 rfl rfl rfl) rfl hl.1 rfl ⟨by decide, by decide⟩ (Nat.le_of_ble_eq_true rfl) (dk2 dF_182 DX12_readPut (i := 19) rfl rfl rfl) ⟨Nat.le_refl _, Nat.le_refl _⟩) (fun r17 s17 H locs hp hw => ?_)
    obtain ⟨hq17, hs17⟩ := hp
    (rw [hs17] at hw; clear hs17)
    rcases hq17 with ⟨rfl, hc17⟩ | ⟨rfl, hc17⟩
    · exact absurd hc17 f16_0
    · skip
      refine lv_if_ne (tgt := 40) hx hb (dkS dF_154 DX12_readPut (i := 20) rfl rfl rfl) (by decide) (fun h => absurd h (by decide)) (fun _ => ?_)
      exact z_vret C0 hr hlk hw (⟨(Or.inl hc17), hT16, hF16⟩) (dkP dF_177 DX12_readPut (i := 21) rfl rfl)
set_option maxRecDepth 100000 in
set_option maxHeartbeats 8000000 in
theorem c_X12_readCase (l : Launch) (G : va_G) (kc : KC) (ad : Nat → Nat) (σ : Sg) (cs : Nat) (hcs : cs ≤ 12) (hT : TM σ) : MV l G kc yX12_readCase cX12_readCase 3 6 139 [.ref (ad 0), .int (nI cs)] shM ad σ (fun σ1 => (cs = 12 → ¬ σ1.1 0 12 = 0) ∧ TM σ1 ∧ fr true [6, 8, 9, 10] [8, 9, 10, 11, 12, 13, 19] σ σ1) := by
  intro sz
  refine z_body (y := yX12_readCase) (n := 3) (av := [.ref (ad 0), .int (nI cs)]) (Qc := fun A => va_Qv (fun σ1 => (cs = 12 → ¬ σ1.1 0 12 = 0) ∧ TM σ1 ∧ fr true [6, 8, 9, 10] [8, 9, 10, 11, 12, 13, 19] σ σ1) (PoC G kc shM ad A) A) (plainFor_of_name (by decide)) (Nat.le_of_ble_eq_true rfl) (fun pr e s m below meth c A C0 hr hlk hnm hw hRo ls hl => ?_) sz
  have hx := C0.1
  have hb := C0.2.1
  have hown := C0.2.2.2.1
  have hts := C0.2.2.2.2.1
  have hl : lv_has ls 3 [(0, .ref (ad 0)), (1, .int (nI cs))] := hl
  have jp1 : ∀  (σb : Sg) (H : Heap) (locs : List Loc) (ls : Array Slot), (cs ≤ 11) → (TM σb) → (fr true [6, 8, 9, 10] [8, 9, 10, 11, 12, 13, 19] σ σb) → St G kc A s.heap shM ad σb H locs → lv_has ls 3 [(0, .ref (ad 0)), (1, .int (nI cs))] → W pr l e { frames := 6, cells := 0, slots := 0, locals := 139 } s m ([.ref (ad 0), .int (nI cs)] : List Value).toArray below meth c H locs 0 0 (MQ below (va_Qv (fun σ1 => (cs = 12 → ¬ σ1.1 0 12 = 0) ∧ TM σ1 ∧ fr true [6, 8, 9, 10] [8, 9, 10, 11, 12, 13, 19] σ σ1) (PoC G kc shM ad A) A) ([.ref (ad 0), .int (nI cs)] : List Value).toArray s 0 0 A) (F0 m 54 ls []) := by
    intro  σb H locs ls h11 hT_σb hF_σb hw hl
    have jp2 : ∀  (σc : Sg) (H : Heap) (locs : List Loc) (ls : Array Slot), (σc.1 8 (2 * cs + 1) = nI 0) → (TM σc) → (fr true [6, 8, 9, 10] [8, 9, 10, 11, 12, 13, 19] σ σc) → St G kc A s.heap shM ad σc H locs → lv_has ls 3 [(0, .ref (ad 0)), (1, .int (nI cs))] → W pr l e { frames := 6, cells := 0, slots := 0, locals := 139 } s m ([.ref (ad 0), .int (nI cs)] : List Value).toArray below meth c H locs 0 0 (MQ below (va_Qv (fun σ1 => (cs = 12 → ¬ σ1.1 0 12 = 0) ∧ TM σ1 ∧ fr true [6, 8, 9, 10] [8, 9, 10, 11, 12, 13, 19] σ σ1) (PoC G kc shM ad A) A) ([.ref (ad 0), .int (nI cs)] : List Value).toArray s 0 0 A) (F0 m 125 ls []) := by
      intro  σc H locs ls hd0 hT_σc hF_σc hw hl
      refine lv_aload_n hx hb (dkP dF_42 DX12_readCase (i := 66) rfl rfl) rfl (lv_at hl 0 rfl) ?_
      refine lv_bipush (v := 123) hx hb (dks dF_16 DX12_readCase (i := 67) rfl rfl rfl) (by decide) ?_
      refine zk_V hw (zr_V (As := [.int 123]) (rest := []) C0 (c_X12_needsSign l G kc ad σc 123 hT_σc _) cv_X12_needsSign lk_X12_244 (zp_V C0 hRo hw 0 rfl rfl rfl) rfl hl.1 rfl ⟨by decide, by decide⟩ (Nat.le_of_ble_eq_true rfl) (dk2 dF_182 DX12_readCase (i := 68) rfl rfl rfl) ⟨Nat.le_refl _, Nat.le_refl _⟩) (fun s3 H locs hp hw => ?_)
      obtain ⟨hT3, hG3⟩ := hp
      have hF3 : fr true [6, 8, 9, 10] [8, 9, 10, 11, 12, 13, 19] σ s3 := fr.t hF_σc hG3 (by decide) (by decide) (by decide)
      have lp5 : ∀ (nq : Nat) (n : Nat) (τ4 : Sg) (H : Heap) (locs : List Loc) (ls : Array Slot), 9 - n < nq → (¬ τ4.1 0 12 = 0 ∨ PD τ4 cs n) → (TM τ4) → (fr true [6, 8, 9, 10] [8, 9, 10, 11, 12, 13, 19] σ τ4) → St G kc A s.heap shM ad τ4 H locs → lv_has ls 3 [(0, .ref (ad 0)), (1, .int (nI cs))] → W pr l e { frames := 6, cells := 0, slots := 0, locals := 139 } s m ([.ref (ad 0), .int (nI cs)] : List Value).toArray below meth c H locs 0 0 (MQ below (va_Qv (fun σ1 => (cs = 12 → ¬ σ1.1 0 12 = 0) ∧ TM σ1 ∧ fr true [6, 8, 9, 10] [8, 9, 10, 11, 12, 13, 19] σ σ1) (PoC G kc shM ad A) A) ([.ref (ad 0), .int (nI cs)] : List Value).toArray s 0 0 A) (F0 m 131 ls []) := by
        intro nq
        induction nq with
        | zero => intro n τ4 H locs ls hmu; exact absurd hmu (Nat.not_lt_zero _)
        | succ nq ih5 =>
          intro n τ4 H locs ls hmu hnp hT_τ4 hF_τ4 hw hl
          refine lv_aload_n hx hb (dkP dF_42 DX12_readCase (i := 69) rfl rfl) rfl (lv_at hl 0 rfl) ?_
          refine zk_I hw (zr_V (As := []) (rest := []) C0 (c_X12_good l G kc ad τ4  _) cv_X12_good lk_X12_190 (zp_V C0 hRo hw 0 rfl rfl rfl) rfl hl.1 rfl ⟨by decide, by decide⟩ (Nat.le_of_ble_eq_true rfl) (dk2 dF_182 DX12_readCase (i := 70) rfl rfl rfl) ⟨Nat.le_refl _, Nat.le_refl _⟩) (fun r6 s6 H locs hp hw => ?_)
          obtain ⟨hq6, hs6⟩ := hp
          (rw [hs6] at hw; clear hs6)
          rcases hq6 with ⟨rfl, hc6⟩ | ⟨rfl, hc6⟩
          · skip
            refine lv_if_eq (tgt := 155) hx hb (dkS dF_153 DX12_readCase (i := 71) rfl rfl rfl) (by decide) (fun h => absurd h (by decide)) (fun _ => ?_)
            refine lv_aload_n hx hb (dkP dF_42 DX12_readCase (i := 72) rfl rfl) rfl (lv_at hl 0 rfl) ?_
            refine lv_bipush (v := 125) hx hb (dks dF_16 DX12_readCase (i := 73) rfl rfl rfl) (by decide) ?_
            refine zk_I hw (zr_V (As := [.int 125]) (rest := []) C0 (c_X12_isSign l G kc ad τ4 125 hT_τ4 _) cv_X12_isSign lk_X12_218 (zp_V C0 hRo hw 0 rfl rfl rfl) rfl hl.1 rfl ⟨by decide, by decide⟩ (Nat.le_of_ble_eq_true rfl) (dk2 dF_182 DX12_readCase (i := 74) rfl rfl rfl) ⟨Nat.le_refl _, Nat.le_refl _⟩) (fun r7 s7 H locs hp hw => ?_)
            obtain ⟨f7_0, hs7⟩ := hp
            (rw [hs7] at hw)
            rcases f7_0 with ⟨rfl, hc7⟩ | ⟨rfl, hc7⟩
            · skip
              refine lv_if_ne (tgt := 155) hx hb (dkS dF_154 DX12_readCase (i := 75) rfl rfl rfl) (by decide) (fun _ => ?_) (fun h => absurd h (by decide))
              refine lv_aload_n hx hb (dkP dF_42 DX12_readCase (i := 80) rfl rfl) rfl (lv_at hl 0 rfl) ?_
              refine lv_bipush (v := 125) hx hb (dks dF_16 DX12_readCase (i := 81) rfl rfl rfl) (by decide) ?_
              refine zk_V hw (zr_V (As := [.int 125]) (rest := []) C0 (c_X12_needsSign l G kc ad τ4 125 hT_τ4 _) cv_X12_needsSign lk_X12_244 (zp_V C0 hRo hw 0 rfl rfl rfl) rfl hl.1 rfl ⟨by decide, by decide⟩ (Nat.le_of_ble_eq_true rfl) (dk2 dF_182 DX12_readCase (i := 82) rfl rfl rfl) ⟨Nat.le_refl _, Nat.le_refl _⟩) (fun s8 H locs hp hw => ?_)
              obtain ⟨hT8, hG8⟩ := hp
              have hF8 : fr true [6, 8, 9, 10] [8, 9, 10, 11, 12, 13, 19] σ s8 := fr.t hF_τ4 hG8 (by decide) (by decide) (by decide)
              exact z_vret C0 hr hlk hw (⟨(fun h => absurd h (by omega)), hT8, hF8⟩) (dkP dF_177 DX12_readCase (i := 83) rfl rfl)
            · skip
              refine lv_if_ne (tgt := 155) hx hb (dkS dF_154 DX12_readCase (i := 75) rfl rfl rfl) (by decide) (fun h => absurd h (by decide)) (fun _ => ?_)
              have hPD : PD τ4 cs n := by rcases hnp with h | h; (· exact absurd hc6 h); (· exact h)
              have hn8 := hPD.1
              refine lv_aload_n hx hb (dkP dF_42 DX12_readCase (i := 76) rfl rfl) rfl (lv_at hl 0 rfl) ?_
              refine lv_iload_n hx hb (dkP dF_27 DX12_readCase (i := 77) rfl rfl) rfl (lv_at hl 1 rfl) ?_
              refine zk_V hw (zr_V (As := [.int (nI cs)]) (rest := []) C0 (c_X12_readPut l G kc ad τ4 cs h11 hPD hT_τ4 _) cv_X12_readPut lk_X12_304 (zp_V C0 hRo hw 0 rfl rfl rfl) rfl hl.1 rfl ⟨by decide, by decide⟩ (Nat.le_of_ble_eq_true rfl) (dk2 dF_182 DX12_readCase (i := 78) rfl rfl rfl) ⟨Nat.le_refl _, Nat.le_refl _⟩) (fun s9 H locs hp hw => ?_)
              obtain ⟨f9_0, hT9, hG9⟩ := hp
              have hF9 : fr true [6, 8, 9, 10] [8, 9, 10, 11, 12, 13, 19] σ s9 := fr.t hF_τ4 hG9 (by decide) (by decide) (by decide)
              refine lv_goto (tgt := 131) hx hb (dkS dF_167 DX12_readCase (i := 79) rfl rfl rfl) (by decide) ?_
              exact ih5 (n + 1) s9 _ _ _ (by omega) f9_0 hT9 hF9 hw (lv_sub hl [0, 1] rfl)
          · skip
            refine lv_if_eq (tgt := 155) hx hb (dkS dF_153 DX12_readCase (i := 71) rfl rfl rfl) (by decide) (fun _ => ?_) (fun h => absurd h (by decide))
            refine lv_aload_n hx hb (dkP dF_42 DX12_readCase (i := 80) rfl rfl) rfl (lv_at hl 0 rfl) ?_
            refine lv_bipush (v := 125) hx hb (dks dF_16 DX12_readCase (i := 81) rfl rfl rfl) (by decide) ?_
            refine zk_V hw (zr_V (As := [.int 125]) (rest := []) C0 (c_X12_needsSign l G kc ad τ4 125 hT_τ4 _) cv_X12_needsSign lk_X12_244 (zp_V C0 hRo hw 0 rfl rfl rfl) rfl hl.1 rfl ⟨by decide, by decide⟩ (Nat.le_of_ble_eq_true rfl) (dk2 dF_182 DX12_readCase (i := 82) rfl rfl rfl) ⟨Nat.le_refl _, Nat.le_refl _⟩) (fun s10 H locs hp hw => ?_)
            obtain ⟨hT10, hG10⟩ := hp
            have hF10 : fr true [6, 8, 9, 10] [8, 9, 10, 11, 12, 13, 19] σ s10 := fr.t hF_τ4 hG10 (by decide) (by decide) (by decide)
            exact z_vret C0 hr hlk hw (⟨(fun h => absurd h (by omega)), hT10, hF10⟩) (dkP dF_177 DX12_readCase (i := 83) rfl rfl)
      exact lp5 _ 0 s3 _ _ _ (Nat.lt_succ_self _) (Or.inr (PD_0 (((congrFun (hG3.1 8 (by decide) (by decide)) _).trans hd0)))) hT3 hF3 hw (lv_sub hl [0, 1] rfl)
    refine lv_aload_n hx hb (dkP dF_42 DX12_readCase (i := 25) rfl rfl) rfl (lv_at hl 0 rfl) ?_
    refine z_gr C0 hw 0 16 8 rfl fl_X12_48 (dk2 dF_180 DX12_readCase (i := 26) rfl rfl rfl) ?_
    refine lv_iconst (v := 2) hx hb (dkP dF_5 DX12_readCase (i := 27) rfl rfl) (by decide) ?_
    refine lv_iload_n hx hb (dkP dF_27 DX12_readCase (i := 28) rfl rfl) rfl (lv_at hl 1 rfl) ?_
    refine lv_imul hx hb (dkP dF_104 DX12_readCase (i := 29) rfl rfl) ?_
    refine z_top (y := nI (2 * cs)) (by simp only [fa_lit, nI_add, pk_mul]) ?_
    refine lv_iconst (v := 0) hx hb (dkP dF_3 DX12_readCase (i := 30) rfl rfl) (by decide) ?_
    refine z_iastN (n := 24) C0 hw 8 (2 * cs) rfl (by omega) (by decide) (dkP dF_79 DX12_readCase (i := 31) rfl rfl) (fun H locs hw => ?_)
    have hT11 : TM (sI σb 8 (2 * cs) 0) := TM.w hT_σb (by simp only [tyM, wTy]; (repeat' split) <;> first | trivial | omega | (simp (disch := omega) only [tnI, tn32 1 (by decide), tl32 0 (by decide), tl32 2 (by decide), tl32 123 (by decide), tl32 125 (by decide)]; omega))
    have hF11 : fr true [6, 8, 9, 10] [8, 9, 10, 11, 12, 13, 19] σ (sI σb 8 (2 * cs) 0) := fr.w hF_σb (Or.inl ⟨by decide, by decide⟩) (fun _ h => absurd h (by decide))
    refine lv_aload_n hx hb (dkP dF_42 DX12_readCase (i := 32) rfl rfl) rfl (lv_at hl 0 rfl) ?_
    refine z_gr C0 hw 0 16 8 rfl fl_X12_48 (dk2 dF_180 DX12_readCase (i := 33) rfl rfl rfl) ?_
    refine lv_iconst (v := 2) hx hb (dkP dF_5 DX12_readCase (i := 34) rfl rfl) (by decide) ?_
    refine lv_iload_n hx hb (dkP dF_27 DX12_readCase (i := 35) rfl rfl) rfl (lv_at hl 1 rfl) ?_
    refine lv_imul hx hb (dkP dF_104 DX12_readCase (i := 36) rfl rfl) ?_
    refine z_top (y := nI (2 * cs)) (by simp only [fa_lit, nI_add, pk_mul]) ?_
    refine lv_iconst (v := 1) hx hb (dkP dF_4 DX12_readCase (i := 37) rfl rfl) (by decide) ?_
    refine lv_iadd hx hb (dkP dF_96 DX12_readCase (i := 38) rfl rfl) ?_
    refine z_top (y := nI ((2 * cs) + 1)) (by simp only [fa_lit, nI_add, pk_mul]) ?_
    refine lv_iconst (v := 0) hx hb (dkP dF_3 DX12_readCase (i := 39) rfl rfl) (by decide) ?_
    refine z_iastN (n := 24) C0 hw 8 ((2 * cs) + 1) rfl (by omega) (by decide) (dkP dF_79 DX12_readCase (i := 40) rfl rfl) (fun H locs hw => ?_)
    have hT12 : TM (sI (sI σb 8 (2 * cs) 0) 8 ((2 * cs) + 1) 0) := TM.w hT11 (by simp only [tyM, wTy]; (repeat' split) <;> first | trivial | omega | (simp (disch := omega) only [tnI, tn32 1 (by decide), tl32 0 (by decide), tl32 1 (by decide), tl32 2 (by decide), tl32 123 (by decide), tl32 125 (by decide)]; omega))
    have hF12 : fr true [6, 8, 9, 10] [8, 9, 10, 11, 12, 13, 19] σ (sI (sI σb 8 (2 * cs) 0) 8 ((2 * cs) + 1) 0) := fr.w hF11 (Or.inl ⟨by decide, by decide⟩) (fun _ h => absurd h (by decide))
    refine lv_aload_n hx hb (dkP dF_42 DX12_readCase (i := 41) rfl rfl) rfl (lv_at hl 0 rfl) ?_
    refine lv_aload_n hx hb (dkP dF_42 DX12_readCase (i := 42) rfl rfl) rfl (lv_at hl 0 rfl) ?_
    refine va_ldcSW hx hb hown (C0.2.2.2.2.2.2.2.2.2 5 (293, "else") rfl) (dk2 dF_19 DX12_readCase (i := 43) rfl rfl rfl) ?_
    refine zk_I hw (zr_V (As := [.ref (kc.2.1 5)]) (rest := [.ref (ad 0)]) C0 (c_X12_takes l G kc ad (sI (sI σb 8 (2 * cs) 0) 8 ((2 * cs) + 1) 0) 5 (by first | omega | assumption | decide | rfl) hT12 _) cv_X12_takes lk_X12_211 (zp_V C0 hRo hw 0 rfl rfl rfl) rfl hl.1 rfl ⟨by decide, by decide⟩ (Nat.le_of_ble_eq_true rfl) (dk2 dF_182 DX12_readCase (i := 44) rfl rfl rfl) ⟨Nat.le_refl _, Nat.le_refl _⟩) (fun r13 s13 H locs hp hw => ?_)
    obtain ⟨f13_0, hT13, hG13⟩ := hp
    have hF13 : fr true [6, 8, 9, 10] [8, 9, 10, 11, 12, 13, 19] σ s13 := fr.t hF12 hG13 (by decide) (by decide) (by decide)
    rcases f13_0 with ⟨rfl, hc13⟩ | ⟨rfl, hc13⟩
    · skip
      refine z_pz C0 hw 0 19 (by decide) rfl fp_X12_295 (dk2 dF_181 DX12_readCase (i := 45) rfl rfl rfl) (fun H locs hw => ?_)
      have hT14 : TM (sI s13 0 19 1) := TM.w hT13 (show 0 ≤ _ ∧ _ ≤ 1 from by (try simp only [lg_cmp_lt, lg_cmp_le, lg_cmp_gt, lg_cmp_ge, lg_cmp_eq] at f13_0); (try simp (disch := omega) only [ta_lt, ta_le, ta_eq, tb_lt, tb_le, tb_eq, tw, tnI, tsub1, tsv, tn32 1 (by decide), tnj 1 (by decide), tl32 0 (by decide), tl64 0 (by decide), tl32 1 (by decide), tl64 1 (by decide), tl32 2 (by decide), tl64 2 (by decide), tl32 123 (by decide), tl64 123 (by decide), tl32 125 (by decide), tl64 125 (by decide)] at f13_0); (try simp only [lg_cmp_lt, lg_cmp_le, lg_cmp_gt, lg_cmp_ge, lg_cmp_eq] at hc13); (try simp (disch := omega) only [ta_lt, ta_le, ta_eq, tb_lt, tb_le, tb_eq, tw, tnI, tsub1, tsv, tn32 1 (by decide), tnj 1 (by decide), tl32 0 (by decide), tl64 0 (by decide), tl32 1 (by decide), tl64 1 (by decide), tl32 2 (by decide), tl64 2 (by decide), tl32 123 (by decide), tl64 123 (by decide), tl32 125 (by decide), tl64 125 (by decide)] at hc13); (try simp (disch := omega) only [ta_lt, ta_le, ta_eq, tb_lt, tb_le, tb_eq, tw, tnI, tsub1, tsv, tn32 1 (by decide), tnj 1 (by decide), tl32 0 (by decide), tl64 0 (by decide), tl32 1 (by decide), tl64 1 (by decide), tl32 2 (by decide), tl64 2 (by decide), tl32 123 (by decide), tl64 123 (by decide), tl32 125 (by decide), tl64 125 (by decide)]); omega)
      have hF14 : fr true [6, 8, 9, 10] [8, 9, 10, 11, 12, 13, 19] σ (sI s13 0 19 1) := fr.w hF13 (Or.inr ⟨rfl, by decide⟩) (fun _ h => absurd h (by decide))
      refine lv_aload_n hx hb (dkP dF_42 DX12_readCase (i := 46) rfl rfl) rfl (lv_at hl 0 rfl) ?_
      refine z_gi C0 hw 0 19 rfl fl_X12_295 (dk2 dF_180 DX12_readCase (i := 47) rfl rfl rfl) ?_
      refine z_top (y := 1) rd_s ?_
      refine lv_if_ne (tgt := 125) hx hb (dkS dF_154 DX12_readCase (i := 48) rfl rfl rfl) (by decide) (fun _ => ?_) (fun h => absurd h (by decide))
      exact jp2 (sI s13 0 19 1) _ _ _ ((rd_n (by omega)).trans ((congrFun (hG13.1 8 (by decide) (by decide)) _).trans rd_s)) hT14 hF14 hw (lv_sub hl [0, 1] rfl)
    · skip
      refine z_pz C0 hw 0 19 (by decide) rfl fp_X12_295 (dk2 dF_181 DX12_readCase (i := 45) rfl rfl rfl) (fun H locs hw => ?_)
      have hT15 : TM (sI s13 0 19 0) := TM.w hT13 (show 0 ≤ _ ∧ _ ≤ 1 from by (try simp only [lg_cmp_lt, lg_cmp_le, lg_cmp_gt, lg_cmp_ge, lg_cmp_eq] at f13_0); (try simp (disch := omega) only [ta_lt, ta_le, ta_eq, tb_lt, tb_le, tb_eq, tw, tnI, tsub1, tsv, tn32 1 (by decide), tnj 1 (by decide), tl32 0 (by decide), tl64 0 (by decide), tl32 1 (by decide), tl64 1 (by decide), tl32 2 (by decide), tl64 2 (by decide), tl32 123 (by decide), tl64 123 (by decide), tl32 125 (by decide), tl64 125 (by decide)] at f13_0); (try simp only [lg_cmp_lt, lg_cmp_le, lg_cmp_gt, lg_cmp_ge, lg_cmp_eq] at hc13); (try simp (disch := omega) only [ta_lt, ta_le, ta_eq, tb_lt, tb_le, tb_eq, tw, tnI, tsub1, tsv, tn32 1 (by decide), tnj 1 (by decide), tl32 0 (by decide), tl64 0 (by decide), tl32 1 (by decide), tl64 1 (by decide), tl32 2 (by decide), tl64 2 (by decide), tl32 123 (by decide), tl64 123 (by decide), tl32 125 (by decide), tl64 125 (by decide)] at hc13); (try simp (disch := omega) only [ta_lt, ta_le, ta_eq, tb_lt, tb_le, tb_eq, tw, tnI, tsub1, tsv, tn32 1 (by decide), tnj 1 (by decide), tl32 0 (by decide), tl64 0 (by decide), tl32 1 (by decide), tl64 1 (by decide), tl32 2 (by decide), tl64 2 (by decide), tl32 123 (by decide), tl64 123 (by decide), tl32 125 (by decide), tl64 125 (by decide)]); omega)
      have hF15 : fr true [6, 8, 9, 10] [8, 9, 10, 11, 12, 13, 19] σ (sI s13 0 19 0) := fr.w hF13 (Or.inr ⟨rfl, by decide⟩) (fun _ h => absurd h (by decide))
      refine lv_aload_n hx hb (dkP dF_42 DX12_readCase (i := 46) rfl rfl) rfl (lv_at hl 0 rfl) ?_
      refine z_gi C0 hw 0 19 rfl fl_X12_295 (dk2 dF_180 DX12_readCase (i := 47) rfl rfl rfl) ?_
      refine z_top (y := 0) rd_s ?_
      refine lv_if_ne (tgt := 125) hx hb (dkS dF_154 DX12_readCase (i := 48) rfl rfl rfl) (by decide) (fun h => absurd h (by decide)) (fun _ => ?_)
      refine lv_aload_n hx hb (dkP dF_42 DX12_readCase (i := 49) rfl rfl) rfl (lv_at hl 0 rfl) ?_
      refine zk_V hw (zr_V (As := []) (rest := []) C0 (c_X12_step l G kc ad (sI s13 0 19 0) hT15 _) cv_X12_step lk_X12_208 (zp_V C0 hRo hw 0 rfl rfl rfl) rfl hl.1 rfl ⟨by decide, by decide⟩ (Nat.le_of_ble_eq_true rfl) (dk2 dF_182 DX12_readCase (i := 50) rfl rfl rfl) ⟨Nat.le_refl _, Nat.le_refl _⟩) (fun s16 H locs hp hw => ?_)
      obtain ⟨hT16, hG16⟩ := hp
      have hF16 : fr true [6, 8, 9, 10] [8, 9, 10, 11, 12, 13, 19] σ s16 := fr.t hF15 hG16 (by decide) (by decide) (by decide)
      refine lv_iconst (v := 1) hx hb (dkP dF_4 DX12_readCase (i := 51) rfl rfl) (by decide) ?_
      refine lv_istore_n (lv' := [(2, .int 1), (0, .ref (ad 0)), (1, .int (nI cs))]) hx hb (dkP dF_61 DX12_readCase (i := 52) rfl rfl) rfl hl (by decide) rfl (fun ls hl => ?_)
      have lp18 : ∀ (nq : Nat) (q2_98 : Int32) (t : Nat) (τ17 : Sg) (H : Heap) (locs : List Loc) (ls : Array Slot), 6 - t < nq → (¬ τ17.1 0 12 = 0 ∨ (t ≤ 4 ∧ τ17.1 8 (2 * cs) = nI t)) → (τ17.1 8 (2 * cs + 1) = nI 0) → (TM τ17) → (fr true [6, 8, 9, 10] [8, 9, 10, 11, 12, 13, 19] σ τ17) → St G kc A s.heap shM ad τ17 H locs → lv_has ls 3 [(2, .int q2_98), (0, .ref (ad 0)), (1, .int (nI cs))] → W pr l e { frames := 6, cells := 0, slots := 0, locals := 139 } s m ([.ref (ad 0), .int (nI cs)] : List Value).toArray below meth c H locs 0 0 (MQ below (va_Qv (fun σ1 => (cs = 12 → ¬ σ1.1 0 12 = 0) ∧ TM σ1 ∧ fr true [6, 8, 9, 10] [8, 9, 10, 11, 12, 13, 19] σ σ1) (PoC G kc shM ad A) A) ([.ref (ad 0), .int (nI cs)] : List Value).toArray s 0 0 A) (F0 m 98 ls []) := by
        intro nq
        induction nq with
        | zero => intro q2_98 t τ17 H locs ls hmu; exact absurd hmu (Nat.not_lt_zero _)
        | succ nq ih18 =>
          intro q2_98 t τ17 H locs ls hmu hnt hz0 hT_τ17 hF_τ17 hw hl
          refine lv_iload_n hx hb (dkP dF_28 DX12_readCase (i := 53) rfl rfl) rfl (lv_at hl 0 rfl) ?_
          refine lv_if_eq (tgt := 125) hx hb (dkS dF_153 DX12_readCase (i := 54) rfl rfl rfl) (by decide) (fun c19 => ?_) (fun c19 => ?_)
          · (try simp (disch := omega) only [ta_lt, ta_le, ta_eq, tnI, tl32 0 (by decide)] at c19)
            exact jp2 τ17 _ _ _ hz0 hT_τ17 hF_τ17 hw (lv_sub hl [1, 2] rfl)
          · (try simp (disch := omega) only [ta_lt, ta_le, ta_eq, tnI, tl32 0 (by decide)] at c19)
            refine lv_aload_n hx hb (dkP dF_42 DX12_readCase (i := 55) rfl rfl) rfl (lv_at hl 1 rfl) ?_
            refine zk_I hw (zr_V (As := []) (rest := []) C0 (c_X12_good l G kc ad τ17  _) cv_X12_good lk_X12_190 (zp_V C0 hRo hw 0 rfl rfl rfl) rfl hl.1 rfl ⟨by decide, by decide⟩ (Nat.le_of_ble_eq_true rfl) (dk2 dF_182 DX12_readCase (i := 56) rfl rfl rfl) ⟨Nat.le_refl _, Nat.le_refl _⟩) (fun r20 s20 H locs hp hw => ?_)
            obtain ⟨hq20, hs20⟩ := hp
            (rw [hs20] at hw; clear hs20)
            rcases hq20 with ⟨rfl, hc20⟩ | ⟨rfl, hc20⟩
            · skip
              refine lv_if_eq (tgt := 125) hx hb (dkS dF_153 DX12_readCase (i := 57) rfl rfl rfl) (by decide) (fun h => absurd h (by decide)) (fun _ => ?_)
              obtain ⟨ht4, hte⟩ : t ≤ 4 ∧ τ17.1 8 (2 * cs) = nI t := by rcases hnt with h | h; (· exact absurd hc20 h); (· exact h)
              refine lv_aload_n hx hb (dkP dF_42 DX12_readCase (i := 58) rfl rfl) rfl (lv_at hl 1 rfl) ?_
              refine lv_iload_n hx hb (dkP dF_27 DX12_readCase (i := 59) rfl rfl) rfl (lv_at hl 2 rfl) ?_
              refine zk_V hw (zr_V (As := [.int (nI cs)]) (rest := []) C0 (c_X12_readTest l G kc ad τ17 cs h11 ht4 hte hT_τ17 _) cv_X12_readTest lk_X12_299 (zp_V C0 hRo hw 0 rfl rfl rfl) rfl hl.1 rfl ⟨by decide, by decide⟩ (Nat.le_of_ble_eq_true rfl) (dk2 dF_182 DX12_readCase (i := 60) rfl rfl rfl) ⟨Nat.le_refl _, Nat.le_refl _⟩) (fun s21 H locs hp hw => ?_)
              obtain ⟨f21_0, f21_1, hT21, hG21⟩ := hp
              have hF21 : fr true [6, 8, 9, 10] [8, 9, 10, 11, 12, 13, 19] σ s21 := fr.t hF_τ17 hG21 (by decide) (by decide) (by decide)
              refine lv_aload_n hx hb (dkP dF_42 DX12_readCase (i := 61) rfl rfl) rfl (lv_at hl 1 rfl) ?_
              refine va_ldcSW hx hb hown (C0.2.2.2.2.2.2.2.2.2 6 (302, "and") rfl) (dk2 dF_19 DX12_readCase (i := 62) rfl rfl rfl) ?_
              refine zk_I hw (zr_V (As := [.ref (kc.2.1 6)]) (rest := []) C0 (c_X12_takes l G kc ad s21 6 (by first | omega | assumption | decide | rfl) hT21 _) cv_X12_takes lk_X12_211 (zp_V C0 hRo hw 0 rfl rfl rfl) rfl hl.1 rfl ⟨by decide, by decide⟩ (Nat.le_of_ble_eq_true rfl) (dk2 dF_182 DX12_readCase (i := 63) rfl rfl rfl) ⟨Nat.le_refl _, Nat.le_refl _⟩) (fun r22 s22 H locs hp hw => ?_)
              obtain ⟨f22_0, hT22, hG22⟩ := hp
              have hF22 : fr true [6, 8, 9, 10] [8, 9, 10, 11, 12, 13, 19] σ s22 := fr.t hF21 hG22 (by decide) (by decide) (by decide)
              rcases f22_0 with ⟨rfl, hc22⟩ | ⟨rfl, hc22⟩
              · skip
                refine lv_istore_n (lv' := [(2, .int 1), (0, .ref (ad 0)), (1, .int (nI cs))]) hx hb (dkP dF_61 DX12_readCase (i := 64) rfl rfl) rfl hl (by decide) rfl (fun ls hl => ?_)
                refine lv_goto (tgt := 98) hx hb (dkS dF_167 DX12_readCase (i := 65) rfl rfl rfl) (by decide) ?_
                exact ih18 1 (t + 1) s22 _ _ _ (by omega) (by rcases f21_0 with h | h; (· exact Or.inl (fun z => h ((((hG22.2.1 12 (by decide)).trans rfl)).symm.trans z))); (· exact Or.inr ⟨by omega, (((congrFun (hG22.1 8 (by decide) (by decide)) _).trans rfl)).trans h.2⟩)) ((((congrFun (hG22.1 8 (by decide) (by decide)) _).trans rfl)).trans (f21_1.trans hz0)) hT22 hF22 hw (lv_sub hl [0, 1, 2] rfl)
              · skip
                refine lv_istore_n (lv' := [(2, .int 0), (0, .ref (ad 0)), (1, .int (nI cs))]) hx hb (dkP dF_61 DX12_readCase (i := 64) rfl rfl) rfl hl (by decide) rfl (fun ls hl => ?_)
                refine lv_goto (tgt := 98) hx hb (dkS dF_167 DX12_readCase (i := 65) rfl rfl rfl) (by decide) ?_
                exact ih18 0 (t + 1) s22 _ _ _ (by omega) (by rcases f21_0 with h | h; (· exact Or.inl (fun z => h ((((hG22.2.1 12 (by decide)).trans rfl)).symm.trans z))); (· exact Or.inr ⟨by omega, (((congrFun (hG22.1 8 (by decide) (by decide)) _).trans rfl)).trans h.2⟩)) ((((congrFun (hG22.1 8 (by decide) (by decide)) _).trans rfl)).trans (f21_1.trans hz0)) hT22 hF22 hw (lv_sub hl [0, 1, 2] rfl)
            · skip
              refine lv_if_eq (tgt := 125) hx hb (dkS dF_153 DX12_readCase (i := 57) rfl rfl rfl) (by decide) (fun _ => ?_) (fun h => absurd h (by decide))
              exact jp2 τ17 _ _ _ hz0 hT_τ17 hF_τ17 hw (lv_sub hl [1, 2] rfl)
      exact lp18 _ 1 0 s16 _ _ _ (Nat.lt_succ_self _) (Or.inr ⟨by omega, ((congrFun (hG16.1 8 (by decide) (by decide)) _).trans ((rd_n (by omega)).trans ((congrFun (hG13.1 8 (by decide) (by decide)) _).trans ((rd_n (by omega)).trans rd_s))))⟩) ((congrFun (hG16.1 8 (by decide) (by decide)) _).trans ((rd_n (by omega)).trans ((congrFun (hG13.1 8 (by decide) (by decide)) _).trans rd_s))) hT16 hF16 hw (lv_sub hl [0, 1, 2] rfl)
  refine lv_aload_n hx hb (dkP dF_42 DX12_readCase (i := 0) rfl rfl) rfl (lv_at hl 0 rfl) ?_
  refine va_ldcSW hx hb hown (C0.2.2.2.2.2.2.2.2.2 4 (291, "when") rfl) (dk2 dF_19 DX12_readCase (i := 1) rfl rfl rfl) ?_
  refine zk_I hw (zr_V (As := [.ref (kc.2.1 4)]) (rest := []) C0 (c_X12_is l G kc ad σ 4 (by first | omega | assumption | decide | rfl) hT _) cv_X12_is lk_X12_204 (zp_V C0 hRo hw 0 rfl rfl rfl) rfl hl.1 rfl ⟨by decide, by decide⟩ (Nat.le_of_ble_eq_true rfl) (dk2 dF_182 DX12_readCase (i := 2) rfl rfl rfl) ⟨Nat.le_refl _, Nat.le_refl _⟩) (fun r23 s23 H locs hp hw => ?_)
  obtain ⟨f23_0, hs23⟩ := hp
  (rw [hs23] at hw)
  rcases f23_0 with ⟨rfl, hc23⟩ | ⟨rfl, hc23⟩
  · skip
    refine lv_if_ne (tgt := 20) hx hb (dkS dF_154 DX12_readCase (i := 3) rfl rfl rfl) (by decide) (fun _ => ?_) (fun h => absurd h (by decide))
    refine lv_aload_n hx hb (dkP dF_42 DX12_readCase (i := 8) rfl rfl) rfl (lv_at hl 0 rfl) ?_
    refine z_gi C0 hw 0 19 rfl fl_X12_295 (dk2 dF_180 DX12_readCase (i := 9) rfl rfl rfl) ?_
    obtain ⟨n24, hn24, en24⟩ := rngN (x := σ.1 0 19) (h := 1) (show 0 ≤ _ ∧ _ ≤ 1 from hT 0 19)
    refine z_top (y := nI n24) en24 ?_
    refine lv_if_eq (tgt := 35) hx hb (dkS dF_153 DX12_readCase (i := 10) rfl rfl rfl) (by decide) (fun c25 => ?_) (fun c25 => ?_)
    · skip
      refine lv_iload_n hx hb (dkP dF_27 DX12_readCase (i := 15) rfl rfl) rfl (lv_at hl 1 rfl) ?_
      refine lv_bipush (v := 12) hx hb (dks dF_16 DX12_readCase (i := 16) rfl rfl rfl) (by decide) ?_
      refine lv_icmp_ne (tgt := 46) hx hb (dkS dF_160 DX12_readCase (i := 17) rfl rfl rfl) (by decide) (fun c26 => ?_) (fun c26 => ?_)
      · simp (disch := omega) only [ta_lt, ta_le, ta_eq, tnI, tl32 12 (by decide)] at c26
        refine lv_aload_n hx hb (dkP dF_42 DX12_readCase (i := 21) rfl rfl) rfl (lv_at hl 0 rfl) ?_
        refine zk_I hw (zr_V (As := []) (rest := []) C0 (c_X12_good l G kc ad σ  _) cv_X12_good lk_X12_190 (zp_V C0 hRo hw 0 rfl rfl rfl) rfl hl.1 rfl ⟨by decide, by decide⟩ (Nat.le_of_ble_eq_true rfl) (dk2 dF_182 DX12_readCase (i := 22) rfl rfl rfl) ⟨Nat.le_refl _, Nat.le_refl _⟩) (fun r27 s27 H locs hp hw => ?_)
        obtain ⟨hq27, hs27⟩ := hp
        (rw [hs27] at hw; clear hs27)
        rcases hq27 with ⟨rfl, hc27⟩ | ⟨rfl, hc27⟩
        · skip
          refine lv_if_ne (tgt := 54) hx hb (dkS dF_154 DX12_readCase (i := 23) rfl rfl rfl) (by decide) (fun _ => ?_) (fun h => absurd h (by decide))
          exact jp1 σ _ _ _ (by (try simp only [lg_cmp_lt, lg_cmp_le, lg_cmp_gt, lg_cmp_ge, lg_cmp_eq] at f23_0); (try simp (disch := omega) only [ta_lt, ta_le, ta_eq, tb_lt, tb_le, tb_eq, tw, tnI, tsub1, tsv, tn32 1 (by decide), tnj 1 (by decide), tl32 0 (by decide), tl64 0 (by decide), tl32 1 (by decide), tl64 1 (by decide), tl32 2 (by decide), tl64 2 (by decide), tl32 12 (by decide), tl64 12 (by decide), tl32 123 (by decide), tl64 123 (by decide), tl32 125 (by decide), tl64 125 (by decide)] at f23_0); (try simp only [lg_cmp_lt, lg_cmp_le, lg_cmp_gt, lg_cmp_ge, lg_cmp_eq] at hc23); (try simp (disch := omega) only [ta_lt, ta_le, ta_eq, tb_lt, tb_le, tb_eq, tw, tnI, tsub1, tsv, tn32 1 (by decide), tnj 1 (by decide), tl32 0 (by decide), tl64 0 (by decide), tl32 1 (by decide), tl64 1 (by decide), tl32 2 (by decide), tl64 2 (by decide), tl32 12 (by decide), tl64 12 (by decide), tl32 123 (by decide), tl64 123 (by decide), tl32 125 (by decide), tl64 125 (by decide)] at hc23); (try simp only [lg_cmp_lt, lg_cmp_le, lg_cmp_gt, lg_cmp_ge, lg_cmp_eq] at c25); (try simp (disch := omega) only [ta_lt, ta_le, ta_eq, tb_lt, tb_le, tb_eq, tw, tnI, tsub1, tsv, tn32 1 (by decide), tnj 1 (by decide), tl32 0 (by decide), tl64 0 (by decide), tl32 1 (by decide), tl64 1 (by decide), tl32 2 (by decide), tl64 2 (by decide), tl32 12 (by decide), tl64 12 (by decide), tl32 123 (by decide), tl64 123 (by decide), tl32 125 (by decide), tl64 125 (by decide)] at c25); (try simp only [lg_cmp_lt, lg_cmp_le, lg_cmp_gt, lg_cmp_ge, lg_cmp_eq] at c26); (try simp (disch := omega) only [ta_lt, ta_le, ta_eq, tb_lt, tb_le, tb_eq, tw, tnI, tsub1, tsv, tn32 1 (by decide), tnj 1 (by decide), tl32 0 (by decide), tl64 0 (by decide), tl32 1 (by decide), tl64 1 (by decide), tl32 2 (by decide), tl64 2 (by decide), tl32 12 (by decide), tl64 12 (by decide), tl32 123 (by decide), tl64 123 (by decide), tl32 125 (by decide), tl64 125 (by decide)] at c26); (try simp only [lg_cmp_lt, lg_cmp_le, lg_cmp_gt, lg_cmp_ge, lg_cmp_eq] at hc27); (try simp (disch := omega) only [ta_lt, ta_le, ta_eq, tb_lt, tb_le, tb_eq, tw, tnI, tsub1, tsv, tn32 1 (by decide), tnj 1 (by decide), tl32 0 (by decide), tl64 0 (by decide), tl32 1 (by decide), tl64 1 (by decide), tl32 2 (by decide), tl64 2 (by decide), tl32 12 (by decide), tl64 12 (by decide), tl32 123 (by decide), tl64 123 (by decide), tl32 125 (by decide), tl64 125 (by decide)] at hc27); (try simp (disch := omega) only [ta_lt, ta_le, ta_eq, tb_lt, tb_le, tb_eq, tw, tnI, tsub1, tsv, tn32 1 (by decide), tnj 1 (by decide), tl32 0 (by decide), tl64 0 (by decide), tl32 1 (by decide), tl64 1 (by decide), tl32 2 (by decide), tl64 2 (by decide), tl32 12 (by decide), tl64 12 (by decide), tl32 123 (by decide), tl64 123 (by decide), tl32 125 (by decide), tl64 125 (by decide)]); omega) hT fr.refl hw (lv_sub hl [0, 1] rfl)
        · skip
          refine lv_if_ne (tgt := 54) hx hb (dkS dF_154 DX12_readCase (i := 23) rfl rfl rfl) (by decide) (fun h => absurd h (by decide)) (fun _ => ?_)
          exact z_vret C0 hr hlk hw (⟨(fun _ => hc27), hT, fr.refl⟩) (dkP dF_177 DX12_readCase (i := 24) rfl rfl)
      · simp (disch := omega) only [ta_lt, ta_le, ta_eq, tnI, tl32 12 (by decide)] at c26
        refine lv_aload_n hx hb (dkP dF_42 DX12_readCase (i := 18) rfl rfl) rfl (lv_at hl 0 rfl) ?_
        refine lv_iconst (v := 3) hx hb (dkP dF_6 DX12_readCase (i := 19) rfl rfl) (by decide) ?_
        refine zk_V hw (zr_V (As := [.int 3]) (rest := []) C0 (c_X12_wrong l G kc ad σ 3 (by decide) hT _) cv_X12_wrong lk_X12_214 (zp_V C0 hRo hw 0 rfl rfl rfl) rfl hl.1 rfl ⟨by decide, by decide⟩ (Nat.le_of_ble_eq_true rfl) (dk2 dF_182 DX12_readCase (i := 20) rfl rfl rfl) ⟨Nat.le_refl _, Nat.le_refl _⟩) (fun s28 H locs hp hw => ?_)
        obtain ⟨f28_0, hT28, hG28⟩ := hp
        have hF28 : fr true [6, 8, 9, 10] [8, 9, 10, 11, 12, 13, 19] σ s28 := fr.t fr.refl hG28 (by decide) (by decide) (by decide)
        refine lv_aload_n hx hb (dkP dF_42 DX12_readCase (i := 21) rfl rfl) rfl (lv_at hl 0 rfl) ?_
        refine zk_I hw (zr_V (As := []) (rest := []) C0 (c_X12_good l G kc ad s28  _) cv_X12_good lk_X12_190 (zp_V C0 hRo hw 0 rfl rfl rfl) rfl hl.1 rfl ⟨by decide, by decide⟩ (Nat.le_of_ble_eq_true rfl) (dk2 dF_182 DX12_readCase (i := 22) rfl rfl rfl) ⟨Nat.le_refl _, Nat.le_refl _⟩) (fun r29 s29 H locs hp hw => ?_)
        obtain ⟨hq29, hs29⟩ := hp
        (rw [hs29] at hw; clear hs29)
        rcases hq29 with ⟨rfl, hc29⟩ | ⟨rfl, hc29⟩
        · exact absurd hc29 f28_0
        · skip
          refine lv_if_ne (tgt := 54) hx hb (dkS dF_154 DX12_readCase (i := 23) rfl rfl rfl) (by decide) (fun h => absurd h (by decide)) (fun _ => ?_)
          exact z_vret C0 hr hlk hw (⟨(fun _ => hc29), hT28, hF28⟩) (dkP dF_177 DX12_readCase (i := 24) rfl rfl)
    · skip
      refine lv_aload_n hx hb (dkP dF_42 DX12_readCase (i := 11) rfl rfl) rfl (lv_at hl 0 rfl) ?_
      refine lv_iconst (v := 1) hx hb (dkP dF_4 DX12_readCase (i := 12) rfl rfl) (by decide) ?_
      refine zk_V hw (zr_V (As := [.int 1]) (rest := []) C0 (c_X12_wrong l G kc ad σ 1 (by decide) hT _) cv_X12_wrong lk_X12_214 (zp_V C0 hRo hw 0 rfl rfl rfl) rfl hl.1 rfl ⟨by decide, by decide⟩ (Nat.le_of_ble_eq_true rfl) (dk2 dF_182 DX12_readCase (i := 13) rfl rfl rfl) ⟨Nat.le_refl _, Nat.le_refl _⟩) (fun s30 H locs hp hw => ?_)
      obtain ⟨f30_0, hT30, hG30⟩ := hp
      have hF30 : fr true [6, 8, 9, 10] [8, 9, 10, 11, 12, 13, 19] σ s30 := fr.t fr.refl hG30 (by decide) (by decide) (by decide)
      refine lv_goto (tgt := 46) hx hb (dkS dF_167 DX12_readCase (i := 14) rfl rfl rfl) (by decide) ?_
      refine lv_aload_n hx hb (dkP dF_42 DX12_readCase (i := 21) rfl rfl) rfl (lv_at hl 0 rfl) ?_
      refine zk_I hw (zr_V (As := []) (rest := []) C0 (c_X12_good l G kc ad s30  _) cv_X12_good lk_X12_190 (zp_V C0 hRo hw 0 rfl rfl rfl) rfl hl.1 rfl ⟨by decide, by decide⟩ (Nat.le_of_ble_eq_true rfl) (dk2 dF_182 DX12_readCase (i := 22) rfl rfl rfl) ⟨Nat.le_refl _, Nat.le_refl _⟩) (fun r31 s31 H locs hp hw => ?_)
      obtain ⟨hq31, hs31⟩ := hp
      (rw [hs31] at hw; clear hs31)
      rcases hq31 with ⟨rfl, hc31⟩ | ⟨rfl, hc31⟩
      · exact absurd hc31 f30_0
      · skip
        refine lv_if_ne (tgt := 54) hx hb (dkS dF_154 DX12_readCase (i := 23) rfl rfl rfl) (by decide) (fun h => absurd h (by decide)) (fun _ => ?_)
        exact z_vret C0 hr hlk hw (⟨(fun _ => hc31), hT30, hF30⟩) (dkP dF_177 DX12_readCase (i := 24) rfl rfl)
  · skip
    refine lv_if_ne (tgt := 20) hx hb (dkS dF_154 DX12_readCase (i := 3) rfl rfl rfl) (by decide) (fun h => absurd h (by decide)) (fun _ => ?_)
    refine lv_aload_n hx hb (dkP dF_42 DX12_readCase (i := 4) rfl rfl) rfl (lv_at hl 0 rfl) ?_
    refine va_ldcSW hx hb hown (C0.2.2.2.2.2.2.2.2.2 5 (293, "else") rfl) (dk2 dF_19 DX12_readCase (i := 5) rfl rfl rfl) ?_
    refine zk_I hw (zr_V (As := [.ref (kc.2.1 5)]) (rest := []) C0 (c_X12_is l G kc ad σ 5 (by first | omega | assumption | decide | rfl) hT _) cv_X12_is lk_X12_204 (zp_V C0 hRo hw 0 rfl rfl rfl) rfl hl.1 rfl ⟨by decide, by decide⟩ (Nat.le_of_ble_eq_true rfl) (dk2 dF_182 DX12_readCase (i := 6) rfl rfl rfl) ⟨Nat.le_refl _, Nat.le_refl _⟩) (fun r32 s32 H locs hp hw => ?_)
    obtain ⟨f32_0, hs32⟩ := hp
    (rw [hs32] at hw)
    rcases f32_0 with ⟨rfl, hc32⟩ | ⟨rfl, hc32⟩
    · skip
      refine lv_if_eq (tgt := 27) hx hb (dkS dF_153 DX12_readCase (i := 7) rfl rfl rfl) (by decide) (fun h => absurd h (by decide)) (fun _ => ?_)
      refine lv_aload_n hx hb (dkP dF_42 DX12_readCase (i := 8) rfl rfl) rfl (lv_at hl 0 rfl) ?_
      refine z_gi C0 hw 0 19 rfl fl_X12_295 (dk2 dF_180 DX12_readCase (i := 9) rfl rfl rfl) ?_
      obtain ⟨n33, hn33, en33⟩ := rngN (x := σ.1 0 19) (h := 1) (show 0 ≤ _ ∧ _ ≤ 1 from hT 0 19)
      refine z_top (y := nI n33) en33 ?_
      refine lv_if_eq (tgt := 35) hx hb (dkS dF_153 DX12_readCase (i := 10) rfl rfl rfl) (by decide) (fun c34 => ?_) (fun c34 => ?_)
      · skip
        refine lv_iload_n hx hb (dkP dF_27 DX12_readCase (i := 15) rfl rfl) rfl (lv_at hl 1 rfl) ?_
        refine lv_bipush (v := 12) hx hb (dks dF_16 DX12_readCase (i := 16) rfl rfl rfl) (by decide) ?_
        refine lv_icmp_ne (tgt := 46) hx hb (dkS dF_160 DX12_readCase (i := 17) rfl rfl rfl) (by decide) (fun c35 => ?_) (fun c35 => ?_)
        · simp (disch := omega) only [ta_lt, ta_le, ta_eq, tnI, tl32 12 (by decide)] at c35
          refine lv_aload_n hx hb (dkP dF_42 DX12_readCase (i := 21) rfl rfl) rfl (lv_at hl 0 rfl) ?_
          refine zk_I hw (zr_V (As := []) (rest := []) C0 (c_X12_good l G kc ad σ  _) cv_X12_good lk_X12_190 (zp_V C0 hRo hw 0 rfl rfl rfl) rfl hl.1 rfl ⟨by decide, by decide⟩ (Nat.le_of_ble_eq_true rfl) (dk2 dF_182 DX12_readCase (i := 22) rfl rfl rfl) ⟨Nat.le_refl _, Nat.le_refl _⟩) (fun r36 s36 H locs hp hw => ?_)
          obtain ⟨hq36, hs36⟩ := hp
          (rw [hs36] at hw; clear hs36)
          rcases hq36 with ⟨rfl, hc36⟩ | ⟨rfl, hc36⟩
          · skip
            refine lv_if_ne (tgt := 54) hx hb (dkS dF_154 DX12_readCase (i := 23) rfl rfl rfl) (by decide) (fun _ => ?_) (fun h => absurd h (by decide))
            exact jp1 σ _ _ _ (by (try simp only [lg_cmp_lt, lg_cmp_le, lg_cmp_gt, lg_cmp_ge, lg_cmp_eq] at f23_0); (try simp (disch := omega) only [ta_lt, ta_le, ta_eq, tb_lt, tb_le, tb_eq, tw, tnI, tsub1, tsv, tn32 1 (by decide), tnj 1 (by decide), tl32 0 (by decide), tl64 0 (by decide), tl32 1 (by decide), tl64 1 (by decide), tl32 2 (by decide), tl64 2 (by decide), tl32 3 (by decide), tl64 3 (by decide), tl32 12 (by decide), tl64 12 (by decide), tl32 123 (by decide), tl64 123 (by decide), tl32 125 (by decide), tl64 125 (by decide)] at f23_0); (try simp only [lg_cmp_lt, lg_cmp_le, lg_cmp_gt, lg_cmp_ge, lg_cmp_eq] at hc23); (try simp (disch := omega) only [ta_lt, ta_le, ta_eq, tb_lt, tb_le, tb_eq, tw, tnI, tsub1, tsv, tn32 1 (by decide), tnj 1 (by decide), tl32 0 (by decide), tl64 0 (by decide), tl32 1 (by decide), tl64 1 (by decide), tl32 2 (by decide), tl64 2 (by decide), tl32 3 (by decide), tl64 3 (by decide), tl32 12 (by decide), tl64 12 (by decide), tl32 123 (by decide), tl64 123 (by decide), tl32 125 (by decide), tl64 125 (by decide)] at hc23); (try simp only [lg_cmp_lt, lg_cmp_le, lg_cmp_gt, lg_cmp_ge, lg_cmp_eq] at f32_0); (try simp (disch := omega) only [ta_lt, ta_le, ta_eq, tb_lt, tb_le, tb_eq, tw, tnI, tsub1, tsv, tn32 1 (by decide), tnj 1 (by decide), tl32 0 (by decide), tl64 0 (by decide), tl32 1 (by decide), tl64 1 (by decide), tl32 2 (by decide), tl64 2 (by decide), tl32 3 (by decide), tl64 3 (by decide), tl32 12 (by decide), tl64 12 (by decide), tl32 123 (by decide), tl64 123 (by decide), tl32 125 (by decide), tl64 125 (by decide)] at f32_0); (try simp only [lg_cmp_lt, lg_cmp_le, lg_cmp_gt, lg_cmp_ge, lg_cmp_eq] at hc32); (try simp (disch := omega) only [ta_lt, ta_le, ta_eq, tb_lt, tb_le, tb_eq, tw, tnI, tsub1, tsv, tn32 1 (by decide), tnj 1 (by decide), tl32 0 (by decide), tl64 0 (by decide), tl32 1 (by decide), tl64 1 (by decide), tl32 2 (by decide), tl64 2 (by decide), tl32 3 (by decide), tl64 3 (by decide), tl32 12 (by decide), tl64 12 (by decide), tl32 123 (by decide), tl64 123 (by decide), tl32 125 (by decide), tl64 125 (by decide)] at hc32); (try simp only [lg_cmp_lt, lg_cmp_le, lg_cmp_gt, lg_cmp_ge, lg_cmp_eq] at c34); (try simp (disch := omega) only [ta_lt, ta_le, ta_eq, tb_lt, tb_le, tb_eq, tw, tnI, tsub1, tsv, tn32 1 (by decide), tnj 1 (by decide), tl32 0 (by decide), tl64 0 (by decide), tl32 1 (by decide), tl64 1 (by decide), tl32 2 (by decide), tl64 2 (by decide), tl32 3 (by decide), tl64 3 (by decide), tl32 12 (by decide), tl64 12 (by decide), tl32 123 (by decide), tl64 123 (by decide), tl32 125 (by decide), tl64 125 (by decide)] at c34); (try simp only [lg_cmp_lt, lg_cmp_le, lg_cmp_gt, lg_cmp_ge, lg_cmp_eq] at c35); (try simp (disch := omega) only [ta_lt, ta_le, ta_eq, tb_lt, tb_le, tb_eq, tw, tnI, tsub1, tsv, tn32 1 (by decide), tnj 1 (by decide), tl32 0 (by decide), tl64 0 (by decide), tl32 1 (by decide), tl64 1 (by decide), tl32 2 (by decide), tl64 2 (by decide), tl32 3 (by decide), tl64 3 (by decide), tl32 12 (by decide), tl64 12 (by decide), tl32 123 (by decide), tl64 123 (by decide), tl32 125 (by decide), tl64 125 (by decide)] at c35); (try simp only [lg_cmp_lt, lg_cmp_le, lg_cmp_gt, lg_cmp_ge, lg_cmp_eq] at hc36); (try simp (disch := omega) only [ta_lt, ta_le, ta_eq, tb_lt, tb_le, tb_eq, tw, tnI, tsub1, tsv, tn32 1 (by decide), tnj 1 (by decide), tl32 0 (by decide), tl64 0 (by decide), tl32 1 (by decide), tl64 1 (by decide), tl32 2 (by decide), tl64 2 (by decide), tl32 3 (by decide), tl64 3 (by decide), tl32 12 (by decide), tl64 12 (by decide), tl32 123 (by decide), tl64 123 (by decide), tl32 125 (by decide), tl64 125 (by decide)] at hc36); (try simp (disch := omega) only [ta_lt, ta_le, ta_eq, tb_lt, tb_le, tb_eq, tw, tnI, tsub1, tsv, tn32 1 (by decide), tnj 1 (by decide), tl32 0 (by decide), tl64 0 (by decide), tl32 1 (by decide), tl64 1 (by decide), tl32 2 (by decide), tl64 2 (by decide), tl32 3 (by decide), tl64 3 (by decide), tl32 12 (by decide), tl64 12 (by decide), tl32 123 (by decide), tl64 123 (by decide), tl32 125 (by decide), tl64 125 (by decide)]); omega) hT fr.refl hw (lv_sub hl [0, 1] rfl)
          · skip
            refine lv_if_ne (tgt := 54) hx hb (dkS dF_154 DX12_readCase (i := 23) rfl rfl rfl) (by decide) (fun h => absurd h (by decide)) (fun _ => ?_)
            exact z_vret C0 hr hlk hw (⟨(fun _ => hc36), hT, fr.refl⟩) (dkP dF_177 DX12_readCase (i := 24) rfl rfl)
        · simp (disch := omega) only [ta_lt, ta_le, ta_eq, tnI, tl32 12 (by decide)] at c35
          refine lv_aload_n hx hb (dkP dF_42 DX12_readCase (i := 18) rfl rfl) rfl (lv_at hl 0 rfl) ?_
          refine lv_iconst (v := 3) hx hb (dkP dF_6 DX12_readCase (i := 19) rfl rfl) (by decide) ?_
          refine zk_V hw (zr_V (As := [.int 3]) (rest := []) C0 (c_X12_wrong l G kc ad σ 3 (by decide) hT _) cv_X12_wrong lk_X12_214 (zp_V C0 hRo hw 0 rfl rfl rfl) rfl hl.1 rfl ⟨by decide, by decide⟩ (Nat.le_of_ble_eq_true rfl) (dk2 dF_182 DX12_readCase (i := 20) rfl rfl rfl) ⟨Nat.le_refl _, Nat.le_refl _⟩) (fun s37 H locs hp hw => ?_)
          obtain ⟨f37_0, hT37, hG37⟩ := hp
          have hF37 : fr true [6, 8, 9, 10] [8, 9, 10, 11, 12, 13, 19] σ s37 := fr.t fr.refl hG37 (by decide) (by decide) (by decide)
          refine lv_aload_n hx hb (dkP dF_42 DX12_readCase (i := 21) rfl rfl) rfl (lv_at hl 0 rfl) ?_
          refine zk_I hw (zr_V (As := []) (rest := []) C0 (c_X12_good l G kc ad s37  _) cv_X12_good lk_X12_190 (zp_V C0 hRo hw 0 rfl rfl rfl) rfl hl.1 rfl ⟨by decide, by decide⟩ (Nat.le_of_ble_eq_true rfl) (dk2 dF_182 DX12_readCase (i := 22) rfl rfl rfl) ⟨Nat.le_refl _, Nat.le_refl _⟩) (fun r38 s38 H locs hp hw => ?_)
          obtain ⟨hq38, hs38⟩ := hp
          (rw [hs38] at hw; clear hs38)
          rcases hq38 with ⟨rfl, hc38⟩ | ⟨rfl, hc38⟩
          · exact absurd hc38 f37_0
          · skip
            refine lv_if_ne (tgt := 54) hx hb (dkS dF_154 DX12_readCase (i := 23) rfl rfl rfl) (by decide) (fun h => absurd h (by decide)) (fun _ => ?_)
            exact z_vret C0 hr hlk hw (⟨(fun _ => hc38), hT37, hF37⟩) (dkP dF_177 DX12_readCase (i := 24) rfl rfl)
      · skip
        refine lv_aload_n hx hb (dkP dF_42 DX12_readCase (i := 11) rfl rfl) rfl (lv_at hl 0 rfl) ?_
        refine lv_iconst (v := 1) hx hb (dkP dF_4 DX12_readCase (i := 12) rfl rfl) (by decide) ?_
        refine zk_V hw (zr_V (As := [.int 1]) (rest := []) C0 (c_X12_wrong l G kc ad σ 1 (by decide) hT _) cv_X12_wrong lk_X12_214 (zp_V C0 hRo hw 0 rfl rfl rfl) rfl hl.1 rfl ⟨by decide, by decide⟩ (Nat.le_of_ble_eq_true rfl) (dk2 dF_182 DX12_readCase (i := 13) rfl rfl rfl) ⟨Nat.le_refl _, Nat.le_refl _⟩) (fun s39 H locs hp hw => ?_)
        obtain ⟨f39_0, hT39, hG39⟩ := hp
        have hF39 : fr true [6, 8, 9, 10] [8, 9, 10, 11, 12, 13, 19] σ s39 := fr.t fr.refl hG39 (by decide) (by decide) (by decide)
        refine lv_goto (tgt := 46) hx hb (dkS dF_167 DX12_readCase (i := 14) rfl rfl rfl) (by decide) ?_
        refine lv_aload_n hx hb (dkP dF_42 DX12_readCase (i := 21) rfl rfl) rfl (lv_at hl 0 rfl) ?_
        refine zk_I hw (zr_V (As := []) (rest := []) C0 (c_X12_good l G kc ad s39  _) cv_X12_good lk_X12_190 (zp_V C0 hRo hw 0 rfl rfl rfl) rfl hl.1 rfl ⟨by decide, by decide⟩ (Nat.le_of_ble_eq_true rfl) (dk2 dF_182 DX12_readCase (i := 22) rfl rfl rfl) ⟨Nat.le_refl _, Nat.le_refl _⟩) (fun r40 s40 H locs hp hw => ?_)
        obtain ⟨hq40, hs40⟩ := hp
        (rw [hs40] at hw; clear hs40)
        rcases hq40 with ⟨rfl, hc40⟩ | ⟨rfl, hc40⟩
        · exact absurd hc40 f39_0
        · skip
          refine lv_if_ne (tgt := 54) hx hb (dkS dF_154 DX12_readCase (i := 23) rfl rfl rfl) (by decide) (fun h => absurd h (by decide)) (fun _ => ?_)
          exact z_vret C0 hr hlk hw (⟨(fun _ => hc40), hT39, hF39⟩) (dkP dF_177 DX12_readCase (i := 24) rfl rfl)
    · skip
      refine lv_if_eq (tgt := 27) hx hb (dkS dF_153 DX12_readCase (i := 7) rfl rfl rfl) (by decide) (fun _ => ?_) (fun h => absurd h (by decide))
      refine lv_aload_n hx hb (dkP dF_42 DX12_readCase (i := 11) rfl rfl) rfl (lv_at hl 0 rfl) ?_
      refine lv_iconst (v := 1) hx hb (dkP dF_4 DX12_readCase (i := 12) rfl rfl) (by decide) ?_
      refine zk_V hw (zr_V (As := [.int 1]) (rest := []) C0 (c_X12_wrong l G kc ad σ 1 (by decide) hT _) cv_X12_wrong lk_X12_214 (zp_V C0 hRo hw 0 rfl rfl rfl) rfl hl.1 rfl ⟨by decide, by decide⟩ (Nat.le_of_ble_eq_true rfl) (dk2 dF_182 DX12_readCase (i := 13) rfl rfl rfl) ⟨Nat.le_refl _, Nat.le_refl _⟩) (fun s41 H locs hp hw => ?_)
      obtain ⟨f41_0, hT41, hG41⟩ := hp
      have hF41 : fr true [6, 8, 9, 10] [8, 9, 10, 11, 12, 13, 19] σ s41 := fr.t fr.refl hG41 (by decide) (by decide) (by decide)
      refine lv_goto (tgt := 46) hx hb (dkS dF_167 DX12_readCase (i := 14) rfl rfl rfl) (by decide) ?_
      refine lv_aload_n hx hb (dkP dF_42 DX12_readCase (i := 21) rfl rfl) rfl (lv_at hl 0 rfl) ?_
      refine zk_I hw (zr_V (As := []) (rest := []) C0 (c_X12_good l G kc ad s41  _) cv_X12_good lk_X12_190 (zp_V C0 hRo hw 0 rfl rfl rfl) rfl hl.1 rfl ⟨by decide, by decide⟩ (Nat.le_of_ble_eq_true rfl) (dk2 dF_182 DX12_readCase (i := 22) rfl rfl rfl) ⟨Nat.le_refl _, Nat.le_refl _⟩) (fun r42 s42 H locs hp hw => ?_)
      obtain ⟨hq42, hs42⟩ := hp
      (rw [hs42] at hw; clear hs42)
      rcases hq42 with ⟨rfl, hc42⟩ | ⟨rfl, hc42⟩
      · exact absurd hc42 f41_0
      · skip
        refine lv_if_ne (tgt := 54) hx hb (dkS dF_154 DX12_readCase (i := 23) rfl rfl rfl) (by decide) (fun h => absurd h (by decide)) (fun _ => ?_)
        exact z_vret C0 hr hlk hw (⟨(fun _ => hc42), hT41, hF41⟩) (dkP dF_177 DX12_readCase (i := 24) rfl rfl)
