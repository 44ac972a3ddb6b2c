set_option maxRecDepth 20000 in
theorem shc_186 : shC[186]? = some (0, 5, [(1, 187), (0, 0), (1, 188), (1, 189), (1, 190), (0, 0), (0, 0), (0, 0), (0, 0), (1, 191), (2, 0), (2, 0)]) := by rfl
theorem tcl_186 : tcL.getD 186 0 = 10 := by decide +kernel
set_option maxRecDepth 100000 in
set_option maxHeartbeats 8000000 in
theorem c_X5_hasRoom (l : Launch) (G : va_G) (kc : KC) (ad : Nat → Nat) (σ : Sg)  (hT : TC σ) : MI l G kc yX5_hasRoom cX5_hasRoom 2 (some .boolean) 0 0 [.ref (ad 186), .int 20] shC ad σ (fun r σ1 => ((r = 1 ∧ ((σ.1 186 1).toInt ≤ 580)) ∨ (r = 0 ∧ (True))) ∧ σ1 = σ) := by
  intro sz
  refine z_body (y := yX5_hasRoom) (n := 2) (av := [.ref (ad 186), .int 20]) (Qc := fun A => va_Qi (fun r σ1 => ((r = 1 ∧ ((σ.1 186 1).toInt ≤ 580)) ∨ (r = 0 ∧ (True))) ∧ σ1 = σ) (PoC G kc shC ad A) A) (plainFor_of_name (by decide)) (Nat.le_of_ble_eq_true rfl) (fun pr e s m below meth c A C0 hr hlk hnm hw hRo ls hl => ?_) sz
  have hx := C0.1
  have hb := C0.2.1
  have hown := C0.2.2.2.1
  have hts := C0.2.2.2.2.1
  have hl : lv_has ls 2 [(0, .ref (ad 186)), (1, .int 20)] := hl
  refine lv_aload_n hx hb (dkP dF_42 DX5_hasRoom (i := 0) rfl rfl) rfl (lv_at hl 0 rfl) ?_
  refine z_gi C0 hw 186 1 (fk_of shc_186 rfl) fl_X5_46 (dk2 dF_180 DX5_hasRoom (i := 1) rfl rfl rfl) ?_
  obtain ⟨n1, hn1, en1⟩ := rngN (x := σ.1 186 1) (h := 600) (tcr_10_1 hT tcl_186)
  refine z_top (y := nI n1) en1 ?_
  refine lv_iload_n hx hb (dkP dF_27 DX5_hasRoom (i := 2) rfl rfl) rfl (lv_at hl 1 rfl) ?_
  refine lv_iadd hx hb (dkP dF_96 DX5_hasRoom (i := 3) rfl rfl) ?_
  refine z_top (y := nI (n1 + 20)) (by simp only [fa_lit, nI_add, pk_mul]) ?_
  refine lv_sipush (v := 600) hx hb (dkS dF_17 DX5_hasRoom (i := 4) rfl rfl rfl) (by decide) ?_
  refine lv_icmp_gt (tgt := 16) hx hb (dkS dF_163 DX5_hasRoom (i := 5) rfl rfl rfl) (by decide) (fun c2 => ?_) (fun c2 => ?_)
  · simp (disch := omega) only [ta_lt, ta_le, ta_eq, tnI, tl32 600 (by decide)] at c2
    refine lv_iconst (v := 0) hx hb (dkP dF_3 DX5_hasRoom (i := 8) rfl rfl) (by decide) ?_
    exact z_zret C0 hr hlk (by decide) hw (⟨(Or.inr ⟨rfl, trivial⟩), rfl⟩) (dkP dF_172 DX5_hasRoom (i := 9) rfl rfl)
  · simp (disch := omega) only [ta_lt, ta_le, ta_eq, tnI, tl32 600 (by decide)] at c2
    refine lv_iconst (v := 1) hx hb (dkP dF_4 DX5_hasRoom (i := 6) rfl rfl) (by decide) ?_
    refine lv_goto (tgt := 17) hx hb (dkS dF_167 DX5_hasRoom (i := 7) rfl rfl rfl) (by decide) ?_
    exact z_zret C0 hr hlk (by decide) hw (⟨(Or.inl ⟨rfl, (by rw [en1]; (try simp only [lg_cmp_lt, lg_cmp_le, lg_cmp_gt, lg_cmp_ge, lg_cmp_eq] at c2); (try simp (disch := omega) only [ta_lt, ta_le, ta_eq, tb_lt, tb_le, tb_eq, tw, tnI, tsub1, tsv, tsb32, tn32 1 (by decide), tnj 1 (by decide), tl32 0 (by decide), tl64 0 (by decide), tl32 1 (by decide), tl64 1 (by decide), tl32 600 (by decide), tl64 600 (by decide)] at c2); (try simp (disch := omega) only [ta_lt, ta_le, ta_eq, tb_lt, tb_le, tb_eq, tw, tnI, tsub1, tsv, tsb32, tn32 1 (by decide), tnj 1 (by decide), tl32 0 (by decide), tl64 0 (by decide), tl32 1 (by decide), tl64 1 (by decide), tl32 600 (by decide), tl64 600 (by decide)]); omega)⟩), rfl⟩) (dkP dF_172 DX5_hasRoom (i := 9) rfl rfl)
theorem i8 {q : Int32} {m : Nat} (h : q.toInt = 24 - 8 * (m : Int)) (hm : m ≤ 3) : (q + (-8)).toInt = 24 - 8 * ((m + 1 : Nat) : Int) := by
  have h8 : (-8 : Int32).toInt = -8 := by decide
  rw [tadd32 (by omega) (by omega), h8, h]
  omega
set_option maxRecDepth 20000 in
theorem shc_187 : shC[187]? = some (2, 600, []) := by rfl
theorem tcl_187 : tcL.getD 187 0 = 0 := by decide +kernel
set_option maxRecDepth 100000 in
set_option maxHeartbeats 8000000 in
theorem c_X5_add (l : Launch) (G : va_G) (kc : KC) (ad : Nat → Nat) (σ : Sg) (four : Int32) {ln : Nat} (hln : σ.1 186 1 = nI ln) (hl4 : ln + 4 ≤ 600) (hT : TC σ) : MV l G kc yX5_add cX5_add 3 0 0 [.ref (ad 186), .int four] shC ad σ (fun σ1 => (σ1.1 186 1 = nI (ln + 4)) ∧ TC σ1 ∧ frC (fun x y => (x = 186 ∧ y = 1) ∨ (x = 187)) σ σ1) := by
  intro sz
  refine z_body (y := yX5_add) (n := 3) (av := [.ref (ad 186), .int four]) (Qc := fun A => va_Qv (fun σ1 => (σ1.1 186 1 = nI (ln + 4)) ∧ TC σ1 ∧ frC (fun x y => (x = 186 ∧ y = 1) ∨ (x = 187)) σ σ1) (PoC G kc shC ad A) A) (plainFor_of_name (by decide)) (Nat.le_of_ble_eq_true rfl) (fun pr e s m below meth c A C0 hr hlk hnm hw hRo ls hl => ?_) sz
  have hx := C0.1
  have hb := C0.2.1
  have hown := C0.2.2.2.1
  have hts := C0.2.2.2.2.1
  have hl : lv_has ls 3 [(0, .ref (ad 186)), (1, .int four)] := hl
  refine lv_bipush (v := 24) hx hb (dks dF_16 DX5_add (i := 0) rfl rfl rfl) (by decide) ?_
  refine lv_istore_n (lv' := [(2, .int 24), (0, .ref (ad 186)), (1, .int four)]) hx hb (dkP dF_61 DX5_add (i := 1) rfl rfl) rfl hl (by decide) rfl (fun ls hl => ?_)
  have lp2 : ∀ (nq : Nat) (q2_3 : Int32) (ma : Nat) (τ1 : Sg) (H : Heap) (locs : List Loc) (ls : Array Slot), 5 - ma < nq → (ma ≤ 4) → (q2_3.toInt = 24 - 8 * (ma : Int)) → (τ1.1 186 1 = nI (ln + ma)) → (TC τ1) → (frC (fun x y => (x = 186 ∧ y = 1) ∨ (x = 187)) σ τ1) → St G kc A s.heap shC ad τ1 H locs → lv_has ls 3 [(2, .int q2_3), (0, .ref (ad 186)), (1, .int four)] → W pr l e { frames := 0, cells := 0, slots := 0, locals := 0 } s m ([.ref (ad 186), .int four] : List Value).toArray below meth c H locs 0 0 (MQ below (va_Qv (fun σ1 => (σ1.1 186 1 = nI (ln + 4)) ∧ TC σ1 ∧ frC (fun x y => (x = 186 ∧ y = 1) ∨ (x = 187)) σ σ1) (PoC G kc shC ad A) A) ([.ref (ad 186), .int four] : List Value).toArray s 0 0 A) (F0 m 3 ls []) := by
    intro nq
    induction nq with
    | zero => intro q2_3 ma τ1 H locs ls hmu; exact absurd hmu (Nat.not_lt_zero _)
    | succ nq ih2 =>
      intro q2_3 ma τ1 H locs ls hmu hm4 hq2 hlm hT_τ1 hF_τ1 hw hl
      refine lv_iload_n hx hb (dkP dF_28 DX5_add (i := 2) rfl rfl) rfl (lv_at hl 0 rfl) ?_
      refine lv_if_lt (tgt := 36) hx hb (dkS dF_155 DX5_add (i := 3) rfl rfl rfl) (by decide) (fun c3 => ?_) (fun c3 => ?_)
      · (try simp (disch := omega) only [ta_lt, ta_le, ta_eq, tnI, tl32 0 (by decide)] at c3)
        exact z_vret C0 hr hlk hw (⟨(by have e_ : ma = 4 := (by omega); rw [hlm, e_]), hT_τ1, hF_τ1⟩) (dkP dF_177 DX5_add (i := 21) rfl rfl)
      · (try simp (disch := omega) only [ta_lt, ta_le, ta_eq, tnI, tl32 0 (by decide)] at c3)
        refine lv_aload_n hx hb (dkP dF_42 DX5_add (i := 4) rfl rfl) rfl (lv_at hl 1 rfl) ?_
        refine z_gr C0 hw 186 0 187 (fk_of shc_186 rfl) fl_X5_11 (dk2 dF_180 DX5_add (i := 5) rfl rfl rfl) ?_
        refine lv_aload_n hx hb (dkP dF_42 DX5_add (i := 6) rfl rfl) rfl (lv_at hl 1 rfl) ?_
        refine z_gi C0 hw 186 1 (fk_of shc_186 rfl) fl_X5_46 (dk2 dF_180 DX5_add (i := 7) rfl rfl rfl) ?_
        refine z_top (y := (nI (ln + ma))) hlm ?_
        refine lv_iload_n hx hb (dkP dF_27 DX5_add (i := 8) rfl rfl) rfl (lv_at hl 2 rfl) ?_
        refine lv_iload_n hx hb (dkP dF_28 DX5_add (i := 9) rfl rfl) rfl (lv_at hl 0 rfl) ?_
        refine lv_ishr hx hb (dkP dF_122 DX5_add (i := 10) rfl rfl) ?_
        refine lv_i2b hx hb (dkP dF_145 DX5_add (i := 11) rfl rfl) rfl ?_
        refine z_bastN (n := 600) C0 hw 187 (ln + ma) (ak_of shc_187) (by omega) (by decide) (dkP dF_84 DX5_add (i := 12) rfl rfl) (fun H locs hw => ?_)
        have hT4 : TC (sI τ1 187 (ln + ma) (((four >>> (q2_3 &&& 31)).toInt8.toInt32).toInt8.toInt32)) := TC.w hT_τ1 (tc0 tcl_187)
        have hF4 : frC (fun x y => (x = 186 ∧ y = 1) ∨ (x = 187)) σ (sI τ1 187 (ln + ma) (((four >>> (q2_3 &&& 31)).toInt8.toInt32).toInt8.toInt32)) := frC.w hF_τ1 (by show (187 = 186 ∧ (ln + ma) = 1) ∨ (187 = 187); exact Or.inr (rfl))
        refine lv_aload_n hx hb (dkP dF_42 DX5_add (i := 13) rfl rfl) rfl (lv_at hl 1 rfl) ?_
        refine lv_dup hx hb (dkP dF_89 DX5_add (i := 14) rfl rfl) rfl ?_
        refine z_gi C0 hw 186 1 (fk_of shc_186 rfl) fl_X5_46 (dk2 dF_180 DX5_add (i := 15) rfl rfl rfl) ?_
        refine z_top (y := (nI (ln + ma))) ((rd_n (by omega)).trans hlm) ?_
        refine lv_iconst (v := 1) hx hb (dkP dF_4 DX5_add (i := 16) rfl rfl) (by decide) ?_
        refine lv_iadd hx hb (dkP dF_96 DX5_add (i := 17) rfl rfl) ?_
        refine z_top (y := nI ((ln + ma) + 1)) (by simp only [fa_lit, nI_add, pk_mul]) ?_
        refine z_pi C0 hw 186 1 (fk_of shc_186 rfl) fp_X5_46 (dk2 dF_181 DX5_add (i := 18) rfl rfl rfl) (fun H locs hw => ?_)
        have hT5 : TC (sI (sI τ1 187 (ln + ma) (((four >>> (q2_3 &&& 31)).toInt8.toInt32).toInt8.toInt32)) 186 1 (nI ((ln + ma) + 1))) := TC.w hT4 (tcw_10_1 tcl_186 (by (try simp only [lg_cmp_lt, lg_cmp_le, lg_cmp_gt, lg_cmp_ge, lg_cmp_eq] at c3); (try simp (disch := omega) only [ta_lt, ta_le, ta_eq, tb_lt, tb_le, tb_eq, tw, tnI, tsub1, tsv, tsb32, tn32 1 (by decide), tnj 1 (by decide), tl32 0 (by decide), tl64 0 (by decide), tl32 1 (by decide), tl64 1 (by decide), tl32 24 (by decide), tl64 24 (by decide)] at c3); (try simp (disch := omega) only [ta_lt, ta_le, ta_eq, tb_lt, tb_le, tb_eq, tw, tnI, tsub1, tsv, tsb32, tn32 1 (by decide), tnj 1 (by decide), tl32 0 (by decide), tl64 0 (by decide), tl32 1 (by decide), tl64 1 (by decide), tl32 24 (by decide), tl64 24 (by decide)]); omega))
        have hF5 : frC (fun x y => (x = 186 ∧ y = 1) ∨ (x = 187)) σ (sI (sI τ1 187 (ln + ma) (((four >>> (q2_3 &&& 31)).toInt8.toInt32).toInt8.toInt32)) 186 1 (nI ((ln + ma) + 1))) := frC.w hF4 (by show (186 = 186 ∧ 1 = 1) ∨ (186 = 187); exact Or.inl (⟨rfl, rfl⟩))
        refine lv_iinc (v := q2_3 + (-8)) (lv' := [(2, .int (q2_3 + (-8))), (0, .ref (ad 186)), (1, .int four)]) hx hb (dkI DX5_add (i := 19) rfl rfl rfl rfl) hl (k := 0) rfl rfl (by decide) rfl (fun ls hl => ?_)
        refine lv_goto (tgt := 3) hx hb (dkS dF_167 DX5_add (i := 20) rfl rfl rfl) (by decide) ?_
        exact ih2 (q2_3 + (-8)) (ma + 1) (sI (sI τ1 187 (ln + ma) (((four >>> (q2_3 &&& 31)).toInt8.toInt32).toInt8.toInt32)) 186 1 (nI ((ln + ma) + 1))) _ _ _ (by omega) (by omega) (i8 hq2 (by omega)) rd_s hT5 hF5 hw (lv_sub hl [0, 1, 2] rfl)
  exact lp2 _ 24 0 σ _ _ _ (Nat.lt_succ_self _) (by omega) (by decide) hln hT frC.refl hw (lv_sub hl [0, 1, 2] rfl)
set_option maxRecDepth 100000 in
set_option maxHeartbeats 8000000 in
theorem c_X5_wordKind (l : Launch) (G : va_G) (kc : KC) (ad : Nat → Nat) (σ : Sg) (fr : Nat) (past : Nat) (hfp : fr < past) (hp6 : past ≤ 600) (hsm : ∀ i, fr ≤ i → i < past → 97 ≤ (σ.1 187 i).toInt ∧ (σ.1 187 i).toInt ≤ 122) (hT : TC σ) : MI l G kc yX5_wordKind cX5_wordKind 5 (some .int) 0 0 [.ref (ad 186), .int (nI fr), .int (nI past)] shC ad σ (fun r σ1 => (r = 3 → (σ.1 187 fr).toInt ≤ 104) ∧ σ1 = σ) := by
  intro sz
  refine z_body (y := yX5_wordKind) (n := 5) (av := [.ref (ad 186), .int (nI fr), .int (nI past)]) (Qc := fun A => va_Qi (fun r σ1 => (r = 3 → (σ.1 187 fr).toInt ≤ 104) ∧ σ1 = σ) (PoC G kc shC ad A) A) (plainFor_of_name (by decide)) (Nat.le_of_ble_eq_true rfl) (fun pr e s m below meth c A C0 hr hlk hnm hw hRo ls hl => ?_) sz
  have hx := C0.1
  have hb := C0.2.1
  have hown := C0.2.2.2.1
  have hts := C0.2.2.2.2.1
  have hl : lv_has ls 5 [(0, .ref (ad 186)), (1, .int (nI fr)), (2, .int (nI past))] := hl
  refine lv_iload_n hx hb (dkP dF_28 DX5_wordKind (i := 0) rfl rfl) rfl (lv_at hl 2 rfl) ?_
  refine lv_iload_n hx hb (dkP dF_27 DX5_wordKind (i := 1) rfl rfl) rfl (lv_at hl 1 rfl) ?_
  refine lv_isub hx hb (dkP dF_100 DX5_wordKind (i := 2) rfl rfl) ?_
  refine z_top (y := nI (past - fr)) (nI_sub (by omega)) ?_
  refine lv_iconst (v := 4) hx hb (dkP dF_7 DX5_wordKind (i := 3) rfl rfl) (by decide) ?_
  refine lv_icmp_le (tgt := 9) hx hb (dkS dF_164 DX5_wordKind (i := 4) rfl rfl rfl) (by decide) (fun c1 => ?_) (fun c1 => ?_)
  · simp (disch := omega) only [ta_lt, ta_le, ta_eq, tnI, tl32 4 (by decide)] at c1
    refine lv_iconst (v := 0) hx hb (dkP dF_3 DX5_wordKind (i := 7) rfl rfl) (by decide) ?_
    refine lv_istore_n (lv' := [(3, .int 0), (0, .ref (ad 186)), (1, .int (nI fr)), (2, .int (nI past))]) hx hb (dkP dF_62 DX5_wordKind (i := 8) rfl rfl) rfl hl (by decide) rfl (fun ls hl => ?_)
    refine lv_iload_n hx hb (dkP dF_27 DX5_wordKind (i := 9) rfl rfl) rfl (lv_at hl 2 rfl) ?_
    refine lv_istore (lv' := [(4, .int (nI fr)), (3, .int 0), (0, .ref (ad 186)), (1, .int (nI fr)), (2, .int (nI past))]) hx hb (dk1 dF_54 DX5_wordKind (i := 10) rfl rfl rfl) hl (by decide) rfl (fun ls hl => ?_)
    have lp2 : ∀ (nq : Nat) (q4_14 : Nat) (q3_14 : Nat) (H : Heap) (locs : List Loc) (ls : Array Slot), past - q4_14 < nq → (q4_14 ≤ past) → (q3_14 ≤ 2147483647) → ((q4_14 = fr ∧ q3_14 = 0) ∨ (q4_14 = fr + 1 ∧ 97 ≤ q3_14 ∧ q3_14 < 128 ∧ σ.1 187 fr = nI q3_14) ∨ (q4_14 = fr + 2 ∧ 105 ≤ q3_14 ∧ q3_14 < 32768) ∨ (q4_14 = fr + 3 ∧ 105 ≤ q3_14 ∧ q3_14 < 8388608) ∨ (q4_14 = fr + 4 ∧ 105 ≤ q3_14 ∧ q3_14 < 2147483648)) → St G kc A s.heap shC ad σ H locs → lv_has ls 5 [(4, .int (nI q4_14)), (3, .int (nI q3_14)), (0, .ref (ad 186)), (1, .int (nI fr)), (2, .int (nI past))] → W pr l e { frames := 0, cells := 0, slots := 0, locals := 0 } s m ([.ref (ad 186), .int (nI fr), .int (nI past)] : List Value).toArray below meth c H locs 0 0 (MQ below (va_Qi (fun r σ1 => (r = 3 → (σ.1 187 fr).toInt ≤ 104) ∧ σ1 = σ) (PoC G kc shC ad A) A) ([.ref (ad 186), .int (nI fr), .int (nI past)] : List Value).toArray s 0 0 A) (F0 m 14 ls []) := by
      intro nq
      induction nq with
      | zero => intro q4_14 q3_14 H locs ls hmu; exact absurd hmu (Nat.not_lt_zero _)
      | succ nq ih2 =>
        intro q4_14 q3_14 H locs ls hmu hq4_14 hq3_14 hwd hw hl
        refine lv_iload hx hb (dk1 dF_21 DX5_wordKind (i := 11) rfl rfl rfl) (lv_at hl 0 rfl) ?_
        refine lv_iload_n hx hb (dkP dF_28 DX5_wordKind (i := 12) rfl rfl) rfl (lv_at hl 4 rfl) ?_
        refine lv_icmp_ge (tgt := 39) hx hb (dkS dF_162 DX5_wordKind (i := 13) rfl rfl rfl) (by decide) (fun c3 => ?_) (fun c3 => ?_)
        · simp (disch := omega) only [ta_lt, ta_le, ta_eq, tnI] at c3
          refine lv_iload_n hx hb (dkP dF_29 DX5_wordKind (i := 25) rfl rfl) rfl (lv_at hl 1 rfl) ?_
          by_cases hsk4_0 : (26479 : Int) = (nI q3_14).toInt
          · refine lv_lookup (off := 71) (tgt := 111) hx hb (dX5_wordKind_40) (by decide) (by rw [← hsk4_0]; decide) (by decide) ?_
            refine lv_bipush (v := 7) hx hb (dks dF_16 DX5_wordKind (i := 29) rfl rfl rfl) (by decide) ?_
            exact z_iret C0 hr hlk hw (⟨(fun h => absurd h (by decide)), rfl⟩) (dkP dF_172 DX5_wordKind (i := 30) rfl rfl)
          by_cases hsk4_1 : (26982 : Int) = (nI q3_14).toInt
          · refine lv_lookup (off := 68) (tgt := 108) hx hb (dX5_wordKind_40) (by decide) (by rw [← hsk4_1]; decide) (by decide) ?_
            refine lv_bipush (v := 6) hx hb (dks dF_16 DX5_wordKind (i := 27) rfl rfl rfl) (by decide) ?_
            exact z_iret C0 hr hlk hw (⟨(fun h => absurd h (by decide)), rfl⟩) (dkP dF_172 DX5_wordKind (i := 28) rfl rfl)
          by_cases hsk4_2 : (6385252 : Int) = (nI q3_14).toInt
          · refine lv_lookup (off := 76) (tgt := 116) hx hb (dX5_wordKind_40) (by decide) (by rw [← hsk4_2]; decide) (by decide) ?_
            refine lv_bipush (v := 10) hx hb (dks dF_16 DX5_wordKind (i := 33) rfl rfl rfl) (by decide) ?_
            exact z_iret C0 hr hlk hw (⟨(fun h => absurd h (by decide)), rfl⟩) (dkP dF_172 DX5_wordKind (i := 34) rfl rfl)
          by_cases hsk4_3 : (7562612 : Int) = (nI q3_14).toInt
          · refine lv_lookup (off := 74) (tgt := 114) hx hb (dX5_wordKind_40) (by decide) (by rw [← hsk4_3]; decide) (by decide) ?_
            refine lv_iconst (v := 5) hx hb (dkP dF_8 DX5_wordKind (i := 31) rfl rfl) (by decide) ?_
            exact z_iret C0 hr hlk hw (⟨(fun h => absurd h (by decide)), rfl⟩) (dkP dF_172 DX5_wordKind (i := 32) rfl rfl)
          by_cases hsk4_4 : (1701606245 : Int) = (nI q3_14).toInt
          · refine lv_lookup (off := 85) (tgt := 125) hx hb (dX5_wordKind_40) (by decide) (by rw [← hsk4_4]; decide) (by decide) ?_
            refine lv_bipush (v := 11) hx hb (dks dF_16 DX5_wordKind (i := 39) rfl rfl rfl) (by decide) ?_
            exact z_iret C0 hr hlk hw (⟨(fun h => absurd h (by decide)), rfl⟩) (dkP dF_172 DX5_wordKind (i := 40) rfl rfl)
          by_cases hsk4_5 : (1937010544 : Int) = (nI q3_14).toInt
          · refine lv_lookup (off := 79) (tgt := 119) hx hb (dX5_wordKind_40) (by decide) (by rw [← hsk4_5]; decide) (by decide) ?_
            refine lv_bipush (v := 8) hx hb (dks dF_16 DX5_wordKind (i := 35) rfl rfl rfl) (by decide) ?_
            exact z_iret C0 hr hlk hw (⟨(fun h => absurd h (by decide)), rfl⟩) (dkP dF_172 DX5_wordKind (i := 36) rfl rfl)
          by_cases hsk4_6 : (2003330414 : Int) = (nI q3_14).toInt
          · refine lv_lookup (off := 82) (tgt := 122) hx hb (dX5_wordKind_40) (by decide) (by rw [← hsk4_6]; decide) (by decide) ?_
            refine lv_bipush (v := 9) hx hb (dks dF_16 DX5_wordKind (i := 37) rfl rfl rfl) (by decide) ?_
            exact z_iret C0 hr hlk hw (⟨(fun h => absurd h (by decide)), rfl⟩) (dkP dF_172 DX5_wordKind (i := 38) rfl rfl)
          refine lv_lookup (off := 88) (tgt := 128) hx hb (dX5_wordKind_40) (by decide) (by simp only [Op.lookupswitch.offset, hsk4_0, hsk4_1, hsk4_2, hsk4_3, hsk4_4, hsk4_5, hsk4_6, if_false]) (by decide) ?_
          refine lv_iload_n hx hb (dkP dF_29 DX5_wordKind (i := 41) rfl rfl) rfl (lv_at hl 1 rfl) ?_
          refine lv_bipush (v := 105) hx hb (dks dF_16 DX5_wordKind (i := 42) rfl rfl rfl) (by decide) ?_
          refine lv_icmp_ge (tgt := 138) hx hb (dkS dF_162 DX5_wordKind (i := 43) rfl rfl rfl) (by decide) (fun c5 => ?_) (fun c5 => ?_)
          · simp (disch := omega) only [ta_lt, ta_le, ta_eq, tnI, tl32 105 (by decide)] at c5
            refine lv_iconst (v := 4) hx hb (dkP dF_7 DX5_wordKind (i := 46) rfl rfl) (by decide) ?_
            exact z_iret C0 hr hlk hw (⟨(fun h => absurd h (by decide)), rfl⟩) (dkP dF_172 DX5_wordKind (i := 47) rfl rfl)
          · simp (disch := omega) only [ta_lt, ta_le, ta_eq, tnI, tl32 105 (by decide)] at c5
            refine lv_iconst (v := 3) hx hb (dkP dF_6 DX5_wordKind (i := 44) rfl rfl) (by decide) ?_
            refine lv_goto (tgt := 139) hx hb (dkS dF_167 DX5_wordKind (i := 45) rfl rfl rfl) (by decide) ?_
            exact z_iret C0 hr hlk hw (⟨(fun _ => by rcases hwd with h | h | h | h | h; (· omega); (· rw [h.2.2.2, tnI _ (by omega)]; omega); (· omega); (· omega); (· omega)), rfl⟩) (dkP dF_172 DX5_wordKind (i := 47) rfl rfl)
        · simp (disch := omega) only [ta_lt, ta_le, ta_eq, tnI] at c3
          refine lv_iload_n hx hb (dkP dF_29 DX5_wordKind (i := 14) rfl rfl) rfl (lv_at hl 1 rfl) ?_
          refine lv_bipush (v := 8) hx hb (dks dF_16 DX5_wordKind (i := 15) rfl rfl rfl) (by decide) ?_
          refine lv_ishl hx hb (dkP dF_120 DX5_wordKind (i := 16) rfl rfl) ?_
          refine lv_aload_n hx hb (dkP dF_42 DX5_wordKind (i := 17) rfl rfl) rfl (lv_at hl 2 rfl) ?_
          refine z_gr C0 hw 186 0 187 (fk_of shc_186 rfl) fl_X5_11 (dk2 dF_180 DX5_wordKind (i := 18) rfl rfl rfl) ?_
          refine lv_iload hx hb (dk1 dF_21 DX5_wordKind (i := 19) rfl rfl rfl) (lv_at hl 0 rfl) ?_
          refine z_baldN (n := 600) C0 hw 187 q4_14 (ak_of shc_187) (by omega) (by decide) (dkP dF_51 DX5_wordKind (i := 20) rfl rfl) ?_
          obtain ⟨v6, ev6⟩ : ∃ y : Int32, σ.1 187 q4_14 = y := ⟨_, rfl⟩
          refine z_top (y := v6) ev6 ?_
          refine lv_ior hx hb (dkP dF_128 DX5_wordKind (i := 21) rfl rfl) ?_
          obtain ⟨cc, hcl_, hch_, ecc⟩ := rngP (x := v6) (l := 97) (h := 122) (by decide) (by rw [← ev6]; exact hsm _ (by omega) (by omega))
          refine z_top (y := nI (q3_14 * 256 + cc)) (by rw [ecc]; exact shor (by omega)) ?_
          refine lv_istore_n (lv' := [(3, .int (nI (q3_14 * 256 + cc))), (4, .int (nI q4_14)), (0, .ref (ad 186)), (1, .int (nI fr)), (2, .int (nI past))]) hx hb (dkP dF_62 DX5_wordKind (i := 22) rfl rfl) rfl hl (by decide) rfl (fun ls hl => ?_)
          refine lv_iinc (v := nI (q4_14 + 1)) (lv' := [(4, .int (nI (q4_14 + 1))), (3, .int (nI (q3_14 * 256 + cc))), (0, .ref (ad 186)), (1, .int (nI fr)), (2, .int (nI past))]) hx hb (dkI DX5_wordKind (i := 23) rfl rfl rfl rfl) hl (k := 1) rfl (nI_1 _) (by decide) rfl (fun ls hl => ?_)
          refine lv_goto (tgt := 14) hx hb (dkS dF_167 DX5_wordKind (i := 24) rfl rfl rfl) (by decide) ?_
          exact ih2 (q4_14 + 1) (q3_14 * 256 + cc) _ _ _ (by omega) (by (try simp only [lg_cmp_lt, lg_cmp_le, lg_cmp_gt, lg_cmp_ge, lg_cmp_eq] at c1); (try simp (disch := omega) only [ta_lt, ta_le, ta_eq, tb_lt, tb_le, tb_eq, tw, tnI, tsub1, tsv, tsb32, tn32 1 (by decide), tnj 1 (by decide), tl32 0 (by decide), tl64 0 (by decide), tl32 3 (by decide), tl64 3 (by decide), tl32 4 (by decide), tl64 4 (by decide), tl32 5 (by decide), tl64 5 (by decide), tl32 6 (by decide), tl64 6 (by decide), tl32 7 (by decide), tl64 7 (by decide), tl32 8 (by decide), tl64 8 (by decide), tl32 9 (by decide), tl64 9 (by decide), tl32 10 (by decide), tl64 10 (by decide), tl32 11 (by decide), tl64 11 (by decide), tl32 105 (by decide), tl64 105 (by decide)] at c1); (try simp only [lg_cmp_lt, lg_cmp_le, lg_cmp_gt, lg_cmp_ge, lg_cmp_eq] at c3); (try simp (disch := omega) only [ta_lt, ta_le, ta_eq, tb_lt, tb_le, tb_eq, tw, tnI, tsub1, tsv, tsb32, tn32 1 (by decide), tnj 1 (by decide), tl32 0 (by decide), tl64 0 (by decide), tl32 3 (by decide), tl64 3 (by decide), tl32 4 (by decide), tl64 4 (by decide), tl32 5 (by decide), tl64 5 (by decide), tl32 6 (by decide), tl64 6 (by decide), tl32 7 (by decide), tl64 7 (by decide), tl32 8 (by decide), tl64 8 (by decide), tl32 9 (by decide), tl64 9 (by decide), tl32 10 (by decide), tl64 10 (by decide), tl32 11 (by decide), tl64 11 (by decide), tl32 105 (by decide), tl64 105 (by decide)] at c3); (try simp (disch := omega) only [ta_lt, ta_le, ta_eq, tb_lt, tb_le, tb_eq, tw, tnI, tsub1, tsv, tsb32, tn32 1 (by decide), tnj 1 (by decide), tl32 0 (by decide), tl64 0 (by decide), tl32 3 (by decide), tl64 3 (by decide), tl32 4 (by decide), tl64 4 (by decide), tl32 5 (by decide), tl64 5 (by decide), tl32 6 (by decide), tl64 6 (by decide), tl32 7 (by decide), tl64 7 (by decide), tl32 8 (by decide), tl64 8 (by decide), tl32 9 (by decide), tl64 9 (by decide), tl32 10 (by decide), tl64 10 (by decide), tl32 11 (by decide), tl64 11 (by decide), tl32 105 (by decide), tl64 105 (by decide)]); omega) (by (try simp only [lg_cmp_lt, lg_cmp_le, lg_cmp_gt, lg_cmp_ge, lg_cmp_eq] at c1); (try simp (disch := omega) only [ta_lt, ta_le, ta_eq, tb_lt, tb_le, tb_eq, tw, tnI, tsub1, tsv, tsb32, tn32 1 (by decide), tnj 1 (by decide), tl32 0 (by decide), tl64 0 (by decide), tl32 3 (by decide), tl64 3 (by decide), tl32 4 (by decide), tl64 4 (by decide), tl32 5 (by decide), tl64 5 (by decide), tl32 6 (by decide), tl64 6 (by decide), tl32 7 (by decide), tl64 7 (by decide), tl32 8 (by decide), tl64 8 (by decide), tl32 9 (by decide), tl64 9 (by decide), tl32 10 (by decide), tl64 10 (by decide), tl32 11 (by decide), tl64 11 (by decide), tl32 105 (by decide), tl64 105 (by decide)] at c1); (try simp only [lg_cmp_lt, lg_cmp_le, lg_cmp_gt, lg_cmp_ge, lg_cmp_eq] at c3); (try simp (disch := omega) only [ta_lt, ta_le, ta_eq, tb_lt, tb_le, tb_eq, tw, tnI, tsub1, tsv, tsb32, tn32 1 (by decide), tnj 1 (by decide), tl32 0 (by decide), tl64 0 (by decide), tl32 3 (by decide), tl64 3 (by decide), tl32 4 (by decide), tl64 4 (by decide), tl32 5 (by decide), tl64 5 (by decide), tl32 6 (by decide), tl64 6 (by decide), tl32 7 (by decide), tl64 7 (by decide), tl32 8 (by decide), tl64 8 (by decide), tl32 9 (by decide), tl64 9 (by decide), tl32 10 (by decide), tl64 10 (by decide), tl32 11 (by decide), tl64 11 (by decide), tl32 105 (by decide), tl64 105 (by decide)] at c3); (try simp (disch := omega) only [ta_lt, ta_le, ta_eq, tb_lt, tb_le, tb_eq, tw, tnI, tsub1, tsv, tsb32, tn32 1 (by decide), tnj 1 (by decide), tl32 0 (by decide), tl64 0 (by decide), tl32 3 (by decide), tl64 3 (by decide), tl32 4 (by decide), tl64 4 (by decide), tl32 5 (by decide), tl64 5 (by decide), tl32 6 (by decide), tl64 6 (by decide), tl32 7 (by decide), tl64 7 (by decide), tl32 8 (by decide), tl64 8 (by decide), tl32 9 (by decide), tl64 9 (by decide), tl32 10 (by decide), tl64 10 (by decide), tl32 11 (by decide), tl64 11 (by decide), tl32 105 (by decide), tl64 105 (by decide)]); omega) (by rcases hwd with ⟨h1, h2⟩ | h | h | h | h; (· right; left; refine ⟨by omega, by omega, by omega, ?_⟩; have e1 : fr = q4_14 := (by omega); have e2 : q3_14 * 256 + cc = cc := (by omega); rw [e1, e2]; exact ev6.trans ecc); (· right; right; left; omega); (· right; right; right; left; omega); (· right; right; right; right; omega); (· omega)) hw (lv_sub hl [0, 1, 2, 3, 4] rfl)
    exact lp2 _ fr 0 _ _ _ (Nat.lt_succ_self _) (by (try simp only [lg_cmp_lt, lg_cmp_le, lg_cmp_gt, lg_cmp_ge, lg_cmp_eq] at c1); (try simp (disch := omega) only [ta_lt, ta_le, ta_eq, tb_lt, tb_le, tb_eq, tw, tnI, tsub1, tsv, tsb32, tn32 1 (by decide), tnj 1 (by decide), tl32 0 (by decide), tl64 0 (by decide), tl32 3 (by decide), tl64 3 (by decide), tl32 4 (by decide), tl64 4 (by decide), tl32 5 (by decide), tl64 5 (by decide), tl32 6 (by decide), tl64 6 (by decide), tl32 7 (by decide), tl64 7 (by decide), tl32 8 (by decide), tl64 8 (by decide), tl32 9 (by decide), tl64 9 (by decide), tl32 10 (by decide), tl64 10 (by decide), tl32 11 (by decide), tl64 11 (by decide), tl32 105 (by decide), tl64 105 (by decide)] at c1); (try simp (disch := omega) only [ta_lt, ta_le, ta_eq, tb_lt, tb_le, tb_eq, tw, tnI, tsub1, tsv, tsb32, tn32 1 (by decide), tnj 1 (by decide), tl32 0 (by decide), tl64 0 (by decide), tl32 3 (by decide), tl64 3 (by decide), tl32 4 (by decide), tl64 4 (by decide), tl32 5 (by decide), tl64 5 (by decide), tl32 6 (by decide), tl64 6 (by decide), tl32 7 (by decide), tl64 7 (by decide), tl32 8 (by decide), tl64 8 (by decide), tl32 9 (by decide), tl64 9 (by decide), tl32 10 (by decide), tl64 10 (by decide), tl32 11 (by decide), tl64 11 (by decide), tl32 105 (by decide), tl64 105 (by decide)]); omega) (by (try simp only [lg_cmp_lt, lg_cmp_le, lg_cmp_gt, lg_cmp_ge, lg_cmp_eq] at c1); (try simp (disch := omega) only [ta_lt, ta_le, ta_eq, tb_lt, tb_le, tb_eq, tw, tnI, tsub1, tsv, tsb32, tn32 1 (by decide), tnj 1 (by decide), tl32 0 (by decide), tl64 0 (by decide), tl32 3 (by decide), tl64 3 (by decide), tl32 4 (by decide), tl64 4 (by decide), tl32 5 (by decide), tl64 5 (by decide), tl32 6 (by decide), tl64 6 (by decide), tl32 7 (by decide), tl64 7 (by decide), tl32 8 (by decide), tl64 8 (by decide), tl32 9 (by decide), tl64 9 (by decide), tl32 10 (by decide), tl64 10 (by decide), tl32 11 (by decide), tl64 11 (by decide), tl32 105 (by decide), tl64 105 (by decide)] at c1); (try simp (disch := omega) only [ta_lt, ta_le, ta_eq, tb_lt, tb_le, tb_eq, tw, tnI, tsub1, tsv, tsb32, tn32 1 (by decide), tnj 1 (by decide), tl32 0 (by decide), tl64 0 (by decide), tl32 3 (by decide), tl64 3 (by decide), tl32 4 (by decide), tl64 4 (by decide), tl32 5 (by decide), tl64 5 (by decide), tl32 6 (by decide), tl64 6 (by decide), tl32 7 (by decide), tl64 7 (by decide), tl32 8 (by decide), tl64 8 (by decide), tl32 9 (by decide), tl64 9 (by decide), tl32 10 (by decide), tl64 10 (by decide), tl32 11 (by decide), tl64 11 (by decide), tl32 105 (by decide), tl64 105 (by decide)]); omega) (Or.inl ⟨rfl, rfl⟩) hw (lv_sub hl [0, 1, 2, 3, 4] rfl)
  · simp (disch := omega) only [ta_lt, ta_le, ta_eq, tnI, tl32 4 (by decide)] at c1
    refine lv_iconst (v := 4) hx hb (dkP dF_7 DX5_wordKind (i := 5) rfl rfl) (by decide) ?_
    exact z_iret C0 hr hlk hw (⟨(fun h => absurd h (by decide)), rfl⟩) (dkP dF_172 DX5_wordKind (i := 6) rfl rfl)
set_option maxRecDepth 100000 in
set_option maxHeartbeats 8000000 in
theorem c_X5_numberOf (l : Launch) (G : va_G) (kc : KC) (ad : Nat → Nat) (σ : Sg) (fr : Nat) (past : Nat) (hfp : fr ≤ past) (hp6 : past ≤ 600) (hT : TC σ) : MI l G kc yX5_numberOf cX5_numberOf 5 (some .int) 1 21 [.ref (ad 186), .int (nI fr), .int (nI past)] shC ad σ (fun r σ1 => σ1 = σ) := by
  intro sz
  refine z_body (y := yX5_numberOf) (n := 5) (av := [.ref (ad 186), .int (nI fr), .int (nI past)]) (Qc := fun A => va_Qi (fun r σ1 => σ1 = σ) (PoC G kc shC ad A) A) (plainFor_of_name (by decide)) (Nat.le_of_ble_eq_true rfl) (fun pr e s m below meth c A C0 hr hlk hnm hw hRo ls hl => ?_) sz
  have hx := C0.1
  have hb := C0.2.1
  have hown := C0.2.2.2.1
  have hts := C0.2.2.2.2.1
  have hl : lv_has ls 5 [(0, .ref (ad 186)), (1, .int (nI fr)), (2, .int (nI past))] := hl
  refine lv_iconst (v := 0) hx hb (dkP dF_3 DX5_numberOf (i := 0) rfl rfl) (by decide) ?_
  refine lv_istore_n (lv' := [(3, .int 0), (0, .ref (ad 186)), (1, .int (nI fr)), (2, .int (nI past))]) hx hb (dkP dF_62 DX5_numberOf (i := 1) rfl rfl) rfl hl (by decide) rfl (fun ls hl => ?_)
  refine lv_iload_n hx hb (dkP dF_27 DX5_numberOf (i := 2) rfl rfl) rfl (lv_at hl 2 rfl) ?_
  refine lv_istore (lv' := [(4, .int (nI fr)), (3, .int 0), (0, .ref (ad 186)), (1, .int (nI fr)), (2, .int (nI past))]) hx hb (dk1 dF_54 DX5_numberOf (i := 3) rfl rfl rfl) hl (by decide) rfl (fun ls hl => ?_)
  have lp1 : ∀ (nq : Nat) (q4_5 : Nat) (q3_5 : Int32) (H : Heap) (locs : List Loc) (ls : Array Slot), past - q4_5 < nq → (q4_5 ≤ past) → St G kc A s.heap shC ad σ H locs → lv_has ls 5 [(4, .int (nI q4_5)), (3, .int q3_5), (0, .ref (ad 186)), (1, .int (nI fr)), (2, .int (nI past))] → W pr l e { frames := 1, cells := 0, slots := 0, locals := 21 } s m ([.ref (ad 186), .int (nI fr), .int (nI past)] : List Value).toArray below meth c H locs 0 0 (MQ below (va_Qi (fun r σ1 => σ1 = σ) (PoC G kc shC ad A) A) ([.ref (ad 186), .int (nI fr), .int (nI past)] : List Value).toArray s 0 0 A) (F0 m 5 ls []) := by
    intro nq
    induction nq with
    | zero => intro q4_5 q3_5 H locs ls hmu; exact absurd hmu (Nat.not_lt_zero _)
    | succ nq ih1 =>
      intro q4_5 q3_5 H locs ls hmu hq4_5 hw hl
      refine lv_iload hx hb (dk1 dF_21 DX5_numberOf (i := 4) rfl rfl rfl) (lv_at hl 0 rfl) ?_
      refine lv_iload_n hx hb (dkP dF_28 DX5_numberOf (i := 5) rfl rfl) rfl (lv_at hl 4 rfl) ?_
      refine lv_icmp_ge (tgt := 39) hx hb (dkS dF_162 DX5_numberOf (i := 6) rfl rfl rfl) (by decide) (fun c2 => ?_) (fun c2 => ?_)
      · simp (disch := omega) only [ta_lt, ta_le, ta_eq, tnI] at c2
        refine lv_iload_n hx hb (dkP dF_29 DX5_numberOf (i := 22) rfl rfl) rfl (lv_at hl 1 rfl) ?_
        exact z_iret C0 hr hlk hw rfl (dkP dF_172 DX5_numberOf (i := 23) rfl rfl)
      · simp (disch := omega) only [ta_lt, ta_le, ta_eq, tnI] at c2
        refine lv_iload_n hx hb (dkP dF_29 DX5_numberOf (i := 7) rfl rfl) rfl (lv_at hl 1 rfl) ?_
        refine lv_bipush (v := 10) hx hb (dks dF_16 DX5_numberOf (i := 8) rfl rfl rfl) (by decide) ?_
        refine lv_imul hx hb (dkP dF_104 DX5_numberOf (i := 9) rfl rfl) ?_
        refine lv_aload_n hx hb (dkP dF_42 DX5_numberOf (i := 10) rfl rfl) rfl (lv_at hl 2 rfl) ?_
        refine z_gr C0 hw 186 0 187 (fk_of shc_186 rfl) fl_X5_11 (dk2 dF_180 DX5_numberOf (i := 11) rfl rfl rfl) ?_
        refine lv_iload hx hb (dk1 dF_21 DX5_numberOf (i := 12) rfl rfl rfl) (lv_at hl 0 rfl) ?_
        refine z_baldN (n := 600) C0 hw 187 q4_5 (ak_of shc_187) (by omega) (by decide) (dkP dF_51 DX5_numberOf (i := 13) rfl rfl) ?_
        obtain ⟨v3, ev3⟩ : ∃ y : Int32, σ.1 187 q4_5 = y := ⟨_, rfl⟩
        refine z_top (y := v3) ev3 ?_
        refine lv_iadd hx hb (dkP dF_96 DX5_numberOf (i := 14) rfl rfl) ?_
        refine lv_bipush (v := 48) hx hb (dks dF_16 DX5_numberOf (i := 15) rfl rfl rfl) (by decide) ?_
        refine lv_isub hx hb (dkP dF_100 DX5_numberOf (i := 16) rfl rfl) ?_
        refine lv_sipush (v := 10000) hx hb (dkS dF_17 DX5_numberOf (i := 17) rfl rfl rfl) (by decide) ?_
        refine zn_I hw (zr_S (As := [.int (((q3_5 * 10) + v3) - 48), .int 10000]) (rest := []) C0 (c_J9_min_7cf53 l G kc (((q3_5 * 10) + v3) - 48) 10000  _) cs_J9_min_7cf53 lk_X5_104 (zp_P C0 hRo hw a00 s00) rfl hl.1 rfl ⟨by decide, by decide⟩ (Nat.le_of_ble_eq_true rfl) (dk2 dF_184 DX5_numberOf (i := 18) rfl rfl rfl) ⟨Nat.le_refl _, Nat.le_refl _⟩) (fun r4 s4 H locs hp hw => ?_)
        refine lv_istore_n (lv' := [(3, .int r4), (4, .int (nI q4_5)), (0, .ref (ad 186)), (1, .int (nI fr)), (2, .int (nI past))]) hx hb (dkP dF_62 DX5_numberOf (i := 19) rfl rfl) rfl hl (by decide) rfl (fun ls hl => ?_)
        refine lv_iinc (v := nI (q4_5 + 1)) (lv' := [(4, .int (nI (q4_5 + 1))), (3, .int r4), (0, .ref (ad 186)), (1, .int (nI fr)), (2, .int (nI past))]) hx hb (dkI DX5_numberOf (i := 20) rfl rfl rfl rfl) hl (k := 1) rfl (nI_1 _) (by decide) rfl (fun ls hl => ?_)
        refine lv_goto (tgt := 5) hx hb (dkS dF_167 DX5_numberOf (i := 21) rfl rfl rfl) (by decide) ?_
        exact ih1 (q4_5 + 1) r4 _ _ _ (by omega) (by (try simp only [lg_cmp_lt, lg_cmp_le, lg_cmp_gt, lg_cmp_ge, lg_cmp_eq] at c2); (try simp (disch := omega) only [ta_lt, ta_le, ta_eq, tb_lt, tb_le, tb_eq, tw, tnI, tsub1, tsv, tsb32, tn32 1 (by decide), tnj 1 (by decide), tl32 0 (by decide), tl64 0 (by decide), tl32 10 (by decide), tl64 10 (by decide), tl32 48 (by decide), tl64 48 (by decide), tl32 10000 (by decide), tl64 10000 (by decide)] at c2); (try simp (disch := omega) only [ta_lt, ta_le, ta_eq, tb_lt, tb_le, tb_eq, tw, tnI, tsub1, tsv, tsb32, tn32 1 (by decide), tnj 1 (by decide), tl32 0 (by decide), tl64 0 (by decide), tl32 10 (by decide), tl64 10 (by decide), tl32 48 (by decide), tl64 48 (by decide), tl32 10000 (by decide), tl64 10000 (by decide)]); omega) hw (lv_sub hl [0, 1, 2, 3, 4] rfl)
  exact lp1 _ fr 0 _ _ _ (Nat.lt_succ_self _) (by (try simp (disch := omega) only [ta_lt, ta_le, ta_eq, tb_lt, tb_le, tb_eq, tw, tnI, tsub1, tsv, tsb32, tn32 1 (by decide), tnj 1 (by decide), tl32 0 (by decide), tl64 0 (by decide), tl32 10 (by decide), tl64 10 (by decide), tl32 48 (by decide), tl64 48 (by decide), tl32 10000 (by decide), tl64 10000 (by decide)]); omega) hw (lv_sub hl [0, 1, 2, 3, 4] rfl)
